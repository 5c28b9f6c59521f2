section
theorem d_Mod_firstFrame_0 : decode b_Mod_firstFrame 0 = .ok (.iconst 0, 1) := by decide +kernel
theorem d_Mod_firstFrame_1 : decode b_Mod_firstFrame 1 = .ok (.istore_n 2, 1) := by decide +kernel
theorem d_Mod_firstFrame_2 : decode b_Mod_firstFrame 2 = .ok (.iload_n 2, 1) := by decide +kernel
theorem d_Mod_firstFrame_3 : decode b_Mod_firstFrame 3 = .ok (.sipush 128, 3) := by decide +kernel
theorem d_Mod_firstFrame_6 : decode b_Mod_firstFrame 6 = .ok (.if_icmp .ge 16, 3) := by decide +kernel
theorem d_Mod_firstFrame_9 : decode b_Mod_firstFrame 9 = .ok (.aload_n 0, 1) := by decide +kernel
theorem d_Mod_firstFrame_10 : decode b_Mod_firstFrame 10 = .ok (.getfield 100, 3) := by decide +kernel
theorem d_Mod_firstFrame_13 : decode b_Mod_firstFrame 13 = .ok (.iload_n 2, 1) := by decide +kernel
theorem d_Mod_firstFrame_14 : decode b_Mod_firstFrame 14 = .ok (.iconst 0, 1) := by decide +kernel
theorem d_Mod_firstFrame_15 : decode b_Mod_firstFrame 15 = .ok (.iastore, 1) := by decide +kernel
theorem d_Mod_firstFrame_16 : decode b_Mod_firstFrame 16 = .ok (.iinc 2 1, 3) := by decide +kernel
theorem d_Mod_firstFrame_19 : decode b_Mod_firstFrame 19 = .ok (.goto (-17), 3) := by decide +kernel
theorem d_Mod_firstFrame_22 : decode b_Mod_firstFrame 22 = .ok (.aload_n 0, 1) := by decide +kernel
theorem d_Mod_firstFrame_23 : decode b_Mod_firstFrame 23 = .ok (.aload_n 0, 1) := by decide +kernel
theorem d_Mod_firstFrame_24 : decode b_Mod_firstFrame 24 = .ok (.getfield 59, 3) := by decide +kernel
theorem d_Mod_firstFrame_27 : decode b_Mod_firstFrame 27 = .ok (.iload_n 1, 1) := by decide +kernel
theorem d_Mod_firstFrame_28 : decode b_Mod_firstFrame 28 = .ok (.iaload, 1) := by decide +kernel
theorem d_Mod_firstFrame_29 : decode b_Mod_firstFrame 29 = .ok (.invokevirtual 333, 3) := by decide +kernel
theorem d_Mod_firstFrame_32 : decode b_Mod_firstFrame 32 = .ok (.iconst 0, 1) := by decide +kernel
theorem d_Mod_firstFrame_33 : decode b_Mod_firstFrame 33 = .ok (.istore_n 2, 1) := by decide +kernel
theorem d_Mod_firstFrame_34 : decode b_Mod_firstFrame 34 = .ok (.iconst 1, 1) := by decide +kernel
theorem d_Mod_firstFrame_35 : decode b_Mod_firstFrame 35 = .ok (.istore_n 3, 1) := by decide +kernel
theorem d_Mod_firstFrame_36 : decode b_Mod_firstFrame 36 = .ok (.aload_n 0, 1) := by decide +kernel
theorem d_Mod_firstFrame_37 : decode b_Mod_firstFrame 37 = .ok (.getfield 50, 3) := by decide +kernel
theorem d_Mod_firstFrame_40 : decode b_Mod_firstFrame 40 = .ok (.iload_n 1, 1) := by decide +kernel
theorem d_Mod_firstFrame_41 : decode b_Mod_firstFrame 41 = .ok (.iaload, 1) := by decide +kernel
theorem d_Mod_firstFrame_42 : decode b_Mod_firstFrame 42 = .ok (.bipush 8, 2) := by decide +kernel
theorem d_Mod_firstFrame_44 : decode b_Mod_firstFrame 44 = .ok (.iand, 1) := by decide +kernel
theorem d_Mod_firstFrame_45 : decode b_Mod_firstFrame 45 = .ok (.ifCond .eq 7, 3) := by decide +kernel
theorem d_Mod_firstFrame_48 : decode b_Mod_firstFrame 48 = .ok (.iconst 0, 1) := by decide +kernel
theorem d_Mod_firstFrame_49 : decode b_Mod_firstFrame 49 = .ok (.goto 4, 3) := by decide +kernel
theorem d_Mod_firstFrame_52 : decode b_Mod_firstFrame 52 = .ok (.iconst (-1), 1) := by decide +kernel
theorem d_Mod_firstFrame_53 : decode b_Mod_firstFrame 53 = .ok (.istore 4, 2) := by decide +kernel
theorem d_Mod_firstFrame_55 : decode b_Mod_firstFrame 55 = .ok (.iload 4, 2) := by decide +kernel
theorem d_Mod_firstFrame_57 : decode b_Mod_firstFrame 57 = .ok (.aload_n 0, 1) := by decide +kernel
theorem d_Mod_firstFrame_58 : decode b_Mod_firstFrame 58 = .ok (.getfield 300, 3) := by decide +kernel
theorem d_Mod_firstFrame_61 : decode b_Mod_firstFrame 61 = .ok (.if_icmp .ge 113, 3) := by decide +kernel
theorem d_Mod_firstFrame_64 : decode b_Mod_firstFrame 64 = .ok (.iload 4, 2) := by decide +kernel
theorem d_Mod_firstFrame_66 : decode b_Mod_firstFrame 66 = .ok (.ifCond .ge 7, 3) := by decide +kernel
theorem d_Mod_firstFrame_69 : decode b_Mod_firstFrame 69 = .ok (.iconst 4, 1) := by decide +kernel
theorem d_Mod_firstFrame_70 : decode b_Mod_firstFrame 70 = .ok (.goto 10, 3) := by decide +kernel
theorem d_Mod_firstFrame_73 : decode b_Mod_firstFrame 73 = .ok (.aload_n 0, 1) := by decide +kernel
theorem d_Mod_firstFrame_74 : decode b_Mod_firstFrame 74 = .ok (.getfield 106, 3) := by decide +kernel
theorem d_Mod_firstFrame_77 : decode b_Mod_firstFrame 77 = .ok (.iload 4, 2) := by decide +kernel
theorem d_Mod_firstFrame_79 : decode b_Mod_firstFrame 79 = .ok (.iaload, 1) := by decide +kernel
theorem d_Mod_firstFrame_80 : decode b_Mod_firstFrame 80 = .ok (.istore 5, 2) := by decide +kernel
theorem d_Mod_firstFrame_82 : decode b_Mod_firstFrame 82 = .ok (.iload 5, 2) := by decide +kernel
theorem d_Mod_firstFrame_84 : decode b_Mod_firstFrame 84 = .ok (.iconst 2, 1) := by decide +kernel
theorem d_Mod_firstFrame_85 : decode b_Mod_firstFrame 85 = .ok (.if_icmp .eq 10, 3) := by decide +kernel
theorem d_Mod_firstFrame_88 : decode b_Mod_firstFrame 88 = .ok (.iload 5, 2) := by decide +kernel
theorem d_Mod_firstFrame_90 : decode b_Mod_firstFrame 90 = .ok (.bipush 9, 2) := by decide +kernel
theorem d_Mod_firstFrame_92 : decode b_Mod_firstFrame 92 = .ok (.if_icmp .le 7, 3) := by decide +kernel
theorem d_Mod_firstFrame_95 : decode b_Mod_firstFrame 95 = .ok (.iconst 2, 1) := by decide +kernel
theorem d_Mod_firstFrame_96 : decode b_Mod_firstFrame 96 = .ok (.goto 4, 3) := by decide +kernel
theorem d_Mod_firstFrame_99 : decode b_Mod_firstFrame 99 = .ok (.iconst 1, 1) := by decide +kernel
theorem d_Mod_firstFrame_100 : decode b_Mod_firstFrame 100 = .ok (.istore 6, 2) := by decide +kernel
theorem d_Mod_firstFrame_102 : decode b_Mod_firstFrame 102 = .ok (.iload_n 3, 1) := by decide +kernel
theorem d_Mod_firstFrame_103 : decode b_Mod_firstFrame 103 = .ok (.ifCond .eq 20, 3) := by decide +kernel
theorem d_Mod_firstFrame_106 : decode b_Mod_firstFrame 106 = .ok (.iload_n 2, 1) := by decide +kernel
theorem d_Mod_firstFrame_107 : decode b_Mod_firstFrame 107 = .ok (.iload 6, 2) := by decide +kernel
theorem d_Mod_firstFrame_109 : decode b_Mod_firstFrame 109 = .ok (.iadd, 1) := by decide +kernel
theorem d_Mod_firstFrame_110 : decode b_Mod_firstFrame 110 = .ok (.aload_n 0, 1) := by decide +kernel
theorem d_Mod_firstFrame_111 : decode b_Mod_firstFrame 111 = .ok (.getfield 68, 3) := by decide +kernel
theorem d_Mod_firstFrame_114 : decode b_Mod_firstFrame 114 = .ok (.iload_n 1, 1) := by decide +kernel
theorem d_Mod_firstFrame_115 : decode b_Mod_firstFrame 115 = .ok (.iaload, 1) := by decide +kernel
theorem d_Mod_firstFrame_116 : decode b_Mod_firstFrame 116 = .ok (.if_icmp .gt 7, 3) := by decide +kernel
theorem d_Mod_firstFrame_119 : decode b_Mod_firstFrame 119 = .ok (.iconst 1, 1) := by decide +kernel
theorem d_Mod_firstFrame_120 : decode b_Mod_firstFrame 120 = .ok (.goto 4, 3) := by decide +kernel
theorem d_Mod_firstFrame_123 : decode b_Mod_firstFrame 123 = .ok (.iconst 0, 1) := by decide +kernel
theorem d_Mod_firstFrame_124 : decode b_Mod_firstFrame 124 = .ok (.istore_n 3, 1) := by decide +kernel
theorem d_Mod_firstFrame_125 : decode b_Mod_firstFrame 125 = .ok (.iload_n 3, 1) := by decide +kernel
theorem d_Mod_firstFrame_126 : decode b_Mod_firstFrame 126 = .ok (.ifCond .eq 37, 3) := by decide +kernel
theorem d_Mod_firstFrame_129 : decode b_Mod_firstFrame 129 = .ok (.aload_n 0, 1) := by decide +kernel
theorem d_Mod_firstFrame_130 : decode b_Mod_firstFrame 130 = .ok (.getfield 100, 3) := by decide +kernel
theorem d_Mod_firstFrame_133 : decode b_Mod_firstFrame 133 = .ok (.iload_n 2, 1) := by decide +kernel
theorem d_Mod_firstFrame_134 : decode b_Mod_firstFrame 134 = .ok (.iload 5, 2) := by decide +kernel
theorem d_Mod_firstFrame_136 : decode b_Mod_firstFrame 136 = .ok (.bipush 9, 2) := by decide +kernel
theorem d_Mod_firstFrame_138 : decode b_Mod_firstFrame 138 = .ok (.if_icmp .lt 7, 3) := by decide +kernel
theorem d_Mod_firstFrame_141 : decode b_Mod_firstFrame 141 = .ok (.iconst 0, 1) := by decide +kernel
theorem d_Mod_firstFrame_142 : decode b_Mod_firstFrame 142 = .ok (.goto 5, 3) := by decide +kernel
theorem d_Mod_firstFrame_145 : decode b_Mod_firstFrame 145 = .ok (.iload 5, 2) := by decide +kernel
theorem d_Mod_firstFrame_147 : decode b_Mod_firstFrame 147 = .ok (.iastore, 1) := by decide +kernel
theorem d_Mod_firstFrame_148 : decode b_Mod_firstFrame 148 = .ok (.iload 5, 2) := by decide +kernel
theorem d_Mod_firstFrame_150 : decode b_Mod_firstFrame 150 = .ok (.iconst 2, 1) := by decide +kernel
theorem d_Mod_firstFrame_151 : decode b_Mod_firstFrame 151 = .ok (.if_icmp .ne 12, 3) := by decide +kernel
theorem d_Mod_firstFrame_154 : decode b_Mod_firstFrame 154 = .ok (.aload_n 0, 1) := by decide +kernel
theorem d_Mod_firstFrame_155 : decode b_Mod_firstFrame 155 = .ok (.getfield 100, 3) := by decide +kernel
theorem d_Mod_firstFrame_158 : decode b_Mod_firstFrame 158 = .ok (.iload_n 2, 1) := by decide +kernel
theorem d_Mod_firstFrame_159 : decode b_Mod_firstFrame 159 = .ok (.iconst 1, 1) := by decide +kernel
theorem d_Mod_firstFrame_160 : decode b_Mod_firstFrame 160 = .ok (.iadd, 1) := by decide +kernel
theorem d_Mod_firstFrame_161 : decode b_Mod_firstFrame 161 = .ok (.iconst 3, 1) := by decide +kernel
theorem d_Mod_firstFrame_162 : decode b_Mod_firstFrame 162 = .ok (.iastore, 1) := by decide +kernel
theorem d_Mod_firstFrame_163 : decode b_Mod_firstFrame 163 = .ok (.iload_n 2, 1) := by decide +kernel
theorem d_Mod_firstFrame_164 : decode b_Mod_firstFrame 164 = .ok (.iload 6, 2) := by decide +kernel
theorem d_Mod_firstFrame_166 : decode b_Mod_firstFrame 166 = .ok (.iadd, 1) := by decide +kernel
theorem d_Mod_firstFrame_167 : decode b_Mod_firstFrame 167 = .ok (.istore_n 2, 1) := by decide +kernel
theorem d_Mod_firstFrame_168 : decode b_Mod_firstFrame 168 = .ok (.iinc 4 1, 3) := by decide +kernel
theorem d_Mod_firstFrame_171 : decode b_Mod_firstFrame 171 = .ok (.goto (-116), 3) := by decide +kernel
theorem d_Mod_firstFrame_174 : decode b_Mod_firstFrame 174 = .ok (.iload_n 3, 1) := by decide +kernel
theorem d_Mod_firstFrame_175 : decode b_Mod_firstFrame 175 = .ok (.ifCond .ne 16, 3) := by decide +kernel
theorem d_Mod_firstFrame_178 : decode b_Mod_firstFrame 178 = .ok (.aload_n 0, 1) := by decide +kernel
theorem d_Mod_firstFrame_179 : decode b_Mod_firstFrame 179 = .ok (.bipush 21, 2) := by decide +kernel
theorem d_Mod_firstFrame_181 : decode b_Mod_firstFrame 181 = .ok (.aload_n 0, 1) := by decide +kernel
theorem d_Mod_firstFrame_182 : decode b_Mod_firstFrame 182 = .ok (.getfield 53, 3) := by decide +kernel
theorem d_Mod_firstFrame_185 : decode b_Mod_firstFrame 185 = .ok (.iload_n 1, 1) := by decide +kernel
theorem d_Mod_firstFrame_186 : decode b_Mod_firstFrame 186 = .ok (.iaload, 1) := by decide +kernel
theorem d_Mod_firstFrame_187 : decode b_Mod_firstFrame 187 = .ok (.invokevirtual 159, 3) := by decide +kernel
theorem d_Mod_firstFrame_190 : decode b_Mod_firstFrame 190 = .ok (.return_, 1) := by decide +kernel
theorem d_Mod_firstFrame_191 : decode b_Mod_firstFrame 191 = .ok (.aload_n 0, 1) := by decide +kernel
theorem d_Mod_firstFrame_192 : decode b_Mod_firstFrame 192 = .ok (.aload_n 0, 1) := by decide +kernel
theorem d_Mod_firstFrame_193 : decode b_Mod_firstFrame 193 = .ok (.getfield 71, 3) := by decide +kernel
theorem d_Mod_firstFrame_196 : decode b_Mod_firstFrame 196 = .ok (.iload_n 1, 1) := by decide +kernel
theorem d_Mod_firstFrame_197 : decode b_Mod_firstFrame 197 = .ok (.iaload, 1) := by decide +kernel
theorem d_Mod_firstFrame_198 : decode b_Mod_firstFrame 198 = .ok (.aload_n 0, 1) := by decide +kernel
theorem d_Mod_firstFrame_199 : decode b_Mod_firstFrame 199 = .ok (.getfield 100, 3) := by decide +kernel
theorem d_Mod_firstFrame_202 : decode b_Mod_firstFrame 202 = .ok (.iconst 0, 1) := by decide +kernel
theorem d_Mod_firstFrame_203 : decode b_Mod_firstFrame 203 = .ok (.invokevirtual 376, 3) := by decide +kernel
theorem d_Mod_firstFrame_206 : decode b_Mod_firstFrame 206 = .ok (.return_, 1) := by decide +kernel
end
section
set_option maxHeartbeats 4000000 in
set_option maxRecDepth 100000 in
theorem g_Mod_firstFrame (l : Launch) (g : tw_G) (sz : Nat) (h0 : Nat) (q : Nat → Nat) (rf : Int32) (n : Nat) (mm : Int32) (mb : Int32) (av : Nat) (ev : Nat) (wi : Int32) (mn : Nat) (tp : Int32) (tc : Int32) (sc : Int32) (nf : Nat) (fd : Nat) (me : Nat) (mp : Int32) (xn : Nat) (mt : Nat) (wh : Nat) (tq : Nat) (ig : Int32) (bs : Nat → Int32) (on : Nat → Int32) (tw : Nat → Int32) (fl : Nat → Int32) (pl : Nat → Int32) (ty : Nat → Int32) (lo : Nat → Int32) (bg : Nat → Int32) (fa : Int32) (fp : Int32) (ag : Nat) (an : Int32) (dp : Nat → Int32) (iw : Nat → Int32) (kd : Nat → Int32) (nw : Nat → Int32) (ak : Nat → Int32) (b1 l1 o1 jt pt lt1 : Nat) (hmt : mt < 160) (hbg : bg mt = nI b1) (hb6 : b1 < 600) (hlo : lo mt = nI o1) (ho64 : o1 ≤ 64) (hFR : FRG dp iw kd) (hty : ty mt = nI jt) (jt6 : jt < 620) (hj1 : on jt = nI pt) (hj2 : tw jt = nI lt1) (hj3 : pt + lt1 ≤ 600) (hj4 : MTY bs pt (pt + lt1)) : Met l y_Mod_firstFrame [.code y_Mod_firstFrame b_Mod_firstFrame 7 none] ({ frames := 5, cells := 0, slots := 0, locals := 117 }) (tw_P g [.ref h0, .int (nI mt)] [(h0, .inr (10, mob q rf n mm mb fa fp av ev wi mn tp tc sc nf fd me mp xn mt wh tq ag an ig)), ((q 2), aI g 600 bs), ((q 16), aI g 620 on), ((q 17), aI g 620 tw), ((q 27), aI g 160 fl), ((q 28), aI g 160 pl), ((q 30), aI g 160 ty), ((q 33), aI g 160 lo), ((q 34), aI g 160 bg), ((q 41), aI g 600 dp), ((q 42), aZ g 600 iw), ((q 43), aI g 76800 kd), ((q 47), aI g 128 nw), ((q 50), aI g 600 ak)] sz) (tw_Qv g (fun (u : Int32 × Int32 × Nat × Int32 × (Nat → Int32) × (Nat → Int32) × (Nat → Int32) × (Nat → Int32) × (Nat → Int32)) => (u.1 = 0 → fa = 0) ∧ (FRG u.2.2.2.2.1 u.2.2.2.2.2.1 u.2.2.2.2.2.2.1) ∧ (MU u.2.2.2.2.1 u.2.2.2.2.2.1 u.2.2.2.2.2.2.1 ≤ MU dp iw kd)) (fun u : Int32 × Int32 × Nat × Int32 × (Nat → Int32) × (Nat → Int32) × (Nat → Int32) × (Nat → Int32) × (Nat → Int32) => [(h0, .inr (10, mob q rf n mm mb u.1 u.2.1 av ev wi mn tp tc sc nf fd me mp xn mt wh tq u.2.2.1 u.2.2.2.1 ig)), ((q 2), aI g 600 bs), ((q 16), aI g 620 on), ((q 17), aI g 620 tw), ((q 27), aI g 160 fl), ((q 28), aI g 160 pl), ((q 30), aI g 160 ty), ((q 33), aI g 160 lo), ((q 34), aI g 160 bg), ((q 41), aI g 600 u.2.2.2.2.1), ((q 42), aZ g 600 u.2.2.2.2.2.1), ((q 43), aI g 76800 u.2.2.2.2.2.2.1), ((q 47), aI g 128 u.2.2.2.2.2.2.2.1), ((q 50), aI g 600 u.2.2.2.2.2.2.2.2)]) (va_A [(h0, .inr (10, mob q rf n mm mb fa fp av ev wi mn tp tc sc nf fd me mp xn mt wh tq ag an ig)), ((q 2), aI g 600 bs), ((q 16), aI g 620 on), ((q 17), aI g 620 tw), ((q 27), aI g 160 fl), ((q 28), aI g 160 pl), ((q 30), aI g 160 ty), ((q 33), aI g 160 lo), ((q 34), aI g 160 bg), ((q 41), aI g 600 dp), ((q 42), aZ g 600 iw), ((q 43), aI g 76800 kd), ((q 47), aI g 128 nw), ((q 50), aI g 600 ak)] sz)) 0 0 (va_A [(h0, .inr (10, mob q rf n mm mb fa fp av ev wi mn tp tc sc nf fd me mp xn mt wh tq ag an ig)), ((q 2), aI g 600 bs), ((q 16), aI g 620 on), ((q 17), aI g 620 tw), ((q 27), aI g 160 fl), ((q 28), aI g 160 pl), ((q 30), aI g 160 ty), ((q 33), aI g 160 lo), ((q 34), aI g 160 bg), ((q 41), aI g 600 dp), ((q 42), aZ g 600 iw), ((q 43), aI g 76800 kd), ((q 47), aI g 128 nw), ((q 50), aI g 600 ak)] sz) := by
  refine tw_metW (l := l) (g := g) (y := y_Mod_firstFrame) (cc := b_Mod_firstFrame) (maxL := 7) (ret := none) (rm := { frames := 5, cells := 0, slots := 0, locals := 117 }) (mc := 0) (ms := 0) (av := [.ref h0, .int (nI mt)]) (ws := [(h0, .inr (10, mob q rf n mm mb fa fp av ev wi mn tp tc sc nf fd me mp xn mt wh tq ag an ig)), ((q 2), aI g 600 bs), ((q 16), aI g 620 on), ((q 17), aI g 620 tw), ((q 27), aI g 160 fl), ((q 28), aI g 160 pl), ((q 30), aI g 160 ty), ((q 33), aI g 160 lo), ((q 34), aI g 160 bg), ((q 41), aI g 600 dp), ((q 42), aZ g 600 iw), ((q 43), aI g 76800 kd), ((q 47), aI g 128 nw), ((q 50), aI g 600 ak)]) (sz := sz) (Qc := fun A => (tw_Qv g (fun (u : Int32 × Int32 × Nat × Int32 × (Nat → Int32) × (Nat → Int32) × (Nat → Int32) × (Nat → Int32) × (Nat → Int32)) => (u.1 = 0 → fa = 0) ∧ (FRG u.2.2.2.2.1 u.2.2.2.2.2.1 u.2.2.2.2.2.2.1) ∧ (MU u.2.2.2.2.1 u.2.2.2.2.2.1 u.2.2.2.2.2.2.1 ≤ MU dp iw kd)) (fun u : Int32 × Int32 × Nat × Int32 × (Nat → Int32) × (Nat → Int32) × (Nat → Int32) × (Nat → Int32) × (Nat → Int32) => [(h0, .inr (10, mob q rf n mm mb u.1 u.2.1 av ev wi mn tp tc sc nf fd me mp xn mt wh tq u.2.2.1 u.2.2.2.1 ig)), ((q 2), aI g 600 bs), ((q 16), aI g 620 on), ((q 17), aI g 620 tw), ((q 27), aI g 160 fl), ((q 28), aI g 160 pl), ((q 30), aI g 160 ty), ((q 33), aI g 160 lo), ((q 34), aI g 160 bg), ((q 41), aI g 600 u.2.2.2.2.1), ((q 42), aZ g 600 u.2.2.2.2.2.1), ((q 43), aI g 76800 u.2.2.2.2.2.2.1), ((q 47), aI g 128 u.2.2.2.2.2.2.2.1), ((q 50), aI g 600 u.2.2.2.2.2.2.2.2)]) A)) (by decide) (Nat.le_of_ble_eq_true rfl) ?_
  intro p e s m below meth c ls H A E hB hK hZ hP hD hS hA hl
  obtain ⟨hx, hb, hml, hr, hown, hts, hlocks, hin⟩ := id E
  have hl : lv_has ls 7 [(0, .ref h0), (1, .int (nI mt))] := hl
  refine lv_iconst (v := 0) hx hb d_Mod_firstFrame_0 (by decide) ?_
  refine lv_istore_n hx hb d_Mod_firstFrame_1 rfl hl (by decide) rfl (fun ls hl => ?_)
  have hl : lv_has ls 7 [(2, .int 0), (0, .ref h0), (1, .int (nI mt))] := hl
  have loop2 : ∀ (kq : Nat) (k : Nat) (nw9 : Nat → Int32) (ls : Array Slot) (H : Heap) (locs : List Loc) , 128 - k = kq → (hk4 : k ≤ 128) → (hzr : ∀ j, j < k → nw9 j = 0) → lv_has ls 7 [(2, .int (nI k)), (0, .ref h0), (1, .int (nI mt))] → va_P g.1 classes [(h0, .inr (10, mob q rf n mm mb fa fp av ev wi mn tp tc sc nf fd me mp xn mt wh tq ag an ig)), ((q 2), aI g 600 bs), ((q 16), aI g 620 on), ((q 17), aI g 620 tw), ((q 27), aI g 160 fl), ((q 28), aI g 160 pl), ((q 30), aI g 160 ty), ((q 33), aI g 160 lo), ((q 34), aI g 160 bg), ((q 41), aI g 600 dp), ((q 42), aZ g 600 iw), ((q 43), aI g 76800 kd), ((q 47), aI g 128 nw9), ((q 50), aI g 600 ak)] H → va_D A [(h0, .inr (10, mob q rf n mm mb fa fp av ev wi mn tp tc sc nf fd me mp xn mt wh tq ag an ig)), ((q 2), aI g 600 bs), ((q 16), aI g 620 on), ((q 17), aI g 620 tw), ((q 27), aI g 160 fl), ((q 28), aI g 160 pl), ((q 30), aI g 160 ty), ((q 33), aI g 160 lo), ((q 34), aI g 160 bg), ((q 41), aI g 600 dp), ((q 42), aZ g 600 iw), ((q 43), aI g 76800 kd), ((q 47), aI g 128 nw9), ((q 50), aI g 600 ak)] → va_S A s.heap H locs → W p l e ({ frames := 5, cells := 0, slots := 0, locals := 117 }) s m [.ref h0, .int (nI mt)].toArray below meth c H locs 0 0 (MQ below (tw_Qv g (fun (u : Int32 × Int32 × Nat × Int32 × (Nat → Int32) × (Nat → Int32) × (Nat → Int32) × (Nat → Int32) × (Nat → Int32)) => (u.1 = 0 → fa = 0) ∧ (FRG u.2.2.2.2.1 u.2.2.2.2.2.1 u.2.2.2.2.2.2.1) ∧ (MU u.2.2.2.2.1 u.2.2.2.2.2.1 u.2.2.2.2.2.2.1 ≤ MU dp iw kd)) (fun u : Int32 × Int32 × Nat × Int32 × (Nat → Int32) × (Nat → Int32) × (Nat → Int32) × (Nat → Int32) × (Nat → Int32) => [(h0, .inr (10, mob q rf n mm mb u.1 u.2.1 av ev wi mn tp tc sc nf fd me mp xn mt wh tq u.2.2.1 u.2.2.2.1 ig)), ((q 2), aI g 600 bs), ((q 16), aI g 620 on), ((q 17), aI g 620 tw), ((q 27), aI g 160 fl), ((q 28), aI g 160 pl), ((q 30), aI g 160 ty), ((q 33), aI g 160 lo), ((q 34), aI g 160 bg), ((q 41), aI g 600 u.2.2.2.2.1), ((q 42), aZ g 600 u.2.2.2.2.2.1), ((q 43), aI g 76800 u.2.2.2.2.2.2.1), ((q 47), aI g 128 u.2.2.2.2.2.2.2.1), ((q 50), aI g 600 u.2.2.2.2.2.2.2.2)]) A) [.ref h0, .int (nI mt)].toArray s 0 0 A) (F0 m 2 ls []) := by
    intro kq
    induction kq using Nat.strongRecOn with
    | _ kq ih =>
      intro k nw9 ls H locs hk hk4 hzr hl hP hD hS
      refine lv_iload_n hx hb d_Mod_firstFrame_2 rfl (lv_at hl 0 rfl) ?_
      refine lv_sipush (v := 128) hx hb d_Mod_firstFrame_3 (by decide) ?_
      refine lv_icmp_ge (tgt := 22) hx hb d_Mod_firstFrame_6 (by decide) (fun h6 => ?_) (fun h6 => ?_)
      · have h6 := tn_le (a := 128) h6 (by decide) (by omega)
        have hNW1 : NOW nw9 := zr_now (fun j hj => hzr j (by omega))
        refine lv_aload_n hx hb d_Mod_firstFrame_22 rfl (lv_at hl 1 rfl) ?_
        refine lv_aload_n hx hb d_Mod_firstFrame_23 rfl (lv_at hl 1 rfl) ?_
        refine va_get (D := g.1) (ci := 10) (v := .ref (q 30)) (C := R_Mod) (T := F_Mod) (N := 61) hx hb hts in_Mod hown hK hP 0 rfl rfl 30 (by decide) (hts _ wd_1280) (fun _ h9 => h9) rfl d_Mod_firstFrame_24 ?_
        refine lv_iload_n hx hb d_Mod_firstFrame_27 rfl (lv_at hl 2 rfl) ?_
        refine va_iald hx hb hK hP 6 0 rfl rfl (vp_in_nI (by omega) (by decide)) d_Mod_firstFrame_28 ?_
        refine tw_ri (e2 := nI jt) (by rw [nI_clamp (by omega)]; exact hty) ?_
        refine tw_wv (wr := [((q 27), aI g 160 fl), ((q 28), aI g 160 pl), ((q 30), aI g 160 ty), ((q 33), aI g 160 lo), ((q 34), aI g 160 bg), ((q 41), aI g 600 dp), ((q 42), aZ g 600 iw), ((q 43), aI g 76800 kd), ((q 47), aI g 128 nw9)]) (tw_runV (ws := [(h0, .inr (10, mob q rf n mm mb fa fp av ev wi mn tp tc sc nf fd me mp xn mt wh tq ag an ig)), ((q 2), aI g 600 bs), ((q 16), aI g 620 on), ((q 17), aI g 620 tw), ((q 27), aI g 160 fl), ((q 28), aI g 160 pl), ((q 30), aI g 160 ty), ((q 33), aI g 160 lo), ((q 34), aI g 160 bg), ((q 41), aI g 600 dp), ((q 42), aZ g 600 iw), ((q 43), aI g 76800 kd), ((q 47), aI g 128 nw9), ((q 50), aI g 600 ak)]) (wc := [(h0, .inr (10, mob q rf n mm mb fa fp av ev wi mn tp tc sc nf fd me mp xn mt wh tq ag an ig)), ((q 2), aI g 600 bs), ((q 16), aI g 620 on), ((q 17), aI g 620 tw), ((q 50), aI g 600 ak)]) (As := [.int (nI jt)]) (rest := []) E hB hK hZ (g_Mod_readTypes l g H.size h0 q rf n mm mb fa fp av ev wi mn tp tc sc nf fd me mp xn mt wh tq ig bs on tw ag an ak jt pt lt1 (by omega) hj1 hj2 hj3 hj4) mc_Mod_readTypes mi_Mod_readTypes me_Mod_readTypes wd_1628 hP hD hS hA [0, 1, 2, 3, 13] rfl (by decide) 0 rfl rfl rfl rfl rfl (by decide) rfl hl.1 rfl (Nat.le_of_ble_eq_true rfl) (by decide) d_Mod_firstFrame_29) hP hD hS hA [0, 1, 2, 3, 13] [4, 5, 6, 7, 8, 9, 10, 11, 12] rfl rfl (by decide) (by decide) (fun u2 H locs hr1 hP hD hS => ?_)
        try dsimp only at hr1
        have hP : va_P g.1 classes [((q 27), aI g 160 fl), ((q 28), aI g 160 pl), ((q 30), aI g 160 ty), ((q 33), aI g 160 lo), ((q 34), aI g 160 bg), ((q 41), aI g 600 dp), ((q 42), aZ g 600 iw), ((q 43), aI g 76800 kd), ((q 47), aI g 128 nw9), (h0, .inr (10, mob q rf n mm mb fa fp av ev wi mn tp tc sc nf fd me mp xn mt wh tq u2.1 u2.2.1 ig)), ((q 2), aI g 600 bs), ((q 16), aI g 620 on), ((q 17), aI g 620 tw), ((q 50), aI g 600 u2.2.2)] H := hP
        have hD : va_D A [((q 27), aI g 160 fl), ((q 28), aI g 160 pl), ((q 30), aI g 160 ty), ((q 33), aI g 160 lo), ((q 34), aI g 160 bg), ((q 41), aI g 600 dp), ((q 42), aZ g 600 iw), ((q 43), aI g 76800 kd), ((q 47), aI g 128 nw9), (h0, .inr (10, mob q rf n mm mb fa fp av ev wi mn tp tc sc nf fd me mp xn mt wh tq u2.1 u2.2.1 ig)), ((q 2), aI g 600 bs), ((q 16), aI g 620 on), ((q 17), aI g 620 tw), ((q 50), aI g 600 u2.2.2)] := hD
        have hP : va_P g.1 classes [(h0, .inr (10, mob q rf n mm mb fa fp av ev wi mn tp tc sc nf fd me mp xn mt wh tq u2.1 u2.2.1 ig)), ((q 2), aI g 600 bs), ((q 16), aI g 620 on), ((q 17), aI g 620 tw), ((q 27), aI g 160 fl), ((q 28), aI g 160 pl), ((q 30), aI g 160 ty), ((q 33), aI g 160 lo), ((q 34), aI g 160 bg), ((q 41), aI g 600 dp), ((q 42), aZ g 600 iw), ((q 43), aI g 76800 kd), ((q 47), aI g 128 nw9), ((q 50), aI g 600 u2.2.2)] H := hP.sub [9, 10, 11, 12, 0, 1, 2, 3, 4, 5, 6, 7, 8, 13] rfl
        have hD : va_D A [(h0, .inr (10, mob q rf n mm mb fa fp av ev wi mn tp tc sc nf fd me mp xn mt wh tq u2.1 u2.2.1 ig)), ((q 2), aI g 600 bs), ((q 16), aI g 620 on), ((q 17), aI g 620 tw), ((q 27), aI g 160 fl), ((q 28), aI g 160 pl), ((q 30), aI g 160 ty), ((q 33), aI g 160 lo), ((q 34), aI g 160 bg), ((q 41), aI g 600 dp), ((q 42), aZ g 600 iw), ((q 43), aI g 76800 kd), ((q 47), aI g 128 nw9), ((q 50), aI g 600 u2.2.2)] := hD.sub [9, 10, 11, 12, 0, 1, 2, 3, 4, 5, 6, 7, 8, 13] (by decide) rfl
        obtain ⟨hp2_0, hp2_1, hp2_2⟩ := hr1
        refine lv_iconst (v := 0) hx hb d_Mod_firstFrame_32 (by decide) ?_
        refine lv_istore_n hx hb d_Mod_firstFrame_33 rfl hl (by decide) rfl (fun ls hl => ?_)
        have hl : lv_has ls 7 [(2, .int 0), (0, .ref h0), (1, .int (nI mt))] := hl
        refine lv_iconst (v := 1) hx hb d_Mod_firstFrame_34 (by decide) ?_
        refine lv_istore_n hx hb d_Mod_firstFrame_35 rfl hl (by decide) rfl (fun ls hl => ?_)
        have hl : lv_has ls 7 [(3, .int 1), (2, .int 0), (0, .ref h0), (1, .int (nI mt))] := hl
        refine lv_aload_n hx hb d_Mod_firstFrame_36 rfl (lv_at hl 2 rfl) ?_
        refine va_get (D := g.1) (ci := 10) (v := .ref (q 27)) (C := R_Mod) (T := F_Mod) (N := 61) hx hb hts in_Mod hown hK hP 0 rfl rfl 27 (by decide) (hts _ wd_1277) (fun _ h9 => h9) rfl d_Mod_firstFrame_37 ?_
        refine lv_iload_n hx hb d_Mod_firstFrame_40 rfl (lv_at hl 3 rfl) ?_
        refine va_iald hx hb hK hP 4 0 rfl rfl (vp_in_nI (by omega) (by decide)) d_Mod_firstFrame_41 ?_
        obtain ⟨x3, ex3⟩ : ∃ z : Int32, fl ((nI mt).toNatClampNeg) = z := ⟨_, rfl⟩
        refine tw_ri (e2 := x3) ex3 ?_
        refine lv_bipush (v := 8) hx hb d_Mod_firstFrame_42 (by decide) ?_
        refine lv_iand hx hb d_Mod_firstFrame_44 ?_
        obtain ⟨x4, ex4⟩ : ∃ z : Int32, x3 &&& 8 = z := ⟨_, rfl⟩
        refine tw_ri (e2 := x4) ex4 ?_
        refine lv_if_eq (tgt := 52) hx hb d_Mod_firstFrame_45 (by decide) (fun h45 => ?_) (fun h45 => ?_)
        · refine lv_iconst (v := (-1)) hx hb d_Mod_firstFrame_52 (by decide) ?_
          refine lv_istore hx hb d_Mod_firstFrame_53 hl (by decide) rfl (fun ls hl => ?_)
          have hl : lv_has ls 7 [(4, .int (-1)), (3, .int 1), (2, .int 0), (0, .ref h0), (1, .int (nI mt))] := hl
          have loop55 : ∀ (kq : Nat) (nx : Nat) (ft : Int32) (qq : Nat) (nw8 : Nat → Int32) (ls : Array Slot) (H : Heap) (locs : List Loc) , u2.1 + 1 - qq = kq → (hnx : nx ≤ 2 * qq) → (hqq : qq ≤ u2.1 + 1) → (hNW8 : NOW nw8) → lv_has ls 7 [(4, .int (nI qq - 1)), (3, .int ft), (2, .int (nI nx)), (0, .ref h0), (1, .int (nI mt))] → va_P g.1 classes [(h0, .inr (10, mob q rf n mm mb fa fp av ev wi mn tp tc sc nf fd me mp xn mt wh tq u2.1 u2.2.1 ig)), ((q 2), aI g 600 bs), ((q 16), aI g 620 on), ((q 17), aI g 620 tw), ((q 27), aI g 160 fl), ((q 28), aI g 160 pl), ((q 30), aI g 160 ty), ((q 33), aI g 160 lo), ((q 34), aI g 160 bg), ((q 41), aI g 600 dp), ((q 42), aZ g 600 iw), ((q 43), aI g 76800 kd), ((q 47), aI g 128 nw8), ((q 50), aI g 600 u2.2.2)] H → va_D A [(h0, .inr (10, mob q rf n mm mb fa fp av ev wi mn tp tc sc nf fd me mp xn mt wh tq u2.1 u2.2.1 ig)), ((q 2), aI g 600 bs), ((q 16), aI g 620 on), ((q 17), aI g 620 tw), ((q 27), aI g 160 fl), ((q 28), aI g 160 pl), ((q 30), aI g 160 ty), ((q 33), aI g 160 lo), ((q 34), aI g 160 bg), ((q 41), aI g 600 dp), ((q 42), aZ g 600 iw), ((q 43), aI g 76800 kd), ((q 47), aI g 128 nw8), ((q 50), aI g 600 u2.2.2)] → va_S A s.heap H locs → W p l e ({ frames := 5, cells := 0, slots := 0, locals := 117 }) s m [.ref h0, .int (nI mt)].toArray below meth c H locs 0 0 (MQ below (tw_Qv g (fun (u : Int32 × Int32 × Nat × Int32 × (Nat → Int32) × (Nat → Int32) × (Nat → Int32) × (Nat → Int32) × (Nat → Int32)) => (u.1 = 0 → fa = 0) ∧ (FRG u.2.2.2.2.1 u.2.2.2.2.2.1 u.2.2.2.2.2.2.1) ∧ (MU u.2.2.2.2.1 u.2.2.2.2.2.1 u.2.2.2.2.2.2.1 ≤ MU dp iw kd)) (fun u : Int32 × Int32 × Nat × Int32 × (Nat → Int32) × (Nat → Int32) × (Nat → Int32) × (Nat → Int32) × (Nat → Int32) => [(h0, .inr (10, mob q rf n mm mb u.1 u.2.1 av ev wi mn tp tc sc nf fd me mp xn mt wh tq u.2.2.1 u.2.2.2.1 ig)), ((q 2), aI g 600 bs), ((q 16), aI g 620 on), ((q 17), aI g 620 tw), ((q 27), aI g 160 fl), ((q 28), aI g 160 pl), ((q 30), aI g 160 ty), ((q 33), aI g 160 lo), ((q 34), aI g 160 bg), ((q 41), aI g 600 u.2.2.2.2.1), ((q 42), aZ g 600 u.2.2.2.2.2.1), ((q 43), aI g 76800 u.2.2.2.2.2.2.1), ((q 47), aI g 128 u.2.2.2.2.2.2.2.1), ((q 50), aI g 600 u.2.2.2.2.2.2.2.2)]) A) [.ref h0, .int (nI mt)].toArray s 0 0 A) (F0 m 55 ls []) := by
            intro kq
            induction kq using Nat.strongRecOn with
            | _ kq ih55 =>
              intro nx ft qq nw8 ls H locs hk55 hnx hqq hNW8 hl hP hD hS
              refine lv_iload hx hb d_Mod_firstFrame_55 (lv_at hl 0 rfl) ?_
              refine lv_aload_n hx hb d_Mod_firstFrame_57 rfl (lv_at hl 3 rfl) ?_
              refine va_get (D := g.1) (ci := 10) (v := .int (nI u2.1)) (C := R_Mod) (T := F_Mod) (N := 61) hx hb hts in_Mod hown hK hP 0 rfl rfl 49 (by decide) (hts _ wd_1299) (fun _ h9 => h9) rfl d_Mod_firstFrame_58 ?_
              refine lv_icmp_ge (tgt := 174) hx hb d_Mod_firstFrame_61 (by decide) (fun h61 => ?_) (fun h61 => ?_)
              · refine lv_iload_n hx hb d_Mod_firstFrame_174 rfl (lv_at hl 1 rfl) ?_
                refine lv_if_ne (tgt := 191) hx hb d_Mod_firstFrame_175 (by decide) (fun h175 => ?_) (fun h175 => ?_)
                · refine lv_aload_n hx hb d_Mod_firstFrame_191 rfl (lv_at hl 3 rfl) ?_
                  refine lv_aload_n hx hb d_Mod_firstFrame_192 rfl (lv_at hl 3 rfl) ?_
                  refine va_get (D := g.1) (ci := 10) (v := .ref (q 34)) (C := R_Mod) (T := F_Mod) (N := 61) hx hb hts in_Mod hown hK hP 0 rfl rfl 34 (by decide) (hts _ wd_1284) (fun _ h9 => h9) rfl d_Mod_firstFrame_193 ?_
                  refine lv_iload_n hx hb d_Mod_firstFrame_196 rfl (lv_at hl 4 rfl) ?_
                  refine va_iald hx hb hK hP 8 0 rfl rfl (vp_in_nI (by omega) (by decide)) d_Mod_firstFrame_197 ?_
                  refine tw_ri (e2 := nI b1) (by rw [nI_clamp (by omega)]; exact hbg) ?_
                  refine lv_aload_n hx hb d_Mod_firstFrame_198 rfl (lv_at hl 3 rfl) ?_
                  refine va_get (D := g.1) (ci := 10) (v := .ref (q 47)) (C := R_Mod) (T := F_Mod) (N := 61) hx hb hts in_Mod hown hK hP 0 rfl rfl 47 (by decide) (hts _ wd_1297) (fun _ h9 => h9) rfl d_Mod_firstFrame_199 ?_
                  refine lv_iconst (v := 0) hx hb d_Mod_firstFrame_202 (by decide) ?_
                  refine tw_wv (wr := [((q 2), aI g 600 bs), ((q 16), aI g 620 on), ((q 17), aI g 620 tw), ((q 27), aI g 160 fl), ((q 28), aI g 160 pl), ((q 30), aI g 160 ty), ((q 33), aI g 160 lo), ((q 34), aI g 160 bg), ((q 50), aI g 600 u2.2.2)]) (tw_runV (ws := [(h0, .inr (10, mob q rf n mm mb fa fp av ev wi mn tp tc sc nf fd me mp xn mt wh tq u2.1 u2.2.1 ig)), ((q 2), aI g 600 bs), ((q 16), aI g 620 on), ((q 17), aI g 620 tw), ((q 27), aI g 160 fl), ((q 28), aI g 160 pl), ((q 30), aI g 160 ty), ((q 33), aI g 160 lo), ((q 34), aI g 160 bg), ((q 41), aI g 600 dp), ((q 42), aZ g 600 iw), ((q 43), aI g 76800 kd), ((q 47), aI g 128 nw8), ((q 50), aI g 600 u2.2.2)]) (wc := [(h0, .inr (10, mob q rf n mm mb fa fp av ev wi mn tp tc sc nf fd me mp xn mt wh tq u2.1 u2.2.1 ig)), ((q 41), aI g 600 dp), ((q 42), aZ g 600 iw), ((q 43), aI g 76800 kd), ((q 47), aI g 128 nw8)]) (As := [.int (nI b1), .ref (q 47), .int 0]) (rest := []) E hB hK hZ (g_Mod_goOnN l g H.size h0 q rf n mm mb av ev wi mn tp tc sc nf fd me mp xn mt wh tq u2.1 u2.2.1 ig nw8 fa fp dp iw kd b1 0 (by omega) (by omega) hFR hNW8.1 hNW8.2) mc_Mod_goOn mi_Mod_goOn me_Mod_goOn wd_1636 hP hD hS hA [0, 9, 10, 11, 12] rfl (by decide) 0 rfl rfl rfl rfl rfl (by decide) rfl hl.1 rfl (Nat.le_of_ble_eq_true rfl) (by decide) d_Mod_firstFrame_203) hP hD hS hA [0, 9, 10, 11, 12] [1, 2, 3, 4, 5, 6, 7, 8, 13] rfl rfl (by decide) (by decide) (fun u6 H locs hr5 hP hD hS => ?_)
                  try dsimp only at hr5
                  have hP : va_P g.1 classes [((q 2), aI g 600 bs), ((q 16), aI g 620 on), ((q 17), aI g 620 tw), ((q 27), aI g 160 fl), ((q 28), aI g 160 pl), ((q 30), aI g 160 ty), ((q 33), aI g 160 lo), ((q 34), aI g 160 bg), ((q 50), aI g 600 u2.2.2), (h0, .inr (10, mob q rf n mm mb u6.1 u6.2.1 av ev wi mn tp tc sc nf fd me mp xn mt wh tq u2.1 u2.2.1 ig)), ((q 41), aI g 600 u6.2.2.1), ((q 42), aZ g 600 u6.2.2.2.1), ((q 43), aI g 76800 u6.2.2.2.2), ((q 47), aI g 128 nw8)] H := hP
                  have hD : va_D A [((q 2), aI g 600 bs), ((q 16), aI g 620 on), ((q 17), aI g 620 tw), ((q 27), aI g 160 fl), ((q 28), aI g 160 pl), ((q 30), aI g 160 ty), ((q 33), aI g 160 lo), ((q 34), aI g 160 bg), ((q 50), aI g 600 u2.2.2), (h0, .inr (10, mob q rf n mm mb u6.1 u6.2.1 av ev wi mn tp tc sc nf fd me mp xn mt wh tq u2.1 u2.2.1 ig)), ((q 41), aI g 600 u6.2.2.1), ((q 42), aZ g 600 u6.2.2.2.1), ((q 43), aI g 76800 u6.2.2.2.2), ((q 47), aI g 128 nw8)] := hD
                  have hP : va_P g.1 classes [(h0, .inr (10, mob q rf n mm mb u6.1 u6.2.1 av ev wi mn tp tc sc nf fd me mp xn mt wh tq u2.1 u2.2.1 ig)), ((q 2), aI g 600 bs), ((q 16), aI g 620 on), ((q 17), aI g 620 tw), ((q 27), aI g 160 fl), ((q 28), aI g 160 pl), ((q 30), aI g 160 ty), ((q 33), aI g 160 lo), ((q 34), aI g 160 bg), ((q 41), aI g 600 u6.2.2.1), ((q 42), aZ g 600 u6.2.2.2.1), ((q 43), aI g 76800 u6.2.2.2.2), ((q 47), aI g 128 nw8), ((q 50), aI g 600 u2.2.2)] H := hP.sub [9, 0, 1, 2, 3, 4, 5, 6, 7, 10, 11, 12, 13, 8] rfl
                  have hD : va_D A [(h0, .inr (10, mob q rf n mm mb u6.1 u6.2.1 av ev wi mn tp tc sc nf fd me mp xn mt wh tq u2.1 u2.2.1 ig)), ((q 2), aI g 600 bs), ((q 16), aI g 620 on), ((q 17), aI g 620 tw), ((q 27), aI g 160 fl), ((q 28), aI g 160 pl), ((q 30), aI g 160 ty), ((q 33), aI g 160 lo), ((q 34), aI g 160 bg), ((q 41), aI g 600 u6.2.2.1), ((q 42), aZ g 600 u6.2.2.2.1), ((q 43), aI g 76800 u6.2.2.2.2), ((q 47), aI g 128 nw8), ((q 50), aI g 600 u2.2.2)] := hD.sub [9, 0, 1, 2, 3, 4, 5, 6, 7, 10, 11, 12, 13, 8] (by decide) rfl
                  obtain ⟨hp6_0, hp6_1, hp6_2⟩ := hr5
                  exact tw_vret E hS (u6.1, u6.2.1, u2.1, u2.2.1, u6.2.2.1, u6.2.2.2.1, u6.2.2.2.2, nw8, u2.2.2) (⟨(fun h => (fun h => h) (hp6_0 h)), hp6_1, (by first | omega | (dsimp only <;> omega))⟩) hP hD d_Mod_firstFrame_206
                · refine lv_aload_n hx hb d_Mod_firstFrame_178 rfl (lv_at hl 3 rfl) ?_
                  refine lv_bipush (v := 21) hx hb d_Mod_firstFrame_179 (by decide) ?_
                  refine lv_aload_n hx hb d_Mod_firstFrame_181 rfl (lv_at hl 3 rfl) ?_
                  refine va_get (D := g.1) (ci := 10) (v := .ref (q 28)) (C := R_Mod) (T := F_Mod) (N := 61) hx hb hts in_Mod hown hK hP 0 rfl rfl 28 (by decide) (hts _ wd_1278) (fun _ h9 => h9) rfl d_Mod_firstFrame_182 ?_
                  refine lv_iload_n hx hb d_Mod_firstFrame_185 rfl (lv_at hl 4 rfl) ?_
                  refine va_iald hx hb hK hP 5 0 rfl rfl (vp_in_nI (by omega) (by decide)) d_Mod_firstFrame_186 ?_
                  obtain ⟨x7, ex7⟩ : ∃ z : Int32, pl ((nI mt).toNatClampNeg) = z := ⟨_, rfl⟩
                  refine tw_ri (e2 := x7) ex7 ?_
                  refine tw_wv (wr := [((q 2), aI g 600 bs), ((q 16), aI g 620 on), ((q 17), aI g 620 tw), ((q 27), aI g 160 fl), ((q 28), aI g 160 pl), ((q 30), aI g 160 ty), ((q 33), aI g 160 lo), ((q 34), aI g 160 bg), ((q 41), aI g 600 dp), ((q 42), aZ g 600 iw), ((q 43), aI g 76800 kd), ((q 47), aI g 128 nw8), ((q 50), aI g 600 u2.2.2)]) (tw_runV (ws := [(h0, .inr (10, mob q rf n mm mb fa fp av ev wi mn tp tc sc nf fd me mp xn mt wh tq u2.1 u2.2.1 ig)), ((q 2), aI g 600 bs), ((q 16), aI g 620 on), ((q 17), aI g 620 tw), ((q 27), aI g 160 fl), ((q 28), aI g 160 pl), ((q 30), aI g 160 ty), ((q 33), aI g 160 lo), ((q 34), aI g 160 bg), ((q 41), aI g 600 dp), ((q 42), aZ g 600 iw), ((q 43), aI g 76800 kd), ((q 47), aI g 128 nw8), ((q 50), aI g 600 u2.2.2)]) (wc := [(h0, .inr (10, mob q rf n mm mb fa fp av ev wi mn tp tc sc nf fd me mp xn mt wh tq u2.1 u2.2.1 ig))]) (As := [.int 21, .int x7]) (rest := []) E hB hK hZ (g_Mod_fail l g H.size h0 q rf n mm mb av ev wi mn tp tc sc nf fd me mp xn mt wh tq u2.1 u2.2.1 ig fa fp 21 x7 (by decide)) mc_Mod_fail mi_Mod_fail me_Mod_fail wd_1478 hP hD hS hA [0] rfl (by decide) 0 rfl rfl rfl rfl rfl (by decide) rfl hl.1 rfl (Nat.le_of_ble_eq_true rfl) (by decide) d_Mod_firstFrame_187) hP hD hS hA [0] [1, 2, 3, 4, 5, 6, 7, 8, 9, 10, 11, 12, 13] rfl rfl (by decide) (by decide) (fun u9 H locs hr8 hP hD hS => ?_)
                  try dsimp only at hr8
                  have hP : va_P g.1 classes [((q 2), aI g 600 bs), ((q 16), aI g 620 on), ((q 17), aI g 620 tw), ((q 27), aI g 160 fl), ((q 28), aI g 160 pl), ((q 30), aI g 160 ty), ((q 33), aI g 160 lo), ((q 34), aI g 160 bg), ((q 41), aI g 600 dp), ((q 42), aZ g 600 iw), ((q 43), aI g 76800 kd), ((q 47), aI g 128 nw8), ((q 50), aI g 600 u2.2.2), (h0, .inr (10, mob q rf n mm mb u9.1 u9.2 av ev wi mn tp tc sc nf fd me mp xn mt wh tq u2.1 u2.2.1 ig))] H := hP
                  have hD : va_D A [((q 2), aI g 600 bs), ((q 16), aI g 620 on), ((q 17), aI g 620 tw), ((q 27), aI g 160 fl), ((q 28), aI g 160 pl), ((q 30), aI g 160 ty), ((q 33), aI g 160 lo), ((q 34), aI g 160 bg), ((q 41), aI g 600 dp), ((q 42), aZ g 600 iw), ((q 43), aI g 76800 kd), ((q 47), aI g 128 nw8), ((q 50), aI g 600 u2.2.2), (h0, .inr (10, mob q rf n mm mb u9.1 u9.2 av ev wi mn tp tc sc nf fd me mp xn mt wh tq u2.1 u2.2.1 ig))] := hD
                  have hP : va_P g.1 classes [(h0, .inr (10, mob q rf n mm mb u9.1 u9.2 av ev wi mn tp tc sc nf fd me mp xn mt wh tq u2.1 u2.2.1 ig)), ((q 2), aI g 600 bs), ((q 16), aI g 620 on), ((q 17), aI g 620 tw), ((q 27), aI g 160 fl), ((q 28), aI g 160 pl), ((q 30), aI g 160 ty), ((q 33), aI g 160 lo), ((q 34), aI g 160 bg), ((q 41), aI g 600 dp), ((q 42), aZ g 600 iw), ((q 43), aI g 76800 kd), ((q 47), aI g 128 nw8), ((q 50), aI g 600 u2.2.2)] H := hP.sub [13, 0, 1, 2, 3, 4, 5, 6, 7, 8, 9, 10, 11, 12] rfl
                  have hD : va_D A [(h0, .inr (10, mob q rf n mm mb u9.1 u9.2 av ev wi mn tp tc sc nf fd me mp xn mt wh tq u2.1 u2.2.1 ig)), ((q 2), aI g 600 bs), ((q 16), aI g 620 on), ((q 17), aI g 620 tw), ((q 27), aI g 160 fl), ((q 28), aI g 160 pl), ((q 30), aI g 160 ty), ((q 33), aI g 160 lo), ((q 34), aI g 160 bg), ((q 41), aI g 600 dp), ((q 42), aZ g 600 iw), ((q 43), aI g 76800 kd), ((q 47), aI g 128 nw8), ((q 50), aI g 600 u2.2.2)] := hD.sub [13, 0, 1, 2, 3, 4, 5, 6, 7, 8, 9, 10, 11, 12] (by decide) rfl
                  have hp9_0 := hr8
                  exact tw_vret E hS (u9.1, u9.2, u2.1, u2.2.1, dp, iw, kd, nw8, u2.2.2) (⟨(fun h => absurd h hp9_0), hFR, (by first | omega | (dsimp only <;> omega))⟩) hP hD d_Mod_firstFrame_190
              · have h61 := ff_lt h61 (by omega) (by omega)
                refine lv_iload hx hb d_Mod_firstFrame_64 (lv_at hl 0 rfl) ?_
                refine lv_if_ge (tgt := 73) hx hb d_Mod_firstFrame_66 (by decide) (fun h66 => ?_) (fun h66 => ?_)
                · have h66 := ff_ge h66 (by omega)
                  have hkk := hp2_1 (qq - 1) (by omega)
                  refine lv_aload_n hx hb d_Mod_firstFrame_73 rfl (lv_at hl 3 rfl) ?_
                  refine va_get (D := g.1) (ci := 10) (v := .ref (q 50)) (C := R_Mod) (T := F_Mod) (N := 61) hx hb hts in_Mod hown hK hP 0 rfl rfl 50 (by decide) (hts _ wd_1300) (fun _ h9 => h9) rfl d_Mod_firstFrame_74 ?_
                  refine lv_iload hx hb d_Mod_firstFrame_77 (lv_at hl 0 rfl) ?_
                  refine va_iald hx hb hK hP 13 0 rfl rfl (by rw [ff_dn h66]; exact vp_in_nI (by omega) (by decide)) d_Mod_firstFrame_79 ?_
                  refine tw_ri (e2 := u2.2.2 (qq - 1)) (by rw [ff_dn h66, nI_clamp (by omega)]) ?_
                  refine lv_istore hx hb d_Mod_firstFrame_80 hl (by decide) rfl (fun ls hl => ?_)
                  have hl : lv_has ls 7 [(5, .int (u2.2.2 (qq - 1))), (4, .int (nI qq - 1)), (3, .int ft), (2, .int (nI nx)), (0, .ref h0), (1, .int (nI mt))] := hl
                  refine lv_iload hx hb d_Mod_firstFrame_82 (lv_at hl 0 rfl) ?_
                  refine lv_iconst (v := 2) hx hb d_Mod_firstFrame_84 (by decide) ?_
                  refine lv_icmp_eq (tgt := 95) hx hb d_Mod_firstFrame_85 (by decide) (fun h85 => ?_) (fun h85 => ?_)
                  · refine lv_iconst (v := 2) hx hb d_Mod_firstFrame_95 (by decide) ?_
                    refine lv_goto (tgt := 100) hx hb d_Mod_firstFrame_96 (by decide) ?_
                    refine lv_istore hx hb d_Mod_firstFrame_100 hl (by decide) rfl (fun ls hl => ?_)
                    have hl : lv_has ls 7 [(6, .int 2), (5, .int (u2.2.2 (qq - 1))), (4, .int (nI qq - 1)), (3, .int ft), (2, .int (nI nx)), (0, .ref h0), (1, .int (nI mt))] := hl
                    refine lv_iload_n hx hb d_Mod_firstFrame_102 rfl (lv_at hl 3 rfl) ?_
                    refine lv_if_eq (tgt := 123) hx hb d_Mod_firstFrame_103 (by decide) (fun h103 => ?_) (fun h103 => ?_)
                    · refine lv_iconst (v := 0) hx hb d_Mod_firstFrame_123 (by decide) ?_
                      refine lv_istore_n hx hb d_Mod_firstFrame_124 rfl hl (by decide) rfl (fun ls hl => ?_)
                      have hl : lv_has ls 7 [(3, .int 0), (6, .int 2), (5, .int (u2.2.2 (qq - 1))), (4, .int (nI qq - 1)), (2, .int (nI nx)), (0, .ref h0), (1, .int (nI mt))] := hl
                      refine lv_iload_n hx hb d_Mod_firstFrame_125 rfl (lv_at hl 0 rfl) ?_
                      refine lv_if_eq (tgt := 163) hx hb d_Mod_firstFrame_126 (by decide) (fun h126 => ?_) (fun h126 => ?_)
                      · refine lv_iload_n hx hb d_Mod_firstFrame_163 rfl (lv_at hl 4 rfl) ?_
                        refine lv_iload hx hb d_Mod_firstFrame_164 (lv_at hl 1 rfl) ?_
                        refine lv_iadd hx hb d_Mod_firstFrame_166 ?_
                        refine tw_ri (e2 := nI (nx + 2)) (nI_add nx 2) ?_
                        refine lv_istore_n hx hb d_Mod_firstFrame_167 rfl hl (by decide) rfl (fun ls hl => ?_)
                        have hl : lv_has ls 7 [(2, .int (nI (nx + 2))), (3, .int 0), (6, .int 2), (5, .int (u2.2.2 (qq - 1))), (4, .int (nI qq - 1)), (0, .ref h0), (1, .int (nI mt))] := hl
                        refine lv_iinc (k := 4) (v := nI (qq + 1) - 1) hx hb d_Mod_firstFrame_168 hl rfl (ff_up qq) (by decide) rfl (fun ls hl => ?_)
                        have hl : lv_has ls 7 [(4, .int (nI (qq + 1) - 1)), (2, .int (nI (nx + 2))), (3, .int 0), (6, .int 2), (5, .int (u2.2.2 (qq - 1))), (0, .ref h0), (1, .int (nI mt))] := hl
                        refine lv_goto (tgt := 55) hx hb d_Mod_firstFrame_171 (by decide) ?_
                        have hP : va_P g.1 classes [(h0, .inr (10, mob q rf n mm mb fa fp av ev wi mn tp tc sc nf fd me mp xn mt wh tq u2.1 u2.2.1 ig)), ((q 2), aI g 600 bs), ((q 16), aI g 620 on), ((q 17), aI g 620 tw), ((q 27), aI g 160 fl), ((q 28), aI g 160 pl), ((q 30), aI g 160 ty), ((q 33), aI g 160 lo), ((q 34), aI g 160 bg), ((q 41), aI g 600 dp), ((q 42), aZ g 600 iw), ((q 43), aI g 76800 kd), ((q 47), aI g 128 nw8), ((q 50), aI g 600 u2.2.2)] H := hP.sub [0, 1, 2, 3, 4, 5, 6, 7, 8, 9, 10, 11, 12, 13] rfl
                        have hD : va_D A [(h0, .inr (10, mob q rf n mm mb fa fp av ev wi mn tp tc sc nf fd me mp xn mt wh tq u2.1 u2.2.1 ig)), ((q 2), aI g 600 bs), ((q 16), aI g 620 on), ((q 17), aI g 620 tw), ((q 27), aI g 160 fl), ((q 28), aI g 160 pl), ((q 30), aI g 160 ty), ((q 33), aI g 160 lo), ((q 34), aI g 160 bg), ((q 41), aI g 600 dp), ((q 42), aZ g 600 iw), ((q 43), aI g 76800 kd), ((q 47), aI g 128 nw8), ((q 50), aI g 600 u2.2.2)] := hD.sub [0, 1, 2, 3, 4, 5, 6, 7, 8, 9, 10, 11, 12, 13] (by decide) rfl
                        exact ih55 _ (by omega) (nx + 2) 0 (qq + 1) nw8 ls _ _ rfl (by omega) (by omega) hNW8 (lv_sub hl [0, 2, 1, 5, 6] rfl) hP hD hS
                      · first | exact absurd h126 (by decide) | exact absurd (by decide) h126
                    · refine lv_iload_n hx hb d_Mod_firstFrame_106 rfl (lv_at hl 4 rfl) ?_
                      refine lv_iload hx hb d_Mod_firstFrame_107 (lv_at hl 0 rfl) ?_
                      refine lv_iadd hx hb d_Mod_firstFrame_109 ?_
                      refine tw_ri (e2 := nI (nx + 2)) (nI_add nx 2) ?_
                      refine lv_aload_n hx hb d_Mod_firstFrame_110 rfl (lv_at hl 5 rfl) ?_
                      refine va_get (D := g.1) (ci := 10) (v := .ref (q 33)) (C := R_Mod) (T := F_Mod) (N := 61) hx hb hts in_Mod hown hK hP 0 rfl rfl 33 (by decide) (hts _ wd_1283) (fun _ h9 => h9) rfl d_Mod_firstFrame_111 ?_
                      refine lv_iload_n hx hb d_Mod_firstFrame_114 rfl (lv_at hl 6 rfl) ?_
                      refine va_iald hx hb hK hP 7 0 rfl rfl (vp_in_nI (by omega) (by decide)) d_Mod_firstFrame_115 ?_
                      refine tw_ri (e2 := nI o1) (by rw [nI_clamp (by omega)]; exact hlo) ?_
                      refine lv_icmp_gt (tgt := 123) hx hb d_Mod_firstFrame_116 (by decide) (fun h116 => ?_) (fun h116 => ?_)
                      · refine lv_iconst (v := 0) hx hb d_Mod_firstFrame_123 (by decide) ?_
                        refine lv_istore_n hx hb d_Mod_firstFrame_124 rfl hl (by decide) rfl (fun ls hl => ?_)
                        have hl : lv_has ls 7 [(3, .int 0), (6, .int 2), (5, .int (u2.2.2 (qq - 1))), (4, .int (nI qq - 1)), (2, .int (nI nx)), (0, .ref h0), (1, .int (nI mt))] := hl
                        refine lv_iload_n hx hb d_Mod_firstFrame_125 rfl (lv_at hl 0 rfl) ?_
                        refine lv_if_eq (tgt := 163) hx hb d_Mod_firstFrame_126 (by decide) (fun h126 => ?_) (fun h126 => ?_)
                        · refine lv_iload_n hx hb d_Mod_firstFrame_163 rfl (lv_at hl 4 rfl) ?_
                          refine lv_iload hx hb d_Mod_firstFrame_164 (lv_at hl 1 rfl) ?_
                          refine lv_iadd hx hb d_Mod_firstFrame_166 ?_
                          refine tw_ri (e2 := nI (nx + 2)) (nI_add nx 2) ?_
                          refine lv_istore_n hx hb d_Mod_firstFrame_167 rfl hl (by decide) rfl (fun ls hl => ?_)
                          have hl : lv_has ls 7 [(2, .int (nI (nx + 2))), (3, .int 0), (6, .int 2), (5, .int (u2.2.2 (qq - 1))), (4, .int (nI qq - 1)), (0, .ref h0), (1, .int (nI mt))] := hl
                          refine lv_iinc (k := 4) (v := nI (qq + 1) - 1) hx hb d_Mod_firstFrame_168 hl rfl (ff_up qq) (by decide) rfl (fun ls hl => ?_)
                          have hl : lv_has ls 7 [(4, .int (nI (qq + 1) - 1)), (2, .int (nI (nx + 2))), (3, .int 0), (6, .int 2), (5, .int (u2.2.2 (qq - 1))), (0, .ref h0), (1, .int (nI mt))] := hl
                          refine lv_goto (tgt := 55) hx hb d_Mod_firstFrame_171 (by decide) ?_
                          have hP : va_P g.1 classes [(h0, .inr (10, mob q rf n mm mb fa fp av ev wi mn tp tc sc nf fd me mp xn mt wh tq u2.1 u2.2.1 ig)), ((q 2), aI g 600 bs), ((q 16), aI g 620 on), ((q 17), aI g 620 tw), ((q 27), aI g 160 fl), ((q 28), aI g 160 pl), ((q 30), aI g 160 ty), ((q 33), aI g 160 lo), ((q 34), aI g 160 bg), ((q 41), aI g 600 dp), ((q 42), aZ g 600 iw), ((q 43), aI g 76800 kd), ((q 47), aI g 128 nw8), ((q 50), aI g 600 u2.2.2)] H := hP.sub [0, 1, 2, 3, 4, 5, 6, 7, 8, 9, 10, 11, 12, 13] rfl
                          have hD : va_D A [(h0, .inr (10, mob q rf n mm mb fa fp av ev wi mn tp tc sc nf fd me mp xn mt wh tq u2.1 u2.2.1 ig)), ((q 2), aI g 600 bs), ((q 16), aI g 620 on), ((q 17), aI g 620 tw), ((q 27), aI g 160 fl), ((q 28), aI g 160 pl), ((q 30), aI g 160 ty), ((q 33), aI g 160 lo), ((q 34), aI g 160 bg), ((q 41), aI g 600 dp), ((q 42), aZ g 600 iw), ((q 43), aI g 76800 kd), ((q 47), aI g 128 nw8), ((q 50), aI g 600 u2.2.2)] := hD.sub [0, 1, 2, 3, 4, 5, 6, 7, 8, 9, 10, 11, 12, 13] (by decide) rfl
                          exact ih55 _ (by omega) (nx + 2) 0 (qq + 1) nw8 ls _ _ rfl (by omega) (by omega) hNW8 (lv_sub hl [0, 2, 1, 5, 6] rfl) hP hD hS
                        · first | exact absurd h126 (by decide) | exact absurd (by decide) h126
                      · have h116 := tn_nlt h116 (by omega) (by omega)
                        refine lv_iconst (v := 1) hx hb d_Mod_firstFrame_119 (by decide) ?_
                        refine lv_goto (tgt := 124) hx hb d_Mod_firstFrame_120 (by decide) ?_
                        refine lv_istore_n hx hb d_Mod_firstFrame_124 rfl hl (by decide) rfl (fun ls hl => ?_)
                        have hl : lv_has ls 7 [(3, .int 1), (6, .int 2), (5, .int (u2.2.2 (qq - 1))), (4, .int (nI qq - 1)), (2, .int (nI nx)), (0, .ref h0), (1, .int (nI mt))] := hl
                        refine lv_iload_n hx hb d_Mod_firstFrame_125 rfl (lv_at hl 0 rfl) ?_
                        refine lv_if_eq (tgt := 163) hx hb d_Mod_firstFrame_126 (by decide) (fun h126 => ?_) (fun h126 => ?_)
                        · first | exact absurd h126 (by decide) | exact absurd (by decide) h126
                        · refine lv_aload_n hx hb d_Mod_firstFrame_129 rfl (lv_at hl 5 rfl) ?_
                          refine va_get (D := g.1) (ci := 10) (v := .ref (q 47)) (C := R_Mod) (T := F_Mod) (N := 61) hx hb hts in_Mod hown hK hP 0 rfl rfl 47 (by decide) (hts _ wd_1297) (fun _ h9 => h9) rfl d_Mod_firstFrame_130 ?_
                          refine lv_iload_n hx hb d_Mod_firstFrame_133 rfl (lv_at hl 4 rfl) ?_
                          refine lv_iload hx hb d_Mod_firstFrame_134 (lv_at hl 2 rfl) ?_
                          refine lv_bipush (v := 9) hx hb d_Mod_firstFrame_136 (by decide) ?_
                          refine lv_icmp_lt (tgt := 145) hx hb d_Mod_firstFrame_138 (by decide) (fun h138 => ?_) (fun h138 => ?_)
                          · refine lv_iload hx hb d_Mod_firstFrame_145 (lv_at hl 2 rfl) ?_
                            refine va_iast hx hb hK hP hD hS 12 0 rfl rfl (vp_in_nI (by omega) (by decide)) d_Mod_firstFrame_147 (fun H locs hP hD hS => ?_)
                            have hP : va_P g.1 classes [(h0, .inr (10, mob q rf n mm mb fa fp av ev wi mn tp tc sc nf fd me mp xn mt wh tq u2.1 u2.2.1 ig)), ((q 2), aI g 600 bs), ((q 16), aI g 620 on), ((q 17), aI g 620 tw), ((q 27), aI g 160 fl), ((q 28), aI g 160 pl), ((q 30), aI g 160 ty), ((q 33), aI g 160 lo), ((q 34), aI g 160 bg), ((q 41), aI g 600 dp), ((q 42), aZ g 600 iw), ((q 43), aI g 76800 kd), ((q 47), aI g 128 (upd nw8 (nI nx).toNatClampNeg (u2.2.2 (qq - 1)))), ((q 50), aI g 600 u2.2.2)] H := hP
                            have hD : va_D A [(h0, .inr (10, mob q rf n mm mb fa fp av ev wi mn tp tc sc nf fd me mp xn mt wh tq u2.1 u2.2.1 ig)), ((q 2), aI g 600 bs), ((q 16), aI g 620 on), ((q 17), aI g 620 tw), ((q 27), aI g 160 fl), ((q 28), aI g 160 pl), ((q 30), aI g 160 ty), ((q 33), aI g 160 lo), ((q 34), aI g 160 bg), ((q 41), aI g 600 dp), ((q 42), aZ g 600 iw), ((q 43), aI g 76800 kd), ((q 47), aI g 128 (upd nw8 (nI nx).toNatClampNeg (u2.2.2 (qq - 1)))), ((q 50), aI g 600 u2.2.2)] := hD
                            have e9 : upd nw8 (nI nx).toNatClampNeg (u2.2.2 (qq - 1)) = upd nw8 nx (u2.2.2 (qq - 1)) := by rw [nI_clamp (by omega)]
                            rw [e9] at hP hD
                            refine lv_iload hx hb d_Mod_firstFrame_148 (lv_at hl 2 rfl) ?_
                            refine lv_iconst (v := 2) hx hb d_Mod_firstFrame_150 (by decide) ?_
                            refine lv_icmp_ne (tgt := 163) hx hb d_Mod_firstFrame_151 (by decide) (fun h151 => ?_) (fun h151 => ?_)
                            · exact absurd h85 h151
                            · refine lv_aload_n hx hb d_Mod_firstFrame_154 rfl (lv_at hl 5 rfl) ?_
                              refine va_get (D := g.1) (ci := 10) (v := .ref (q 47)) (C := R_Mod) (T := F_Mod) (N := 61) hx hb hts in_Mod hown hK hP 0 rfl rfl 47 (by decide) (hts _ wd_1297) (fun _ h9 => h9) rfl d_Mod_firstFrame_155 ?_
                              refine lv_iload_n hx hb d_Mod_firstFrame_158 rfl (lv_at hl 4 rfl) ?_
                              refine lv_iconst (v := 1) hx hb d_Mod_firstFrame_159 (by decide) ?_
                              refine lv_iadd hx hb d_Mod_firstFrame_160 ?_
                              refine tw_ri (e2 := nI (nx + 1)) (nI_add nx 1) ?_
                              refine lv_iconst (v := 3) hx hb d_Mod_firstFrame_161 (by decide) ?_
                              refine va_iast hx hb hK hP hD hS 12 0 rfl rfl (vp_in_nI (by omega) (by decide)) d_Mod_firstFrame_162 (fun H locs hP hD hS => ?_)
                              have hP : va_P g.1 classes [(h0, .inr (10, mob q rf n mm mb fa fp av ev wi mn tp tc sc nf fd me mp xn mt wh tq u2.1 u2.2.1 ig)), ((q 2), aI g 600 bs), ((q 16), aI g 620 on), ((q 17), aI g 620 tw), ((q 27), aI g 160 fl), ((q 28), aI g 160 pl), ((q 30), aI g 160 ty), ((q 33), aI g 160 lo), ((q 34), aI g 160 bg), ((q 41), aI g 600 dp), ((q 42), aZ g 600 iw), ((q 43), aI g 76800 kd), ((q 47), aI g 128 (upd (upd nw8 nx (u2.2.2 (qq - 1))) (nI (nx + 1)).toNatClampNeg 3)), ((q 50), aI g 600 u2.2.2)] H := hP
                              have hD : va_D A [(h0, .inr (10, mob q rf n mm mb fa fp av ev wi mn tp tc sc nf fd me mp xn mt wh tq u2.1 u2.2.1 ig)), ((q 2), aI g 600 bs), ((q 16), aI g 620 on), ((q 17), aI g 620 tw), ((q 27), aI g 160 fl), ((q 28), aI g 160 pl), ((q 30), aI g 160 ty), ((q 33), aI g 160 lo), ((q 34), aI g 160 bg), ((q 41), aI g 600 dp), ((q 42), aZ g 600 iw), ((q 43), aI g 76800 kd), ((q 47), aI g 128 (upd (upd nw8 nx (u2.2.2 (qq - 1))) (nI (nx + 1)).toNatClampNeg 3)), ((q 50), aI g 600 u2.2.2)] := hD
                              have e9 : upd (upd nw8 nx (u2.2.2 (qq - 1))) (nI (nx + 1)).toNatClampNeg 3 = upd (upd nw8 nx (u2.2.2 (qq - 1))) (nx + 1) 3 := by rw [nI_clamp (by omega)]
                              rw [e9] at hP hD
                              refine lv_iload_n hx hb d_Mod_firstFrame_163 rfl (lv_at hl 4 rfl) ?_
                              refine lv_iload hx hb d_Mod_firstFrame_164 (lv_at hl 1 rfl) ?_
                              refine lv_iadd hx hb d_Mod_firstFrame_166 ?_
                              refine tw_ri (e2 := nI (nx + 2)) (nI_add nx 2) ?_
                              refine lv_istore_n hx hb d_Mod_firstFrame_167 rfl hl (by decide) rfl (fun ls hl => ?_)
                              have hl : lv_has ls 7 [(2, .int (nI (nx + 2))), (3, .int 1), (6, .int 2), (5, .int (u2.2.2 (qq - 1))), (4, .int (nI qq - 1)), (0, .ref h0), (1, .int (nI mt))] := hl
                              refine lv_iinc (k := 4) (v := nI (qq + 1) - 1) hx hb d_Mod_firstFrame_168 hl rfl (ff_up qq) (by decide) rfl (fun ls hl => ?_)
                              have hl : lv_has ls 7 [(4, .int (nI (qq + 1) - 1)), (2, .int (nI (nx + 2))), (3, .int 1), (6, .int 2), (5, .int (u2.2.2 (qq - 1))), (0, .ref h0), (1, .int (nI mt))] := hl
                              refine lv_goto (tgt := 55) hx hb d_Mod_firstFrame_171 (by decide) ?_
                              have hP : va_P g.1 classes [(h0, .inr (10, mob q rf n mm mb fa fp av ev wi mn tp tc sc nf fd me mp xn mt wh tq u2.1 u2.2.1 ig)), ((q 2), aI g 600 bs), ((q 16), aI g 620 on), ((q 17), aI g 620 tw), ((q 27), aI g 160 fl), ((q 28), aI g 160 pl), ((q 30), aI g 160 ty), ((q 33), aI g 160 lo), ((q 34), aI g 160 bg), ((q 41), aI g 600 dp), ((q 42), aZ g 600 iw), ((q 43), aI g 76800 kd), ((q 47), aI g 128 (upd (upd nw8 nx (u2.2.2 (qq - 1))) (nx + 1) 3)), ((q 50), aI g 600 u2.2.2)] H := hP.sub [0, 1, 2, 3, 4, 5, 6, 7, 8, 9, 10, 11, 12, 13] rfl
                              have hD : va_D A [(h0, .inr (10, mob q rf n mm mb fa fp av ev wi mn tp tc sc nf fd me mp xn mt wh tq u2.1 u2.2.1 ig)), ((q 2), aI g 600 bs), ((q 16), aI g 620 on), ((q 17), aI g 620 tw), ((q 27), aI g 160 fl), ((q 28), aI g 160 pl), ((q 30), aI g 160 ty), ((q 33), aI g 160 lo), ((q 34), aI g 160 bg), ((q 41), aI g 600 dp), ((q 42), aZ g 600 iw), ((q 43), aI g 76800 kd), ((q 47), aI g 128 (upd (upd nw8 nx (u2.2.2 (qq - 1))) (nx + 1) 3)), ((q 50), aI g 600 u2.2.2)] := hD.sub [0, 1, 2, 3, 4, 5, 6, 7, 8, 9, 10, 11, 12, 13] (by decide) rfl
                              exact ih55 _ (by omega) (nx + 2) 1 (qq + 1) (upd (upd nw8 nx (u2.2.2 (qq - 1))) (nx + 1) 3) ls _ _ rfl (by omega) (by omega) ((hNW8.put (kn3 hkk)).put2 (by omega) (by omega)) (lv_sub hl [0, 2, 1, 5, 6] rfl) hP hD hS
                          · refine lv_iconst (v := 0) hx hb d_Mod_firstFrame_141 (by decide) ?_
                            refine lv_goto (tgt := 147) hx hb d_Mod_firstFrame_142 (by decide) ?_
                            refine va_iast hx hb hK hP hD hS 12 0 rfl rfl (vp_in_nI (by omega) (by decide)) d_Mod_firstFrame_147 (fun H locs hP hD hS => ?_)
                            have hP : va_P g.1 classes [(h0, .inr (10, mob q rf n mm mb fa fp av ev wi mn tp tc sc nf fd me mp xn mt wh tq u2.1 u2.2.1 ig)), ((q 2), aI g 600 bs), ((q 16), aI g 620 on), ((q 17), aI g 620 tw), ((q 27), aI g 160 fl), ((q 28), aI g 160 pl), ((q 30), aI g 160 ty), ((q 33), aI g 160 lo), ((q 34), aI g 160 bg), ((q 41), aI g 600 dp), ((q 42), aZ g 600 iw), ((q 43), aI g 76800 kd), ((q 47), aI g 128 (upd nw8 (nI nx).toNatClampNeg 0)), ((q 50), aI g 600 u2.2.2)] H := hP
                            have hD : va_D A [(h0, .inr (10, mob q rf n mm mb fa fp av ev wi mn tp tc sc nf fd me mp xn mt wh tq u2.1 u2.2.1 ig)), ((q 2), aI g 600 bs), ((q 16), aI g 620 on), ((q 17), aI g 620 tw), ((q 27), aI g 160 fl), ((q 28), aI g 160 pl), ((q 30), aI g 160 ty), ((q 33), aI g 160 lo), ((q 34), aI g 160 bg), ((q 41), aI g 600 dp), ((q 42), aZ g 600 iw), ((q 43), aI g 76800 kd), ((q 47), aI g 128 (upd nw8 (nI nx).toNatClampNeg 0)), ((q 50), aI g 600 u2.2.2)] := hD
                            have e9 : upd nw8 (nI nx).toNatClampNeg 0 = upd nw8 nx 0 := by rw [nI_clamp (by omega)]
                            rw [e9] at hP hD
                            refine lv_iload hx hb d_Mod_firstFrame_148 (lv_at hl 2 rfl) ?_
                            refine lv_iconst (v := 2) hx hb d_Mod_firstFrame_150 (by decide) ?_
                            refine lv_icmp_ne (tgt := 163) hx hb d_Mod_firstFrame_151 (by decide) (fun h151 => ?_) (fun h151 => ?_)
                            · exact absurd h85 h151
                            · refine lv_aload_n hx hb d_Mod_firstFrame_154 rfl (lv_at hl 5 rfl) ?_
                              refine va_get (D := g.1) (ci := 10) (v := .ref (q 47)) (C := R_Mod) (T := F_Mod) (N := 61) hx hb hts in_Mod hown hK hP 0 rfl rfl 47 (by decide) (hts _ wd_1297) (fun _ h9 => h9) rfl d_Mod_firstFrame_155 ?_
                              refine lv_iload_n hx hb d_Mod_firstFrame_158 rfl (lv_at hl 4 rfl) ?_
                              refine lv_iconst (v := 1) hx hb d_Mod_firstFrame_159 (by decide) ?_
                              refine lv_iadd hx hb d_Mod_firstFrame_160 ?_
                              refine tw_ri (e2 := nI (nx + 1)) (nI_add nx 1) ?_
                              refine lv_iconst (v := 3) hx hb d_Mod_firstFrame_161 (by decide) ?_
                              refine va_iast hx hb hK hP hD hS 12 0 rfl rfl (vp_in_nI (by omega) (by decide)) d_Mod_firstFrame_162 (fun H locs hP hD hS => ?_)
                              have hP : va_P g.1 classes [(h0, .inr (10, mob q rf n mm mb fa fp av ev wi mn tp tc sc nf fd me mp xn mt wh tq u2.1 u2.2.1 ig)), ((q 2), aI g 600 bs), ((q 16), aI g 620 on), ((q 17), aI g 620 tw), ((q 27), aI g 160 fl), ((q 28), aI g 160 pl), ((q 30), aI g 160 ty), ((q 33), aI g 160 lo), ((q 34), aI g 160 bg), ((q 41), aI g 600 dp), ((q 42), aZ g 600 iw), ((q 43), aI g 76800 kd), ((q 47), aI g 128 (upd (upd nw8 nx 0) (nI (nx + 1)).toNatClampNeg 3)), ((q 50), aI g 600 u2.2.2)] H := hP
                              have hD : va_D A [(h0, .inr (10, mob q rf n mm mb fa fp av ev wi mn tp tc sc nf fd me mp xn mt wh tq u2.1 u2.2.1 ig)), ((q 2), aI g 600 bs), ((q 16), aI g 620 on), ((q 17), aI g 620 tw), ((q 27), aI g 160 fl), ((q 28), aI g 160 pl), ((q 30), aI g 160 ty), ((q 33), aI g 160 lo), ((q 34), aI g 160 bg), ((q 41), aI g 600 dp), ((q 42), aZ g 600 iw), ((q 43), aI g 76800 kd), ((q 47), aI g 128 (upd (upd nw8 nx 0) (nI (nx + 1)).toNatClampNeg 3)), ((q 50), aI g 600 u2.2.2)] := hD
                              have e9 : upd (upd nw8 nx 0) (nI (nx + 1)).toNatClampNeg 3 = upd (upd nw8 nx 0) (nx + 1) 3 := by rw [nI_clamp (by omega)]
                              rw [e9] at hP hD
                              refine lv_iload_n hx hb d_Mod_firstFrame_163 rfl (lv_at hl 4 rfl) ?_
                              refine lv_iload hx hb d_Mod_firstFrame_164 (lv_at hl 1 rfl) ?_
                              refine lv_iadd hx hb d_Mod_firstFrame_166 ?_
                              refine tw_ri (e2 := nI (nx + 2)) (nI_add nx 2) ?_
                              refine lv_istore_n hx hb d_Mod_firstFrame_167 rfl hl (by decide) rfl (fun ls hl => ?_)
                              have hl : lv_has ls 7 [(2, .int (nI (nx + 2))), (3, .int 1), (6, .int 2), (5, .int (u2.2.2 (qq - 1))), (4, .int (nI qq - 1)), (0, .ref h0), (1, .int (nI mt))] := hl
                              refine lv_iinc (k := 4) (v := nI (qq + 1) - 1) hx hb d_Mod_firstFrame_168 hl rfl (ff_up qq) (by decide) rfl (fun ls hl => ?_)
                              have hl : lv_has ls 7 [(4, .int (nI (qq + 1) - 1)), (2, .int (nI (nx + 2))), (3, .int 1), (6, .int 2), (5, .int (u2.2.2 (qq - 1))), (0, .ref h0), (1, .int (nI mt))] := hl
                              refine lv_goto (tgt := 55) hx hb d_Mod_firstFrame_171 (by decide) ?_
                              have hP : va_P g.1 classes [(h0, .inr (10, mob q rf n mm mb fa fp av ev wi mn tp tc sc nf fd me mp xn mt wh tq u2.1 u2.2.1 ig)), ((q 2), aI g 600 bs), ((q 16), aI g 620 on), ((q 17), aI g 620 tw), ((q 27), aI g 160 fl), ((q 28), aI g 160 pl), ((q 30), aI g 160 ty), ((q 33), aI g 160 lo), ((q 34), aI g 160 bg), ((q 41), aI g 600 dp), ((q 42), aZ g 600 iw), ((q 43), aI g 76800 kd), ((q 47), aI g 128 (upd (upd nw8 nx 0) (nx + 1) 3)), ((q 50), aI g 600 u2.2.2)] H := hP.sub [0, 1, 2, 3, 4, 5, 6, 7, 8, 9, 10, 11, 12, 13] rfl
                              have hD : va_D A [(h0, .inr (10, mob q rf n mm mb fa fp av ev wi mn tp tc sc nf fd me mp xn mt wh tq u2.1 u2.2.1 ig)), ((q 2), aI g 600 bs), ((q 16), aI g 620 on), ((q 17), aI g 620 tw), ((q 27), aI g 160 fl), ((q 28), aI g 160 pl), ((q 30), aI g 160 ty), ((q 33), aI g 160 lo), ((q 34), aI g 160 bg), ((q 41), aI g 600 dp), ((q 42), aZ g 600 iw), ((q 43), aI g 76800 kd), ((q 47), aI g 128 (upd (upd nw8 nx 0) (nx + 1) 3)), ((q 50), aI g 600 u2.2.2)] := hD.sub [0, 1, 2, 3, 4, 5, 6, 7, 8, 9, 10, 11, 12, 13] (by decide) rfl
                              exact ih55 _ (by omega) (nx + 2) 1 (qq + 1) (upd (upd nw8 nx 0) (nx + 1) 3) ls _ _ rfl (by omega) (by omega) ((hNW8.put (by decide)).put2 (by omega) (by omega)) (lv_sub hl [0, 2, 1, 5, 6] rfl) hP hD hS
                  · refine lv_iload hx hb d_Mod_firstFrame_88 (lv_at hl 0 rfl) ?_
                    refine lv_bipush (v := 9) hx hb d_Mod_firstFrame_90 (by decide) ?_
                    refine lv_icmp_le (tgt := 99) hx hb d_Mod_firstFrame_92 (by decide) (fun h92 => ?_) (fun h92 => ?_)
                    · refine lv_iconst (v := 1) hx hb d_Mod_firstFrame_99 (by decide) ?_
                      refine lv_istore hx hb d_Mod_firstFrame_100 hl (by decide) rfl (fun ls hl => ?_)
                      have hl : lv_has ls 7 [(6, .int 1), (5, .int (u2.2.2 (qq - 1))), (4, .int (nI qq - 1)), (3, .int ft), (2, .int (nI nx)), (0, .ref h0), (1, .int (nI mt))] := hl
                      refine lv_iload_n hx hb d_Mod_firstFrame_102 rfl (lv_at hl 3 rfl) ?_
                      refine lv_if_eq (tgt := 123) hx hb d_Mod_firstFrame_103 (by decide) (fun h103 => ?_) (fun h103 => ?_)
                      · refine lv_iconst (v := 0) hx hb d_Mod_firstFrame_123 (by decide) ?_
                        refine lv_istore_n hx hb d_Mod_firstFrame_124 rfl hl (by decide) rfl (fun ls hl => ?_)
                        have hl : lv_has ls 7 [(3, .int 0), (6, .int 1), (5, .int (u2.2.2 (qq - 1))), (4, .int (nI qq - 1)), (2, .int (nI nx)), (0, .ref h0), (1, .int (nI mt))] := hl
                        refine lv_iload_n hx hb d_Mod_firstFrame_125 rfl (lv_at hl 0 rfl) ?_
                        refine lv_if_eq (tgt := 163) hx hb d_Mod_firstFrame_126 (by decide) (fun h126 => ?_) (fun h126 => ?_)
                        · refine lv_iload_n hx hb d_Mod_firstFrame_163 rfl (lv_at hl 4 rfl) ?_
                          refine lv_iload hx hb d_Mod_firstFrame_164 (lv_at hl 1 rfl) ?_
                          refine lv_iadd hx hb d_Mod_firstFrame_166 ?_
                          refine tw_ri (e2 := nI (nx + 1)) (nI_add nx 1) ?_
                          refine lv_istore_n hx hb d_Mod_firstFrame_167 rfl hl (by decide) rfl (fun ls hl => ?_)
                          have hl : lv_has ls 7 [(2, .int (nI (nx + 1))), (3, .int 0), (6, .int 1), (5, .int (u2.2.2 (qq - 1))), (4, .int (nI qq - 1)), (0, .ref h0), (1, .int (nI mt))] := hl
                          refine lv_iinc (k := 4) (v := nI (qq + 1) - 1) hx hb d_Mod_firstFrame_168 hl rfl (ff_up qq) (by decide) rfl (fun ls hl => ?_)
                          have hl : lv_has ls 7 [(4, .int (nI (qq + 1) - 1)), (2, .int (nI (nx + 1))), (3, .int 0), (6, .int 1), (5, .int (u2.2.2 (qq - 1))), (0, .ref h0), (1, .int (nI mt))] := hl
                          refine lv_goto (tgt := 55) hx hb d_Mod_firstFrame_171 (by decide) ?_
                          have hP : va_P g.1 classes [(h0, .inr (10, mob q rf n mm mb fa fp av ev wi mn tp tc sc nf fd me mp xn mt wh tq u2.1 u2.2.1 ig)), ((q 2), aI g 600 bs), ((q 16), aI g 620 on), ((q 17), aI g 620 tw), ((q 27), aI g 160 fl), ((q 28), aI g 160 pl), ((q 30), aI g 160 ty), ((q 33), aI g 160 lo), ((q 34), aI g 160 bg), ((q 41), aI g 600 dp), ((q 42), aZ g 600 iw), ((q 43), aI g 76800 kd), ((q 47), aI g 128 nw8), ((q 50), aI g 600 u2.2.2)] H := hP.sub [0, 1, 2, 3, 4, 5, 6, 7, 8, 9, 10, 11, 12, 13] rfl
                          have hD : va_D A [(h0, .inr (10, mob q rf n mm mb fa fp av ev wi mn tp tc sc nf fd me mp xn mt wh tq u2.1 u2.2.1 ig)), ((q 2), aI g 600 bs), ((q 16), aI g 620 on), ((q 17), aI g 620 tw), ((q 27), aI g 160 fl), ((q 28), aI g 160 pl), ((q 30), aI g 160 ty), ((q 33), aI g 160 lo), ((q 34), aI g 160 bg), ((q 41), aI g 600 dp), ((q 42), aZ g 600 iw), ((q 43), aI g 76800 kd), ((q 47), aI g 128 nw8), ((q 50), aI g 600 u2.2.2)] := hD.sub [0, 1, 2, 3, 4, 5, 6, 7, 8, 9, 10, 11, 12, 13] (by decide) rfl
                          exact ih55 _ (by omega) (nx + 1) 0 (qq + 1) nw8 ls _ _ rfl (by omega) (by omega) hNW8 (lv_sub hl [0, 2, 1, 5, 6] rfl) hP hD hS
                        · first | exact absurd h126 (by decide) | exact absurd (by decide) h126
                      · refine lv_iload_n hx hb d_Mod_firstFrame_106 rfl (lv_at hl 4 rfl) ?_
                        refine lv_iload hx hb d_Mod_firstFrame_107 (lv_at hl 0 rfl) ?_
                        refine lv_iadd hx hb d_Mod_firstFrame_109 ?_
                        refine tw_ri (e2 := nI (nx + 1)) (nI_add nx 1) ?_
                        refine lv_aload_n hx hb d_Mod_firstFrame_110 rfl (lv_at hl 5 rfl) ?_
                        refine va_get (D := g.1) (ci := 10) (v := .ref (q 33)) (C := R_Mod) (T := F_Mod) (N := 61) hx hb hts in_Mod hown hK hP 0 rfl rfl 33 (by decide) (hts _ wd_1283) (fun _ h9 => h9) rfl d_Mod_firstFrame_111 ?_
                        refine lv_iload_n hx hb d_Mod_firstFrame_114 rfl (lv_at hl 6 rfl) ?_
                        refine va_iald hx hb hK hP 7 0 rfl rfl (vp_in_nI (by omega) (by decide)) d_Mod_firstFrame_115 ?_
                        refine tw_ri (e2 := nI o1) (by rw [nI_clamp (by omega)]; exact hlo) ?_
                        refine lv_icmp_gt (tgt := 123) hx hb d_Mod_firstFrame_116 (by decide) (fun h116 => ?_) (fun h116 => ?_)
                        · refine lv_iconst (v := 0) hx hb d_Mod_firstFrame_123 (by decide) ?_
                          refine lv_istore_n hx hb d_Mod_firstFrame_124 rfl hl (by decide) rfl (fun ls hl => ?_)
                          have hl : lv_has ls 7 [(3, .int 0), (6, .int 1), (5, .int (u2.2.2 (qq - 1))), (4, .int (nI qq - 1)), (2, .int (nI nx)), (0, .ref h0), (1, .int (nI mt))] := hl
                          refine lv_iload_n hx hb d_Mod_firstFrame_125 rfl (lv_at hl 0 rfl) ?_
                          refine lv_if_eq (tgt := 163) hx hb d_Mod_firstFrame_126 (by decide) (fun h126 => ?_) (fun h126 => ?_)
                          · refine lv_iload_n hx hb d_Mod_firstFrame_163 rfl (lv_at hl 4 rfl) ?_
                            refine lv_iload hx hb d_Mod_firstFrame_164 (lv_at hl 1 rfl) ?_
                            refine lv_iadd hx hb d_Mod_firstFrame_166 ?_
                            refine tw_ri (e2 := nI (nx + 1)) (nI_add nx 1) ?_
                            refine lv_istore_n hx hb d_Mod_firstFrame_167 rfl hl (by decide) rfl (fun ls hl => ?_)
                            have hl : lv_has ls 7 [(2, .int (nI (nx + 1))), (3, .int 0), (6, .int 1), (5, .int (u2.2.2 (qq - 1))), (4, .int (nI qq - 1)), (0, .ref h0), (1, .int (nI mt))] := hl
                            refine lv_iinc (k := 4) (v := nI (qq + 1) - 1) hx hb d_Mod_firstFrame_168 hl rfl (ff_up qq) (by decide) rfl (fun ls hl => ?_)
                            have hl : lv_has ls 7 [(4, .int (nI (qq + 1) - 1)), (2, .int (nI (nx + 1))), (3, .int 0), (6, .int 1), (5, .int (u2.2.2 (qq - 1))), (0, .ref h0), (1, .int (nI mt))] := hl
                            refine lv_goto (tgt := 55) hx hb d_Mod_firstFrame_171 (by decide) ?_
                            have hP : va_P g.1 classes [(h0, .inr (10, mob q rf n mm mb fa fp av ev wi mn tp tc sc nf fd me mp xn mt wh tq u2.1 u2.2.1 ig)), ((q 2), aI g 600 bs), ((q 16), aI g 620 on), ((q 17), aI g 620 tw), ((q 27), aI g 160 fl), ((q 28), aI g 160 pl), ((q 30), aI g 160 ty), ((q 33), aI g 160 lo), ((q 34), aI g 160 bg), ((q 41), aI g 600 dp), ((q 42), aZ g 600 iw), ((q 43), aI g 76800 kd), ((q 47), aI g 128 nw8), ((q 50), aI g 600 u2.2.2)] H := hP.sub [0, 1, 2, 3, 4, 5, 6, 7, 8, 9, 10, 11, 12, 13] rfl
                            have hD : va_D A [(h0, .inr (10, mob q rf n mm mb fa fp av ev wi mn tp tc sc nf fd me mp xn mt wh tq u2.1 u2.2.1 ig)), ((q 2), aI g 600 bs), ((q 16), aI g 620 on), ((q 17), aI g 620 tw), ((q 27), aI g 160 fl), ((q 28), aI g 160 pl), ((q 30), aI g 160 ty), ((q 33), aI g 160 lo), ((q 34), aI g 160 bg), ((q 41), aI g 600 dp), ((q 42), aZ g 600 iw), ((q 43), aI g 76800 kd), ((q 47), aI g 128 nw8), ((q 50), aI g 600 u2.2.2)] := hD.sub [0, 1, 2, 3, 4, 5, 6, 7, 8, 9, 10, 11, 12, 13] (by decide) rfl
                            exact ih55 _ (by omega) (nx + 1) 0 (qq + 1) nw8 ls _ _ rfl (by omega) (by omega) hNW8 (lv_sub hl [0, 2, 1, 5, 6] rfl) hP hD hS
                          · first | exact absurd h126 (by decide) | exact absurd (by decide) h126
                        · have h116 := tn_nlt h116 (by omega) (by omega)
                          refine lv_iconst (v := 1) hx hb d_Mod_firstFrame_119 (by decide) ?_
                          refine lv_goto (tgt := 124) hx hb d_Mod_firstFrame_120 (by decide) ?_
                          refine lv_istore_n hx hb d_Mod_firstFrame_124 rfl hl (by decide) rfl (fun ls hl => ?_)
                          have hl : lv_has ls 7 [(3, .int 1), (6, .int 1), (5, .int (u2.2.2 (qq - 1))), (4, .int (nI qq - 1)), (2, .int (nI nx)), (0, .ref h0), (1, .int (nI mt))] := hl
                          refine lv_iload_n hx hb d_Mod_firstFrame_125 rfl (lv_at hl 0 rfl) ?_
                          refine lv_if_eq (tgt := 163) hx hb d_Mod_firstFrame_126 (by decide) (fun h126 => ?_) (fun h126 => ?_)
                          · first | exact absurd h126 (by decide) | exact absurd (by decide) h126
                          · refine lv_aload_n hx hb d_Mod_firstFrame_129 rfl (lv_at hl 5 rfl) ?_
                            refine va_get (D := g.1) (ci := 10) (v := .ref (q 47)) (C := R_Mod) (T := F_Mod) (N := 61) hx hb hts in_Mod hown hK hP 0 rfl rfl 47 (by decide) (hts _ wd_1297) (fun _ h9 => h9) rfl d_Mod_firstFrame_130 ?_
                            refine lv_iload_n hx hb d_Mod_firstFrame_133 rfl (lv_at hl 4 rfl) ?_
                            refine lv_iload hx hb d_Mod_firstFrame_134 (lv_at hl 2 rfl) ?_
                            refine lv_bipush (v := 9) hx hb d_Mod_firstFrame_136 (by decide) ?_
                            refine lv_icmp_lt (tgt := 145) hx hb d_Mod_firstFrame_138 (by decide) (fun h138 => ?_) (fun h138 => ?_)
                            · refine lv_iload hx hb d_Mod_firstFrame_145 (lv_at hl 2 rfl) ?_
                              refine va_iast hx hb hK hP hD hS 12 0 rfl rfl (vp_in_nI (by omega) (by decide)) d_Mod_firstFrame_147 (fun H locs hP hD hS => ?_)
                              have hP : va_P g.1 classes [(h0, .inr (10, mob q rf n mm mb fa fp av ev wi mn tp tc sc nf fd me mp xn mt wh tq u2.1 u2.2.1 ig)), ((q 2), aI g 600 bs), ((q 16), aI g 620 on), ((q 17), aI g 620 tw), ((q 27), aI g 160 fl), ((q 28), aI g 160 pl), ((q 30), aI g 160 ty), ((q 33), aI g 160 lo), ((q 34), aI g 160 bg), ((q 41), aI g 600 dp), ((q 42), aZ g 600 iw), ((q 43), aI g 76800 kd), ((q 47), aI g 128 (upd nw8 (nI nx).toNatClampNeg (u2.2.2 (qq - 1)))), ((q 50), aI g 600 u2.2.2)] H := hP
                              have hD : va_D A [(h0, .inr (10, mob q rf n mm mb fa fp av ev wi mn tp tc sc nf fd me mp xn mt wh tq u2.1 u2.2.1 ig)), ((q 2), aI g 600 bs), ((q 16), aI g 620 on), ((q 17), aI g 620 tw), ((q 27), aI g 160 fl), ((q 28), aI g 160 pl), ((q 30), aI g 160 ty), ((q 33), aI g 160 lo), ((q 34), aI g 160 bg), ((q 41), aI g 600 dp), ((q 42), aZ g 600 iw), ((q 43), aI g 76800 kd), ((q 47), aI g 128 (upd nw8 (nI nx).toNatClampNeg (u2.2.2 (qq - 1)))), ((q 50), aI g 600 u2.2.2)] := hD
                              have e9 : upd nw8 (nI nx).toNatClampNeg (u2.2.2 (qq - 1)) = upd nw8 nx (u2.2.2 (qq - 1)) := by rw [nI_clamp (by omega)]
                              rw [e9] at hP hD
                              refine lv_iload hx hb d_Mod_firstFrame_148 (lv_at hl 2 rfl) ?_
                              refine lv_iconst (v := 2) hx hb d_Mod_firstFrame_150 (by decide) ?_
                              refine lv_icmp_ne (tgt := 163) hx hb d_Mod_firstFrame_151 (by decide) (fun h151 => ?_) (fun h151 => ?_)
                              · refine lv_iload_n hx hb d_Mod_firstFrame_163 rfl (lv_at hl 4 rfl) ?_
                                refine lv_iload hx hb d_Mod_firstFrame_164 (lv_at hl 1 rfl) ?_
                                refine lv_iadd hx hb d_Mod_firstFrame_166 ?_
                                refine tw_ri (e2 := nI (nx + 1)) (nI_add nx 1) ?_
                                refine lv_istore_n hx hb d_Mod_firstFrame_167 rfl hl (by decide) rfl (fun ls hl => ?_)
                                have hl : lv_has ls 7 [(2, .int (nI (nx + 1))), (3, .int 1), (6, .int 1), (5, .int (u2.2.2 (qq - 1))), (4, .int (nI qq - 1)), (0, .ref h0), (1, .int (nI mt))] := hl
                                refine lv_iinc (k := 4) (v := nI (qq + 1) - 1) hx hb d_Mod_firstFrame_168 hl rfl (ff_up qq) (by decide) rfl (fun ls hl => ?_)
                                have hl : lv_has ls 7 [(4, .int (nI (qq + 1) - 1)), (2, .int (nI (nx + 1))), (3, .int 1), (6, .int 1), (5, .int (u2.2.2 (qq - 1))), (0, .ref h0), (1, .int (nI mt))] := hl
                                refine lv_goto (tgt := 55) hx hb d_Mod_firstFrame_171 (by decide) ?_
                                have hP : va_P g.1 classes [(h0, .inr (10, mob q rf n mm mb fa fp av ev wi mn tp tc sc nf fd me mp xn mt wh tq u2.1 u2.2.1 ig)), ((q 2), aI g 600 bs), ((q 16), aI g 620 on), ((q 17), aI g 620 tw), ((q 27), aI g 160 fl), ((q 28), aI g 160 pl), ((q 30), aI g 160 ty), ((q 33), aI g 160 lo), ((q 34), aI g 160 bg), ((q 41), aI g 600 dp), ((q 42), aZ g 600 iw), ((q 43), aI g 76800 kd), ((q 47), aI g 128 (upd nw8 nx (u2.2.2 (qq - 1)))), ((q 50), aI g 600 u2.2.2)] H := hP.sub [0, 1, 2, 3, 4, 5, 6, 7, 8, 9, 10, 11, 12, 13] rfl
                                have hD : va_D A [(h0, .inr (10, mob q rf n mm mb fa fp av ev wi mn tp tc sc nf fd me mp xn mt wh tq u2.1 u2.2.1 ig)), ((q 2), aI g 600 bs), ((q 16), aI g 620 on), ((q 17), aI g 620 tw), ((q 27), aI g 160 fl), ((q 28), aI g 160 pl), ((q 30), aI g 160 ty), ((q 33), aI g 160 lo), ((q 34), aI g 160 bg), ((q 41), aI g 600 dp), ((q 42), aZ g 600 iw), ((q 43), aI g 76800 kd), ((q 47), aI g 128 (upd nw8 nx (u2.2.2 (qq - 1)))), ((q 50), aI g 600 u2.2.2)] := hD.sub [0, 1, 2, 3, 4, 5, 6, 7, 8, 9, 10, 11, 12, 13] (by decide) rfl
                                exact ih55 _ (by omega) (nx + 1) 1 (qq + 1) (upd nw8 nx (u2.2.2 (qq - 1))) ls _ _ rfl (by omega) (by omega) (hNW8.put (kn3 hkk)) (lv_sub hl [0, 2, 1, 5, 6] rfl) hP hD hS
                              · exact absurd h151 h85
                            · refine lv_iconst (v := 0) hx hb d_Mod_firstFrame_141 (by decide) ?_
                              refine lv_goto (tgt := 147) hx hb d_Mod_firstFrame_142 (by decide) ?_
                              refine va_iast hx hb hK hP hD hS 12 0 rfl rfl (vp_in_nI (by omega) (by decide)) d_Mod_firstFrame_147 (fun H locs hP hD hS => ?_)
                              have hP : va_P g.1 classes [(h0, .inr (10, mob q rf n mm mb fa fp av ev wi mn tp tc sc nf fd me mp xn mt wh tq u2.1 u2.2.1 ig)), ((q 2), aI g 600 bs), ((q 16), aI g 620 on), ((q 17), aI g 620 tw), ((q 27), aI g 160 fl), ((q 28), aI g 160 pl), ((q 30), aI g 160 ty), ((q 33), aI g 160 lo), ((q 34), aI g 160 bg), ((q 41), aI g 600 dp), ((q 42), aZ g 600 iw), ((q 43), aI g 76800 kd), ((q 47), aI g 128 (upd nw8 (nI nx).toNatClampNeg 0)), ((q 50), aI g 600 u2.2.2)] H := hP
                              have hD : va_D A [(h0, .inr (10, mob q rf n mm mb fa fp av ev wi mn tp tc sc nf fd me mp xn mt wh tq u2.1 u2.2.1 ig)), ((q 2), aI g 600 bs), ((q 16), aI g 620 on), ((q 17), aI g 620 tw), ((q 27), aI g 160 fl), ((q 28), aI g 160 pl), ((q 30), aI g 160 ty), ((q 33), aI g 160 lo), ((q 34), aI g 160 bg), ((q 41), aI g 600 dp), ((q 42), aZ g 600 iw), ((q 43), aI g 76800 kd), ((q 47), aI g 128 (upd nw8 (nI nx).toNatClampNeg 0)), ((q 50), aI g 600 u2.2.2)] := hD
                              have e9 : upd nw8 (nI nx).toNatClampNeg 0 = upd nw8 nx 0 := by rw [nI_clamp (by omega)]
                              rw [e9] at hP hD
                              refine lv_iload hx hb d_Mod_firstFrame_148 (lv_at hl 2 rfl) ?_
                              refine lv_iconst (v := 2) hx hb d_Mod_firstFrame_150 (by decide) ?_
                              refine lv_icmp_ne (tgt := 163) hx hb d_Mod_firstFrame_151 (by decide) (fun h151 => ?_) (fun h151 => ?_)
                              · refine lv_iload_n hx hb d_Mod_firstFrame_163 rfl (lv_at hl 4 rfl) ?_
                                refine lv_iload hx hb d_Mod_firstFrame_164 (lv_at hl 1 rfl) ?_
                                refine lv_iadd hx hb d_Mod_firstFrame_166 ?_
                                refine tw_ri (e2 := nI (nx + 1)) (nI_add nx 1) ?_
                                refine lv_istore_n hx hb d_Mod_firstFrame_167 rfl hl (by decide) rfl (fun ls hl => ?_)
                                have hl : lv_has ls 7 [(2, .int (nI (nx + 1))), (3, .int 1), (6, .int 1), (5, .int (u2.2.2 (qq - 1))), (4, .int (nI qq - 1)), (0, .ref h0), (1, .int (nI mt))] := hl
                                refine lv_iinc (k := 4) (v := nI (qq + 1) - 1) hx hb d_Mod_firstFrame_168 hl rfl (ff_up qq) (by decide) rfl (fun ls hl => ?_)
                                have hl : lv_has ls 7 [(4, .int (nI (qq + 1) - 1)), (2, .int (nI (nx + 1))), (3, .int 1), (6, .int 1), (5, .int (u2.2.2 (qq - 1))), (0, .ref h0), (1, .int (nI mt))] := hl
                                refine lv_goto (tgt := 55) hx hb d_Mod_firstFrame_171 (by decide) ?_
                                have hP : va_P g.1 classes [(h0, .inr (10, mob q rf n mm mb fa fp av ev wi mn tp tc sc nf fd me mp xn mt wh tq u2.1 u2.2.1 ig)), ((q 2), aI g 600 bs), ((q 16), aI g 620 on), ((q 17), aI g 620 tw), ((q 27), aI g 160 fl), ((q 28), aI g 160 pl), ((q 30), aI g 160 ty), ((q 33), aI g 160 lo), ((q 34), aI g 160 bg), ((q 41), aI g 600 dp), ((q 42), aZ g 600 iw), ((q 43), aI g 76800 kd), ((q 47), aI g 128 (upd nw8 nx 0)), ((q 50), aI g 600 u2.2.2)] H := hP.sub [0, 1, 2, 3, 4, 5, 6, 7, 8, 9, 10, 11, 12, 13] rfl
                                have hD : va_D A [(h0, .inr (10, mob q rf n mm mb fa fp av ev wi mn tp tc sc nf fd me mp xn mt wh tq u2.1 u2.2.1 ig)), ((q 2), aI g 600 bs), ((q 16), aI g 620 on), ((q 17), aI g 620 tw), ((q 27), aI g 160 fl), ((q 28), aI g 160 pl), ((q 30), aI g 160 ty), ((q 33), aI g 160 lo), ((q 34), aI g 160 bg), ((q 41), aI g 600 dp), ((q 42), aZ g 600 iw), ((q 43), aI g 76800 kd), ((q 47), aI g 128 (upd nw8 nx 0)), ((q 50), aI g 600 u2.2.2)] := hD.sub [0, 1, 2, 3, 4, 5, 6, 7, 8, 9, 10, 11, 12, 13] (by decide) rfl
                                exact ih55 _ (by omega) (nx + 1) 1 (qq + 1) (upd nw8 nx 0) ls _ _ rfl (by omega) (by omega) (hNW8.put (by decide)) (lv_sub hl [0, 2, 1, 5, 6] rfl) hP hD hS
                              · exact absurd h151 h85
                    · refine lv_iconst (v := 2) hx hb d_Mod_firstFrame_95 (by decide) ?_
                      refine lv_goto (tgt := 100) hx hb d_Mod_firstFrame_96 (by decide) ?_
                      refine lv_istore hx hb d_Mod_firstFrame_100 hl (by decide) rfl (fun ls hl => ?_)
                      have hl : lv_has ls 7 [(6, .int 2), (5, .int (u2.2.2 (qq - 1))), (4, .int (nI qq - 1)), (3, .int ft), (2, .int (nI nx)), (0, .ref h0), (1, .int (nI mt))] := hl
                      refine lv_iload_n hx hb d_Mod_firstFrame_102 rfl (lv_at hl 3 rfl) ?_
                      refine lv_if_eq (tgt := 123) hx hb d_Mod_firstFrame_103 (by decide) (fun h103 => ?_) (fun h103 => ?_)
                      · refine lv_iconst (v := 0) hx hb d_Mod_firstFrame_123 (by decide) ?_
                        refine lv_istore_n hx hb d_Mod_firstFrame_124 rfl hl (by decide) rfl (fun ls hl => ?_)
                        have hl : lv_has ls 7 [(3, .int 0), (6, .int 2), (5, .int (u2.2.2 (qq - 1))), (4, .int (nI qq - 1)), (2, .int (nI nx)), (0, .ref h0), (1, .int (nI mt))] := hl
                        refine lv_iload_n hx hb d_Mod_firstFrame_125 rfl (lv_at hl 0 rfl) ?_
                        refine lv_if_eq (tgt := 163) hx hb d_Mod_firstFrame_126 (by decide) (fun h126 => ?_) (fun h126 => ?_)
                        · refine lv_iload_n hx hb d_Mod_firstFrame_163 rfl (lv_at hl 4 rfl) ?_
                          refine lv_iload hx hb d_Mod_firstFrame_164 (lv_at hl 1 rfl) ?_
                          refine lv_iadd hx hb d_Mod_firstFrame_166 ?_
                          refine tw_ri (e2 := nI (nx + 2)) (nI_add nx 2) ?_
                          refine lv_istore_n hx hb d_Mod_firstFrame_167 rfl hl (by decide) rfl (fun ls hl => ?_)
                          have hl : lv_has ls 7 [(2, .int (nI (nx + 2))), (3, .int 0), (6, .int 2), (5, .int (u2.2.2 (qq - 1))), (4, .int (nI qq - 1)), (0, .ref h0), (1, .int (nI mt))] := hl
                          refine lv_iinc (k := 4) (v := nI (qq + 1) - 1) hx hb d_Mod_firstFrame_168 hl rfl (ff_up qq) (by decide) rfl (fun ls hl => ?_)
                          have hl : lv_has ls 7 [(4, .int (nI (qq + 1) - 1)), (2, .int (nI (nx + 2))), (3, .int 0), (6, .int 2), (5, .int (u2.2.2 (qq - 1))), (0, .ref h0), (1, .int (nI mt))] := hl
                          refine lv_goto (tgt := 55) hx hb d_Mod_firstFrame_171 (by decide) ?_
                          have hP : va_P g.1 classes [(h0, .inr (10, mob q rf n mm mb fa fp av ev wi mn tp tc sc nf fd me mp xn mt wh tq u2.1 u2.2.1 ig)), ((q 2), aI g 600 bs), ((q 16), aI g 620 on), ((q 17), aI g 620 tw), ((q 27), aI g 160 fl), ((q 28), aI g 160 pl), ((q 30), aI g 160 ty), ((q 33), aI g 160 lo), ((q 34), aI g 160 bg), ((q 41), aI g 600 dp), ((q 42), aZ g 600 iw), ((q 43), aI g 76800 kd), ((q 47), aI g 128 nw8), ((q 50), aI g 600 u2.2.2)] H := hP.sub [0, 1, 2, 3, 4, 5, 6, 7, 8, 9, 10, 11, 12, 13] rfl
                          have hD : va_D A [(h0, .inr (10, mob q rf n mm mb fa fp av ev wi mn tp tc sc nf fd me mp xn mt wh tq u2.1 u2.2.1 ig)), ((q 2), aI g 600 bs), ((q 16), aI g 620 on), ((q 17), aI g 620 tw), ((q 27), aI g 160 fl), ((q 28), aI g 160 pl), ((q 30), aI g 160 ty), ((q 33), aI g 160 lo), ((q 34), aI g 160 bg), ((q 41), aI g 600 dp), ((q 42), aZ g 600 iw), ((q 43), aI g 76800 kd), ((q 47), aI g 128 nw8), ((q 50), aI g 600 u2.2.2)] := hD.sub [0, 1, 2, 3, 4, 5, 6, 7, 8, 9, 10, 11, 12, 13] (by decide) rfl
                          exact ih55 _ (by omega) (nx + 2) 0 (qq + 1) nw8 ls _ _ rfl (by omega) (by omega) hNW8 (lv_sub hl [0, 2, 1, 5, 6] rfl) hP hD hS
                        · first | exact absurd h126 (by decide) | exact absurd (by decide) h126
                      · refine lv_iload_n hx hb d_Mod_firstFrame_106 rfl (lv_at hl 4 rfl) ?_
                        refine lv_iload hx hb d_Mod_firstFrame_107 (lv_at hl 0 rfl) ?_
                        refine lv_iadd hx hb d_Mod_firstFrame_109 ?_
                        refine tw_ri (e2 := nI (nx + 2)) (nI_add nx 2) ?_
                        refine lv_aload_n hx hb d_Mod_firstFrame_110 rfl (lv_at hl 5 rfl) ?_
                        refine va_get (D := g.1) (ci := 10) (v := .ref (q 33)) (C := R_Mod) (T := F_Mod) (N := 61) hx hb hts in_Mod hown hK hP 0 rfl rfl 33 (by decide) (hts _ wd_1283) (fun _ h9 => h9) rfl d_Mod_firstFrame_111 ?_
                        refine lv_iload_n hx hb d_Mod_firstFrame_114 rfl (lv_at hl 6 rfl) ?_
                        refine va_iald hx hb hK hP 7 0 rfl rfl (vp_in_nI (by omega) (by decide)) d_Mod_firstFrame_115 ?_
                        refine tw_ri (e2 := nI o1) (by rw [nI_clamp (by omega)]; exact hlo) ?_
                        refine lv_icmp_gt (tgt := 123) hx hb d_Mod_firstFrame_116 (by decide) (fun h116 => ?_) (fun h116 => ?_)
                        · refine lv_iconst (v := 0) hx hb d_Mod_firstFrame_123 (by decide) ?_
                          refine lv_istore_n hx hb d_Mod_firstFrame_124 rfl hl (by decide) rfl (fun ls hl => ?_)
                          have hl : lv_has ls 7 [(3, .int 0), (6, .int 2), (5, .int (u2.2.2 (qq - 1))), (4, .int (nI qq - 1)), (2, .int (nI nx)), (0, .ref h0), (1, .int (nI mt))] := hl
                          refine lv_iload_n hx hb d_Mod_firstFrame_125 rfl (lv_at hl 0 rfl) ?_
                          refine lv_if_eq (tgt := 163) hx hb d_Mod_firstFrame_126 (by decide) (fun h126 => ?_) (fun h126 => ?_)
                          · refine lv_iload_n hx hb d_Mod_firstFrame_163 rfl (lv_at hl 4 rfl) ?_
                            refine lv_iload hx hb d_Mod_firstFrame_164 (lv_at hl 1 rfl) ?_
                            refine lv_iadd hx hb d_Mod_firstFrame_166 ?_
                            refine tw_ri (e2 := nI (nx + 2)) (nI_add nx 2) ?_
                            refine lv_istore_n hx hb d_Mod_firstFrame_167 rfl hl (by decide) rfl (fun ls hl => ?_)
                            have hl : lv_has ls 7 [(2, .int (nI (nx + 2))), (3, .int 0), (6, .int 2), (5, .int (u2.2.2 (qq - 1))), (4, .int (nI qq - 1)), (0, .ref h0), (1, .int (nI mt))] := hl
                            refine lv_iinc (k := 4) (v := nI (qq + 1) - 1) hx hb d_Mod_firstFrame_168 hl rfl (ff_up qq) (by decide) rfl (fun ls hl => ?_)
                            have hl : lv_has ls 7 [(4, .int (nI (qq + 1) - 1)), (2, .int (nI (nx + 2))), (3, .int 0), (6, .int 2), (5, .int (u2.2.2 (qq - 1))), (0, .ref h0), (1, .int (nI mt))] := hl
                            refine lv_goto (tgt := 55) hx hb d_Mod_firstFrame_171 (by decide) ?_
                            have hP : va_P g.1 classes [(h0, .inr (10, mob q rf n mm mb fa fp av ev wi mn tp tc sc nf fd me mp xn mt wh tq u2.1 u2.2.1 ig)), ((q 2), aI g 600 bs), ((q 16), aI g 620 on), ((q 17), aI g 620 tw), ((q 27), aI g 160 fl), ((q 28), aI g 160 pl), ((q 30), aI g 160 ty), ((q 33), aI g 160 lo), ((q 34), aI g 160 bg), ((q 41), aI g 600 dp), ((q 42), aZ g 600 iw), ((q 43), aI g 76800 kd), ((q 47), aI g 128 nw8), ((q 50), aI g 600 u2.2.2)] H := hP.sub [0, 1, 2, 3, 4, 5, 6, 7, 8, 9, 10, 11, 12, 13] rfl
                            have hD : va_D A [(h0, .inr (10, mob q rf n mm mb fa fp av ev wi mn tp tc sc nf fd me mp xn mt wh tq u2.1 u2.2.1 ig)), ((q 2), aI g 600 bs), ((q 16), aI g 620 on), ((q 17), aI g 620 tw), ((q 27), aI g 160 fl), ((q 28), aI g 160 pl), ((q 30), aI g 160 ty), ((q 33), aI g 160 lo), ((q 34), aI g 160 bg), ((q 41), aI g 600 dp), ((q 42), aZ g 600 iw), ((q 43), aI g 76800 kd), ((q 47), aI g 128 nw8), ((q 50), aI g 600 u2.2.2)] := hD.sub [0, 1, 2, 3, 4, 5, 6, 7, 8, 9, 10, 11, 12, 13] (by decide) rfl
                            exact ih55 _ (by omega) (nx + 2) 0 (qq + 1) nw8 ls _ _ rfl (by omega) (by omega) hNW8 (lv_sub hl [0, 2, 1, 5, 6] rfl) hP hD hS
                          · first | exact absurd h126 (by decide) | exact absurd (by decide) h126
                        · have h116 := tn_nlt h116 (by omega) (by omega)
                          refine lv_iconst (v := 1) hx hb d_Mod_firstFrame_119 (by decide) ?_
                          refine lv_goto (tgt := 124) hx hb d_Mod_firstFrame_120 (by decide) ?_
                          refine lv_istore_n hx hb d_Mod_firstFrame_124 rfl hl (by decide) rfl (fun ls hl => ?_)
                          have hl : lv_has ls 7 [(3, .int 1), (6, .int 2), (5, .int (u2.2.2 (qq - 1))), (4, .int (nI qq - 1)), (2, .int (nI nx)), (0, .ref h0), (1, .int (nI mt))] := hl
                          refine lv_iload_n hx hb d_Mod_firstFrame_125 rfl (lv_at hl 0 rfl) ?_
                          refine lv_if_eq (tgt := 163) hx hb d_Mod_firstFrame_126 (by decide) (fun h126 => ?_) (fun h126 => ?_)
                          · first | exact absurd h126 (by decide) | exact absurd (by decide) h126
                          · refine lv_aload_n hx hb d_Mod_firstFrame_129 rfl (lv_at hl 5 rfl) ?_
                            refine va_get (D := g.1) (ci := 10) (v := .ref (q 47)) (C := R_Mod) (T := F_Mod) (N := 61) hx hb hts in_Mod hown hK hP 0 rfl rfl 47 (by decide) (hts _ wd_1297) (fun _ h9 => h9) rfl d_Mod_firstFrame_130 ?_
                            refine lv_iload_n hx hb d_Mod_firstFrame_133 rfl (lv_at hl 4 rfl) ?_
                            refine lv_iload hx hb d_Mod_firstFrame_134 (lv_at hl 2 rfl) ?_
                            refine lv_bipush (v := 9) hx hb d_Mod_firstFrame_136 (by decide) ?_
                            refine lv_icmp_lt (tgt := 145) hx hb d_Mod_firstFrame_138 (by decide) (fun h138 => ?_) (fun h138 => ?_)
                            · refine lv_iload hx hb d_Mod_firstFrame_145 (lv_at hl 2 rfl) ?_
                              refine va_iast hx hb hK hP hD hS 12 0 rfl rfl (vp_in_nI (by omega) (by decide)) d_Mod_firstFrame_147 (fun H locs hP hD hS => ?_)
                              have hP : va_P g.1 classes [(h0, .inr (10, mob q rf n mm mb fa fp av ev wi mn tp tc sc nf fd me mp xn mt wh tq u2.1 u2.2.1 ig)), ((q 2), aI g 600 bs), ((q 16), aI g 620 on), ((q 17), aI g 620 tw), ((q 27), aI g 160 fl), ((q 28), aI g 160 pl), ((q 30), aI g 160 ty), ((q 33), aI g 160 lo), ((q 34), aI g 160 bg), ((q 41), aI g 600 dp), ((q 42), aZ g 600 iw), ((q 43), aI g 76800 kd), ((q 47), aI g 128 (upd nw8 (nI nx).toNatClampNeg (u2.2.2 (qq - 1)))), ((q 50), aI g 600 u2.2.2)] H := hP
                              have hD : va_D A [(h0, .inr (10, mob q rf n mm mb fa fp av ev wi mn tp tc sc nf fd me mp xn mt wh tq u2.1 u2.2.1 ig)), ((q 2), aI g 600 bs), ((q 16), aI g 620 on), ((q 17), aI g 620 tw), ((q 27), aI g 160 fl), ((q 28), aI g 160 pl), ((q 30), aI g 160 ty), ((q 33), aI g 160 lo), ((q 34), aI g 160 bg), ((q 41), aI g 600 dp), ((q 42), aZ g 600 iw), ((q 43), aI g 76800 kd), ((q 47), aI g 128 (upd nw8 (nI nx).toNatClampNeg (u2.2.2 (qq - 1)))), ((q 50), aI g 600 u2.2.2)] := hD
                              have e9 : upd nw8 (nI nx).toNatClampNeg (u2.2.2 (qq - 1)) = upd nw8 nx (u2.2.2 (qq - 1)) := by rw [nI_clamp (by omega)]
                              rw [e9] at hP hD
                              refine lv_iload hx hb d_Mod_firstFrame_148 (lv_at hl 2 rfl) ?_
                              refine lv_iconst (v := 2) hx hb d_Mod_firstFrame_150 (by decide) ?_
                              refine lv_icmp_ne (tgt := 163) hx hb d_Mod_firstFrame_151 (by decide) (fun h151 => ?_) (fun h151 => ?_)
                              · refine lv_iload_n hx hb d_Mod_firstFrame_163 rfl (lv_at hl 4 rfl) ?_
                                refine lv_iload hx hb d_Mod_firstFrame_164 (lv_at hl 1 rfl) ?_
                                refine lv_iadd hx hb d_Mod_firstFrame_166 ?_
                                refine tw_ri (e2 := nI (nx + 2)) (nI_add nx 2) ?_
                                refine lv_istore_n hx hb d_Mod_firstFrame_167 rfl hl (by decide) rfl (fun ls hl => ?_)
                                have hl : lv_has ls 7 [(2, .int (nI (nx + 2))), (3, .int 1), (6, .int 2), (5, .int (u2.2.2 (qq - 1))), (4, .int (nI qq - 1)), (0, .ref h0), (1, .int (nI mt))] := hl
                                refine lv_iinc (k := 4) (v := nI (qq + 1) - 1) hx hb d_Mod_firstFrame_168 hl rfl (ff_up qq) (by decide) rfl (fun ls hl => ?_)
                                have hl : lv_has ls 7 [(4, .int (nI (qq + 1) - 1)), (2, .int (nI (nx + 2))), (3, .int 1), (6, .int 2), (5, .int (u2.2.2 (qq - 1))), (0, .ref h0), (1, .int (nI mt))] := hl
                                refine lv_goto (tgt := 55) hx hb d_Mod_firstFrame_171 (by decide) ?_
                                have hP : va_P g.1 classes [(h0, .inr (10, mob q rf n mm mb fa fp av ev wi mn tp tc sc nf fd me mp xn mt wh tq u2.1 u2.2.1 ig)), ((q 2), aI g 600 bs), ((q 16), aI g 620 on), ((q 17), aI g 620 tw), ((q 27), aI g 160 fl), ((q 28), aI g 160 pl), ((q 30), aI g 160 ty), ((q 33), aI g 160 lo), ((q 34), aI g 160 bg), ((q 41), aI g 600 dp), ((q 42), aZ g 600 iw), ((q 43), aI g 76800 kd), ((q 47), aI g 128 (upd nw8 nx (u2.2.2 (qq - 1)))), ((q 50), aI g 600 u2.2.2)] H := hP.sub [0, 1, 2, 3, 4, 5, 6, 7, 8, 9, 10, 11, 12, 13] rfl
                                have hD : va_D A [(h0, .inr (10, mob q rf n mm mb fa fp av ev wi mn tp tc sc nf fd me mp xn mt wh tq u2.1 u2.2.1 ig)), ((q 2), aI g 600 bs), ((q 16), aI g 620 on), ((q 17), aI g 620 tw), ((q 27), aI g 160 fl), ((q 28), aI g 160 pl), ((q 30), aI g 160 ty), ((q 33), aI g 160 lo), ((q 34), aI g 160 bg), ((q 41), aI g 600 dp), ((q 42), aZ g 600 iw), ((q 43), aI g 76800 kd), ((q 47), aI g 128 (upd nw8 nx (u2.2.2 (qq - 1)))), ((q 50), aI g 600 u2.2.2)] := hD.sub [0, 1, 2, 3, 4, 5, 6, 7, 8, 9, 10, 11, 12, 13] (by decide) rfl
                                exact ih55 _ (by omega) (nx + 2) 1 (qq + 1) (upd nw8 nx (u2.2.2 (qq - 1))) ls _ _ rfl (by omega) (by omega) (hNW8.put (kn3 hkk)) (lv_sub hl [0, 2, 1, 5, 6] rfl) hP hD hS
                              · exact absurd h151 h85
                            · refine lv_iconst (v := 0) hx hb d_Mod_firstFrame_141 (by decide) ?_
                              refine lv_goto (tgt := 147) hx hb d_Mod_firstFrame_142 (by decide) ?_
                              refine va_iast hx hb hK hP hD hS 12 0 rfl rfl (vp_in_nI (by omega) (by decide)) d_Mod_firstFrame_147 (fun H locs hP hD hS => ?_)
                              have hP : va_P g.1 classes [(h0, .inr (10, mob q rf n mm mb fa fp av ev wi mn tp tc sc nf fd me mp xn mt wh tq u2.1 u2.2.1 ig)), ((q 2), aI g 600 bs), ((q 16), aI g 620 on), ((q 17), aI g 620 tw), ((q 27), aI g 160 fl), ((q 28), aI g 160 pl), ((q 30), aI g 160 ty), ((q 33), aI g 160 lo), ((q 34), aI g 160 bg), ((q 41), aI g 600 dp), ((q 42), aZ g 600 iw), ((q 43), aI g 76800 kd), ((q 47), aI g 128 (upd nw8 (nI nx).toNatClampNeg 0)), ((q 50), aI g 600 u2.2.2)] H := hP
                              have hD : va_D A [(h0, .inr (10, mob q rf n mm mb fa fp av ev wi mn tp tc sc nf fd me mp xn mt wh tq u2.1 u2.2.1 ig)), ((q 2), aI g 600 bs), ((q 16), aI g 620 on), ((q 17), aI g 620 tw), ((q 27), aI g 160 fl), ((q 28), aI g 160 pl), ((q 30), aI g 160 ty), ((q 33), aI g 160 lo), ((q 34), aI g 160 bg), ((q 41), aI g 600 dp), ((q 42), aZ g 600 iw), ((q 43), aI g 76800 kd), ((q 47), aI g 128 (upd nw8 (nI nx).toNatClampNeg 0)), ((q 50), aI g 600 u2.2.2)] := hD
                              have e9 : upd nw8 (nI nx).toNatClampNeg 0 = upd nw8 nx 0 := by rw [nI_clamp (by omega)]
                              rw [e9] at hP hD
                              refine lv_iload hx hb d_Mod_firstFrame_148 (lv_at hl 2 rfl) ?_
                              refine lv_iconst (v := 2) hx hb d_Mod_firstFrame_150 (by decide) ?_
                              refine lv_icmp_ne (tgt := 163) hx hb d_Mod_firstFrame_151 (by decide) (fun h151 => ?_) (fun h151 => ?_)
                              · refine lv_iload_n hx hb d_Mod_firstFrame_163 rfl (lv_at hl 4 rfl) ?_
                                refine lv_iload hx hb d_Mod_firstFrame_164 (lv_at hl 1 rfl) ?_
                                refine lv_iadd hx hb d_Mod_firstFrame_166 ?_
                                refine tw_ri (e2 := nI (nx + 2)) (nI_add nx 2) ?_
                                refine lv_istore_n hx hb d_Mod_firstFrame_167 rfl hl (by decide) rfl (fun ls hl => ?_)
                                have hl : lv_has ls 7 [(2, .int (nI (nx + 2))), (3, .int 1), (6, .int 2), (5, .int (u2.2.2 (qq - 1))), (4, .int (nI qq - 1)), (0, .ref h0), (1, .int (nI mt))] := hl
                                refine lv_iinc (k := 4) (v := nI (qq + 1) - 1) hx hb d_Mod_firstFrame_168 hl rfl (ff_up qq) (by decide) rfl (fun ls hl => ?_)
                                have hl : lv_has ls 7 [(4, .int (nI (qq + 1) - 1)), (2, .int (nI (nx + 2))), (3, .int 1), (6, .int 2), (5, .int (u2.2.2 (qq - 1))), (0, .ref h0), (1, .int (nI mt))] := hl
                                refine lv_goto (tgt := 55) hx hb d_Mod_firstFrame_171 (by decide) ?_
                                have hP : va_P g.1 classes [(h0, .inr (10, mob q rf n mm mb fa fp av ev wi mn tp tc sc nf fd me mp xn mt wh tq u2.1 u2.2.1 ig)), ((q 2), aI g 600 bs), ((q 16), aI g 620 on), ((q 17), aI g 620 tw), ((q 27), aI g 160 fl), ((q 28), aI g 160 pl), ((q 30), aI g 160 ty), ((q 33), aI g 160 lo), ((q 34), aI g 160 bg), ((q 41), aI g 600 dp), ((q 42), aZ g 600 iw), ((q 43), aI g 76800 kd), ((q 47), aI g 128 (upd nw8 nx 0)), ((q 50), aI g 600 u2.2.2)] H := hP.sub [0, 1, 2, 3, 4, 5, 6, 7, 8, 9, 10, 11, 12, 13] rfl
                                have hD : va_D A [(h0, .inr (10, mob q rf n mm mb fa fp av ev wi mn tp tc sc nf fd me mp xn mt wh tq u2.1 u2.2.1 ig)), ((q 2), aI g 600 bs), ((q 16), aI g 620 on), ((q 17), aI g 620 tw), ((q 27), aI g 160 fl), ((q 28), aI g 160 pl), ((q 30), aI g 160 ty), ((q 33), aI g 160 lo), ((q 34), aI g 160 bg), ((q 41), aI g 600 dp), ((q 42), aZ g 600 iw), ((q 43), aI g 76800 kd), ((q 47), aI g 128 (upd nw8 nx 0)), ((q 50), aI g 600 u2.2.2)] := hD.sub [0, 1, 2, 3, 4, 5, 6, 7, 8, 9, 10, 11, 12, 13] (by decide) rfl
                                exact ih55 _ (by omega) (nx + 2) 1 (qq + 1) (upd nw8 nx 0) ls _ _ rfl (by omega) (by omega) (hNW8.put (by decide)) (lv_sub hl [0, 2, 1, 5, 6] rfl) hP hD hS
                              · exact absurd h151 h85
                · refine lv_iconst (v := 4) hx hb d_Mod_firstFrame_69 (by decide) ?_
                  refine lv_goto (tgt := 80) hx hb d_Mod_firstFrame_70 (by decide) ?_
                  refine lv_istore hx hb d_Mod_firstFrame_80 hl (by decide) rfl (fun ls hl => ?_)
                  have hl : lv_has ls 7 [(5, .int 4), (4, .int (nI qq - 1)), (3, .int ft), (2, .int (nI nx)), (0, .ref h0), (1, .int (nI mt))] := hl
                  refine lv_iload hx hb d_Mod_firstFrame_82 (lv_at hl 0 rfl) ?_
                  refine lv_iconst (v := 2) hx hb d_Mod_firstFrame_84 (by decide) ?_
                  refine lv_icmp_eq (tgt := 95) hx hb d_Mod_firstFrame_85 (by decide) (fun h85 => ?_) (fun h85 => ?_)
                  · refine lv_iconst (v := 2) hx hb d_Mod_firstFrame_95 (by decide) ?_
                    refine lv_goto (tgt := 100) hx hb d_Mod_firstFrame_96 (by decide) ?_
                    refine lv_istore hx hb d_Mod_firstFrame_100 hl (by decide) rfl (fun ls hl => ?_)
                    have hl : lv_has ls 7 [(6, .int 2), (5, .int 4), (4, .int (nI qq - 1)), (3, .int ft), (2, .int (nI nx)), (0, .ref h0), (1, .int (nI mt))] := hl
                    refine lv_iload_n hx hb d_Mod_firstFrame_102 rfl (lv_at hl 3 rfl) ?_
                    refine lv_if_eq (tgt := 123) hx hb d_Mod_firstFrame_103 (by decide) (fun h103 => ?_) (fun h103 => ?_)
                    · refine lv_iconst (v := 0) hx hb d_Mod_firstFrame_123 (by decide) ?_
                      refine lv_istore_n hx hb d_Mod_firstFrame_124 rfl hl (by decide) rfl (fun ls hl => ?_)
                      have hl : lv_has ls 7 [(3, .int 0), (6, .int 2), (5, .int 4), (4, .int (nI qq - 1)), (2, .int (nI nx)), (0, .ref h0), (1, .int (nI mt))] := hl
                      refine lv_iload_n hx hb d_Mod_firstFrame_125 rfl (lv_at hl 0 rfl) ?_
                      refine lv_if_eq (tgt := 163) hx hb d_Mod_firstFrame_126 (by decide) (fun h126 => ?_) (fun h126 => ?_)
                      · refine lv_iload_n hx hb d_Mod_firstFrame_163 rfl (lv_at hl 4 rfl) ?_
                        refine lv_iload hx hb d_Mod_firstFrame_164 (lv_at hl 1 rfl) ?_
                        refine lv_iadd hx hb d_Mod_firstFrame_166 ?_
                        refine tw_ri (e2 := nI (nx + 2)) (nI_add nx 2) ?_
                        refine lv_istore_n hx hb d_Mod_firstFrame_167 rfl hl (by decide) rfl (fun ls hl => ?_)
                        have hl : lv_has ls 7 [(2, .int (nI (nx + 2))), (3, .int 0), (6, .int 2), (5, .int 4), (4, .int (nI qq - 1)), (0, .ref h0), (1, .int (nI mt))] := hl
                        refine lv_iinc (k := 4) (v := nI (qq + 1) - 1) hx hb d_Mod_firstFrame_168 hl rfl (ff_up qq) (by decide) rfl (fun ls hl => ?_)
                        have hl : lv_has ls 7 [(4, .int (nI (qq + 1) - 1)), (2, .int (nI (nx + 2))), (3, .int 0), (6, .int 2), (5, .int 4), (0, .ref h0), (1, .int (nI mt))] := hl
                        refine lv_goto (tgt := 55) hx hb d_Mod_firstFrame_171 (by decide) ?_
                        have hP : va_P g.1 classes [(h0, .inr (10, mob q rf n mm mb fa fp av ev wi mn tp tc sc nf fd me mp xn mt wh tq u2.1 u2.2.1 ig)), ((q 2), aI g 600 bs), ((q 16), aI g 620 on), ((q 17), aI g 620 tw), ((q 27), aI g 160 fl), ((q 28), aI g 160 pl), ((q 30), aI g 160 ty), ((q 33), aI g 160 lo), ((q 34), aI g 160 bg), ((q 41), aI g 600 dp), ((q 42), aZ g 600 iw), ((q 43), aI g 76800 kd), ((q 47), aI g 128 nw8), ((q 50), aI g 600 u2.2.2)] H := hP.sub [0, 1, 2, 3, 4, 5, 6, 7, 8, 9, 10, 11, 12, 13] rfl
                        have hD : va_D A [(h0, .inr (10, mob q rf n mm mb fa fp av ev wi mn tp tc sc nf fd me mp xn mt wh tq u2.1 u2.2.1 ig)), ((q 2), aI g 600 bs), ((q 16), aI g 620 on), ((q 17), aI g 620 tw), ((q 27), aI g 160 fl), ((q 28), aI g 160 pl), ((q 30), aI g 160 ty), ((q 33), aI g 160 lo), ((q 34), aI g 160 bg), ((q 41), aI g 600 dp), ((q 42), aZ g 600 iw), ((q 43), aI g 76800 kd), ((q 47), aI g 128 nw8), ((q 50), aI g 600 u2.2.2)] := hD.sub [0, 1, 2, 3, 4, 5, 6, 7, 8, 9, 10, 11, 12, 13] (by decide) rfl
                        exact ih55 _ (by omega) (nx + 2) 0 (qq + 1) nw8 ls _ _ rfl (by omega) (by omega) hNW8 (lv_sub hl [0, 2, 1, 5, 6] rfl) hP hD hS
                      · first | exact absurd h126 (by decide) | exact absurd (by decide) h126
                    · refine lv_iload_n hx hb d_Mod_firstFrame_106 rfl (lv_at hl 4 rfl) ?_
                      refine lv_iload hx hb d_Mod_firstFrame_107 (lv_at hl 0 rfl) ?_
                      refine lv_iadd hx hb d_Mod_firstFrame_109 ?_
                      refine tw_ri (e2 := nI (nx + 2)) (nI_add nx 2) ?_
                      refine lv_aload_n hx hb d_Mod_firstFrame_110 rfl (lv_at hl 5 rfl) ?_
                      refine va_get (D := g.1) (ci := 10) (v := .ref (q 33)) (C := R_Mod) (T := F_Mod) (N := 61) hx hb hts in_Mod hown hK hP 0 rfl rfl 33 (by decide) (hts _ wd_1283) (fun _ h9 => h9) rfl d_Mod_firstFrame_111 ?_
                      refine lv_iload_n hx hb d_Mod_firstFrame_114 rfl (lv_at hl 6 rfl) ?_
                      refine va_iald hx hb hK hP 7 0 rfl rfl (vp_in_nI (by omega) (by decide)) d_Mod_firstFrame_115 ?_
                      refine tw_ri (e2 := nI o1) (by rw [nI_clamp (by omega)]; exact hlo) ?_
                      refine lv_icmp_gt (tgt := 123) hx hb d_Mod_firstFrame_116 (by decide) (fun h116 => ?_) (fun h116 => ?_)
                      · refine lv_iconst (v := 0) hx hb d_Mod_firstFrame_123 (by decide) ?_
                        refine lv_istore_n hx hb d_Mod_firstFrame_124 rfl hl (by decide) rfl (fun ls hl => ?_)
                        have hl : lv_has ls 7 [(3, .int 0), (6, .int 2), (5, .int 4), (4, .int (nI qq - 1)), (2, .int (nI nx)), (0, .ref h0), (1, .int (nI mt))] := hl
                        refine lv_iload_n hx hb d_Mod_firstFrame_125 rfl (lv_at hl 0 rfl) ?_
                        refine lv_if_eq (tgt := 163) hx hb d_Mod_firstFrame_126 (by decide) (fun h126 => ?_) (fun h126 => ?_)
                        · refine lv_iload_n hx hb d_Mod_firstFrame_163 rfl (lv_at hl 4 rfl) ?_
                          refine lv_iload hx hb d_Mod_firstFrame_164 (lv_at hl 1 rfl) ?_
                          refine lv_iadd hx hb d_Mod_firstFrame_166 ?_
                          refine tw_ri (e2 := nI (nx + 2)) (nI_add nx 2) ?_
                          refine lv_istore_n hx hb d_Mod_firstFrame_167 rfl hl (by decide) rfl (fun ls hl => ?_)
                          have hl : lv_has ls 7 [(2, .int (nI (nx + 2))), (3, .int 0), (6, .int 2), (5, .int 4), (4, .int (nI qq - 1)), (0, .ref h0), (1, .int (nI mt))] := hl
                          refine lv_iinc (k := 4) (v := nI (qq + 1) - 1) hx hb d_Mod_firstFrame_168 hl rfl (ff_up qq) (by decide) rfl (fun ls hl => ?_)
                          have hl : lv_has ls 7 [(4, .int (nI (qq + 1) - 1)), (2, .int (nI (nx + 2))), (3, .int 0), (6, .int 2), (5, .int 4), (0, .ref h0), (1, .int (nI mt))] := hl
                          refine lv_goto (tgt := 55) hx hb d_Mod_firstFrame_171 (by decide) ?_
                          have hP : va_P g.1 classes [(h0, .inr (10, mob q rf n mm mb fa fp av ev wi mn tp tc sc nf fd me mp xn mt wh tq u2.1 u2.2.1 ig)), ((q 2), aI g 600 bs), ((q 16), aI g 620 on), ((q 17), aI g 620 tw), ((q 27), aI g 160 fl), ((q 28), aI g 160 pl), ((q 30), aI g 160 ty), ((q 33), aI g 160 lo), ((q 34), aI g 160 bg), ((q 41), aI g 600 dp), ((q 42), aZ g 600 iw), ((q 43), aI g 76800 kd), ((q 47), aI g 128 nw8), ((q 50), aI g 600 u2.2.2)] H := hP.sub [0, 1, 2, 3, 4, 5, 6, 7, 8, 9, 10, 11, 12, 13] rfl
                          have hD : va_D A [(h0, .inr (10, mob q rf n mm mb fa fp av ev wi mn tp tc sc nf fd me mp xn mt wh tq u2.1 u2.2.1 ig)), ((q 2), aI g 600 bs), ((q 16), aI g 620 on), ((q 17), aI g 620 tw), ((q 27), aI g 160 fl), ((q 28), aI g 160 pl), ((q 30), aI g 160 ty), ((q 33), aI g 160 lo), ((q 34), aI g 160 bg), ((q 41), aI g 600 dp), ((q 42), aZ g 600 iw), ((q 43), aI g 76800 kd), ((q 47), aI g 128 nw8), ((q 50), aI g 600 u2.2.2)] := hD.sub [0, 1, 2, 3, 4, 5, 6, 7, 8, 9, 10, 11, 12, 13] (by decide) rfl
                          exact ih55 _ (by omega) (nx + 2) 0 (qq + 1) nw8 ls _ _ rfl (by omega) (by omega) hNW8 (lv_sub hl [0, 2, 1, 5, 6] rfl) hP hD hS
                        · first | exact absurd h126 (by decide) | exact absurd (by decide) h126
                      · have h116 := tn_nlt h116 (by omega) (by omega)
                        refine lv_iconst (v := 1) hx hb d_Mod_firstFrame_119 (by decide) ?_
                        refine lv_goto (tgt := 124) hx hb d_Mod_firstFrame_120 (by decide) ?_
                        refine lv_istore_n hx hb d_Mod_firstFrame_124 rfl hl (by decide) rfl (fun ls hl => ?_)
                        have hl : lv_has ls 7 [(3, .int 1), (6, .int 2), (5, .int 4), (4, .int (nI qq - 1)), (2, .int (nI nx)), (0, .ref h0), (1, .int (nI mt))] := hl
                        refine lv_iload_n hx hb d_Mod_firstFrame_125 rfl (lv_at hl 0 rfl) ?_
                        refine lv_if_eq (tgt := 163) hx hb d_Mod_firstFrame_126 (by decide) (fun h126 => ?_) (fun h126 => ?_)
                        · first | exact absurd h126 (by decide) | exact absurd (by decide) h126
                        · refine lv_aload_n hx hb d_Mod_firstFrame_129 rfl (lv_at hl 5 rfl) ?_
                          refine va_get (D := g.1) (ci := 10) (v := .ref (q 47)) (C := R_Mod) (T := F_Mod) (N := 61) hx hb hts in_Mod hown hK hP 0 rfl rfl 47 (by decide) (hts _ wd_1297) (fun _ h9 => h9) rfl d_Mod_firstFrame_130 ?_
                          refine lv_iload_n hx hb d_Mod_firstFrame_133 rfl (lv_at hl 4 rfl) ?_
                          refine lv_iload hx hb d_Mod_firstFrame_134 (lv_at hl 2 rfl) ?_
                          refine lv_bipush (v := 9) hx hb d_Mod_firstFrame_136 (by decide) ?_
                          refine lv_icmp_lt (tgt := 145) hx hb d_Mod_firstFrame_138 (by decide) (fun h138 => ?_) (fun h138 => ?_)
                          · refine lv_iload hx hb d_Mod_firstFrame_145 (lv_at hl 2 rfl) ?_
                            refine va_iast hx hb hK hP hD hS 12 0 rfl rfl (vp_in_nI (by omega) (by decide)) d_Mod_firstFrame_147 (fun H locs hP hD hS => ?_)
                            have hP : va_P g.1 classes [(h0, .inr (10, mob q rf n mm mb fa fp av ev wi mn tp tc sc nf fd me mp xn mt wh tq u2.1 u2.2.1 ig)), ((q 2), aI g 600 bs), ((q 16), aI g 620 on), ((q 17), aI g 620 tw), ((q 27), aI g 160 fl), ((q 28), aI g 160 pl), ((q 30), aI g 160 ty), ((q 33), aI g 160 lo), ((q 34), aI g 160 bg), ((q 41), aI g 600 dp), ((q 42), aZ g 600 iw), ((q 43), aI g 76800 kd), ((q 47), aI g 128 (upd nw8 (nI nx).toNatClampNeg 4)), ((q 50), aI g 600 u2.2.2)] H := hP
                            have hD : va_D A [(h0, .inr (10, mob q rf n mm mb fa fp av ev wi mn tp tc sc nf fd me mp xn mt wh tq u2.1 u2.2.1 ig)), ((q 2), aI g 600 bs), ((q 16), aI g 620 on), ((q 17), aI g 620 tw), ((q 27), aI g 160 fl), ((q 28), aI g 160 pl), ((q 30), aI g 160 ty), ((q 33), aI g 160 lo), ((q 34), aI g 160 bg), ((q 41), aI g 600 dp), ((q 42), aZ g 600 iw), ((q 43), aI g 76800 kd), ((q 47), aI g 128 (upd nw8 (nI nx).toNatClampNeg 4)), ((q 50), aI g 600 u2.2.2)] := hD
                            have e9 : upd nw8 (nI nx).toNatClampNeg 4 = upd nw8 nx 4 := by rw [nI_clamp (by omega)]
                            rw [e9] at hP hD
                            refine lv_iload hx hb d_Mod_firstFrame_148 (lv_at hl 2 rfl) ?_
                            refine lv_iconst (v := 2) hx hb d_Mod_firstFrame_150 (by decide) ?_
                            refine lv_icmp_ne (tgt := 163) hx hb d_Mod_firstFrame_151 (by decide) (fun h151 => ?_) (fun h151 => ?_)
                            · exact absurd h85 h151
                            · refine lv_aload_n hx hb d_Mod_firstFrame_154 rfl (lv_at hl 5 rfl) ?_
                              refine va_get (D := g.1) (ci := 10) (v := .ref (q 47)) (C := R_Mod) (T := F_Mod) (N := 61) hx hb hts in_Mod hown hK hP 0 rfl rfl 47 (by decide) (hts _ wd_1297) (fun _ h9 => h9) rfl d_Mod_firstFrame_155 ?_
                              refine lv_iload_n hx hb d_Mod_firstFrame_158 rfl (lv_at hl 4 rfl) ?_
                              refine lv_iconst (v := 1) hx hb d_Mod_firstFrame_159 (by decide) ?_
                              refine lv_iadd hx hb d_Mod_firstFrame_160 ?_
                              refine tw_ri (e2 := nI (nx + 1)) (nI_add nx 1) ?_
                              refine lv_iconst (v := 3) hx hb d_Mod_firstFrame_161 (by decide) ?_
                              refine va_iast hx hb hK hP hD hS 12 0 rfl rfl (vp_in_nI (by omega) (by decide)) d_Mod_firstFrame_162 (fun H locs hP hD hS => ?_)
                              have hP : va_P g.1 classes [(h0, .inr (10, mob q rf n mm mb fa fp av ev wi mn tp tc sc nf fd me mp xn mt wh tq u2.1 u2.2.1 ig)), ((q 2), aI g 600 bs), ((q 16), aI g 620 on), ((q 17), aI g 620 tw), ((q 27), aI g 160 fl), ((q 28), aI g 160 pl), ((q 30), aI g 160 ty), ((q 33), aI g 160 lo), ((q 34), aI g 160 bg), ((q 41), aI g 600 dp), ((q 42), aZ g 600 iw), ((q 43), aI g 76800 kd), ((q 47), aI g 128 (upd (upd nw8 nx 4) (nI (nx + 1)).toNatClampNeg 3)), ((q 50), aI g 600 u2.2.2)] H := hP
                              have hD : va_D A [(h0, .inr (10, mob q rf n mm mb fa fp av ev wi mn tp tc sc nf fd me mp xn mt wh tq u2.1 u2.2.1 ig)), ((q 2), aI g 600 bs), ((q 16), aI g 620 on), ((q 17), aI g 620 tw), ((q 27), aI g 160 fl), ((q 28), aI g 160 pl), ((q 30), aI g 160 ty), ((q 33), aI g 160 lo), ((q 34), aI g 160 bg), ((q 41), aI g 600 dp), ((q 42), aZ g 600 iw), ((q 43), aI g 76800 kd), ((q 47), aI g 128 (upd (upd nw8 nx 4) (nI (nx + 1)).toNatClampNeg 3)), ((q 50), aI g 600 u2.2.2)] := hD
                              have e9 : upd (upd nw8 nx 4) (nI (nx + 1)).toNatClampNeg 3 = upd (upd nw8 nx 4) (nx + 1) 3 := by rw [nI_clamp (by omega)]
                              rw [e9] at hP hD
                              refine lv_iload_n hx hb d_Mod_firstFrame_163 rfl (lv_at hl 4 rfl) ?_
                              refine lv_iload hx hb d_Mod_firstFrame_164 (lv_at hl 1 rfl) ?_
                              refine lv_iadd hx hb d_Mod_firstFrame_166 ?_
                              refine tw_ri (e2 := nI (nx + 2)) (nI_add nx 2) ?_
                              refine lv_istore_n hx hb d_Mod_firstFrame_167 rfl hl (by decide) rfl (fun ls hl => ?_)
                              have hl : lv_has ls 7 [(2, .int (nI (nx + 2))), (3, .int 1), (6, .int 2), (5, .int 4), (4, .int (nI qq - 1)), (0, .ref h0), (1, .int (nI mt))] := hl
                              refine lv_iinc (k := 4) (v := nI (qq + 1) - 1) hx hb d_Mod_firstFrame_168 hl rfl (ff_up qq) (by decide) rfl (fun ls hl => ?_)
                              have hl : lv_has ls 7 [(4, .int (nI (qq + 1) - 1)), (2, .int (nI (nx + 2))), (3, .int 1), (6, .int 2), (5, .int 4), (0, .ref h0), (1, .int (nI mt))] := hl
                              refine lv_goto (tgt := 55) hx hb d_Mod_firstFrame_171 (by decide) ?_
                              have hP : va_P g.1 classes [(h0, .inr (10, mob q rf n mm mb fa fp av ev wi mn tp tc sc nf fd me mp xn mt wh tq u2.1 u2.2.1 ig)), ((q 2), aI g 600 bs), ((q 16), aI g 620 on), ((q 17), aI g 620 tw), ((q 27), aI g 160 fl), ((q 28), aI g 160 pl), ((q 30), aI g 160 ty), ((q 33), aI g 160 lo), ((q 34), aI g 160 bg), ((q 41), aI g 600 dp), ((q 42), aZ g 600 iw), ((q 43), aI g 76800 kd), ((q 47), aI g 128 (upd (upd nw8 nx 4) (nx + 1) 3)), ((q 50), aI g 600 u2.2.2)] H := hP.sub [0, 1, 2, 3, 4, 5, 6, 7, 8, 9, 10, 11, 12, 13] rfl
                              have hD : va_D A [(h0, .inr (10, mob q rf n mm mb fa fp av ev wi mn tp tc sc nf fd me mp xn mt wh tq u2.1 u2.2.1 ig)), ((q 2), aI g 600 bs), ((q 16), aI g 620 on), ((q 17), aI g 620 tw), ((q 27), aI g 160 fl), ((q 28), aI g 160 pl), ((q 30), aI g 160 ty), ((q 33), aI g 160 lo), ((q 34), aI g 160 bg), ((q 41), aI g 600 dp), ((q 42), aZ g 600 iw), ((q 43), aI g 76800 kd), ((q 47), aI g 128 (upd (upd nw8 nx 4) (nx + 1) 3)), ((q 50), aI g 600 u2.2.2)] := hD.sub [0, 1, 2, 3, 4, 5, 6, 7, 8, 9, 10, 11, 12, 13] (by decide) rfl
                              exact ih55 _ (by omega) (nx + 2) 1 (qq + 1) (upd (upd nw8 nx 4) (nx + 1) 3) ls _ _ rfl (by omega) (by omega) ((hNW8.put (by decide)).put2 (by omega) (by omega)) (lv_sub hl [0, 2, 1, 5, 6] rfl) hP hD hS
                          · refine lv_iconst (v := 0) hx hb d_Mod_firstFrame_141 (by decide) ?_
                            refine lv_goto (tgt := 147) hx hb d_Mod_firstFrame_142 (by decide) ?_
                            refine va_iast hx hb hK hP hD hS 12 0 rfl rfl (vp_in_nI (by omega) (by decide)) d_Mod_firstFrame_147 (fun H locs hP hD hS => ?_)
                            have hP : va_P g.1 classes [(h0, .inr (10, mob q rf n mm mb fa fp av ev wi mn tp tc sc nf fd me mp xn mt wh tq u2.1 u2.2.1 ig)), ((q 2), aI g 600 bs), ((q 16), aI g 620 on), ((q 17), aI g 620 tw), ((q 27), aI g 160 fl), ((q 28), aI g 160 pl), ((q 30), aI g 160 ty), ((q 33), aI g 160 lo), ((q 34), aI g 160 bg), ((q 41), aI g 600 dp), ((q 42), aZ g 600 iw), ((q 43), aI g 76800 kd), ((q 47), aI g 128 (upd nw8 (nI nx).toNatClampNeg 0)), ((q 50), aI g 600 u2.2.2)] H := hP
                            have hD : va_D A [(h0, .inr (10, mob q rf n mm mb fa fp av ev wi mn tp tc sc nf fd me mp xn mt wh tq u2.1 u2.2.1 ig)), ((q 2), aI g 600 bs), ((q 16), aI g 620 on), ((q 17), aI g 620 tw), ((q 27), aI g 160 fl), ((q 28), aI g 160 pl), ((q 30), aI g 160 ty), ((q 33), aI g 160 lo), ((q 34), aI g 160 bg), ((q 41), aI g 600 dp), ((q 42), aZ g 600 iw), ((q 43), aI g 76800 kd), ((q 47), aI g 128 (upd nw8 (nI nx).toNatClampNeg 0)), ((q 50), aI g 600 u2.2.2)] := hD
                            have e9 : upd nw8 (nI nx).toNatClampNeg 0 = upd nw8 nx 0 := by rw [nI_clamp (by omega)]
                            rw [e9] at hP hD
                            refine lv_iload hx hb d_Mod_firstFrame_148 (lv_at hl 2 rfl) ?_
                            refine lv_iconst (v := 2) hx hb d_Mod_firstFrame_150 (by decide) ?_
                            refine lv_icmp_ne (tgt := 163) hx hb d_Mod_firstFrame_151 (by decide) (fun h151 => ?_) (fun h151 => ?_)
                            · exact absurd h85 h151
                            · refine lv_aload_n hx hb d_Mod_firstFrame_154 rfl (lv_at hl 5 rfl) ?_
                              refine va_get (D := g.1) (ci := 10) (v := .ref (q 47)) (C := R_Mod) (T := F_Mod) (N := 61) hx hb hts in_Mod hown hK hP 0 rfl rfl 47 (by decide) (hts _ wd_1297) (fun _ h9 => h9) rfl d_Mod_firstFrame_155 ?_
                              refine lv_iload_n hx hb d_Mod_firstFrame_158 rfl (lv_at hl 4 rfl) ?_
                              refine lv_iconst (v := 1) hx hb d_Mod_firstFrame_159 (by decide) ?_
                              refine lv_iadd hx hb d_Mod_firstFrame_160 ?_
                              refine tw_ri (e2 := nI (nx + 1)) (nI_add nx 1) ?_
                              refine lv_iconst (v := 3) hx hb d_Mod_firstFrame_161 (by decide) ?_
                              refine va_iast hx hb hK hP hD hS 12 0 rfl rfl (vp_in_nI (by omega) (by decide)) d_Mod_firstFrame_162 (fun H locs hP hD hS => ?_)
                              have hP : va_P g.1 classes [(h0, .inr (10, mob q rf n mm mb fa fp av ev wi mn tp tc sc nf fd me mp xn mt wh tq u2.1 u2.2.1 ig)), ((q 2), aI g 600 bs), ((q 16), aI g 620 on), ((q 17), aI g 620 tw), ((q 27), aI g 160 fl), ((q 28), aI g 160 pl), ((q 30), aI g 160 ty), ((q 33), aI g 160 lo), ((q 34), aI g 160 bg), ((q 41), aI g 600 dp), ((q 42), aZ g 600 iw), ((q 43), aI g 76800 kd), ((q 47), aI g 128 (upd (upd nw8 nx 0) (nI (nx + 1)).toNatClampNeg 3)), ((q 50), aI g 600 u2.2.2)] H := hP
                              have hD : va_D A [(h0, .inr (10, mob q rf n mm mb fa fp av ev wi mn tp tc sc nf fd me mp xn mt wh tq u2.1 u2.2.1 ig)), ((q 2), aI g 600 bs), ((q 16), aI g 620 on), ((q 17), aI g 620 tw), ((q 27), aI g 160 fl), ((q 28), aI g 160 pl), ((q 30), aI g 160 ty), ((q 33), aI g 160 lo), ((q 34), aI g 160 bg), ((q 41), aI g 600 dp), ((q 42), aZ g 600 iw), ((q 43), aI g 76800 kd), ((q 47), aI g 128 (upd (upd nw8 nx 0) (nI (nx + 1)).toNatClampNeg 3)), ((q 50), aI g 600 u2.2.2)] := hD
                              have e9 : upd (upd nw8 nx 0) (nI (nx + 1)).toNatClampNeg 3 = upd (upd nw8 nx 0) (nx + 1) 3 := by rw [nI_clamp (by omega)]
                              rw [e9] at hP hD
                              refine lv_iload_n hx hb d_Mod_firstFrame_163 rfl (lv_at hl 4 rfl) ?_
                              refine lv_iload hx hb d_Mod_firstFrame_164 (lv_at hl 1 rfl) ?_
                              refine lv_iadd hx hb d_Mod_firstFrame_166 ?_
                              refine tw_ri (e2 := nI (nx + 2)) (nI_add nx 2) ?_
                              refine lv_istore_n hx hb d_Mod_firstFrame_167 rfl hl (by decide) rfl (fun ls hl => ?_)
                              have hl : lv_has ls 7 [(2, .int (nI (nx + 2))), (3, .int 1), (6, .int 2), (5, .int 4), (4, .int (nI qq - 1)), (0, .ref h0), (1, .int (nI mt))] := hl
                              refine lv_iinc (k := 4) (v := nI (qq + 1) - 1) hx hb d_Mod_firstFrame_168 hl rfl (ff_up qq) (by decide) rfl (fun ls hl => ?_)
                              have hl : lv_has ls 7 [(4, .int (nI (qq + 1) - 1)), (2, .int (nI (nx + 2))), (3, .int 1), (6, .int 2), (5, .int 4), (0, .ref h0), (1, .int (nI mt))] := hl
                              refine lv_goto (tgt := 55) hx hb d_Mod_firstFrame_171 (by decide) ?_
                              have hP : va_P g.1 classes [(h0, .inr (10, mob q rf n mm mb fa fp av ev wi mn tp tc sc nf fd me mp xn mt wh tq u2.1 u2.2.1 ig)), ((q 2), aI g 600 bs), ((q 16), aI g 620 on), ((q 17), aI g 620 tw), ((q 27), aI g 160 fl), ((q 28), aI g 160 pl), ((q 30), aI g 160 ty), ((q 33), aI g 160 lo), ((q 34), aI g 160 bg), ((q 41), aI g 600 dp), ((q 42), aZ g 600 iw), ((q 43), aI g 76800 kd), ((q 47), aI g 128 (upd (upd nw8 nx 0) (nx + 1) 3)), ((q 50), aI g 600 u2.2.2)] H := hP.sub [0, 1, 2, 3, 4, 5, 6, 7, 8, 9, 10, 11, 12, 13] rfl
                              have hD : va_D A [(h0, .inr (10, mob q rf n mm mb fa fp av ev wi mn tp tc sc nf fd me mp xn mt wh tq u2.1 u2.2.1 ig)), ((q 2), aI g 600 bs), ((q 16), aI g 620 on), ((q 17), aI g 620 tw), ((q 27), aI g 160 fl), ((q 28), aI g 160 pl), ((q 30), aI g 160 ty), ((q 33), aI g 160 lo), ((q 34), aI g 160 bg), ((q 41), aI g 600 dp), ((q 42), aZ g 600 iw), ((q 43), aI g 76800 kd), ((q 47), aI g 128 (upd (upd nw8 nx 0) (nx + 1) 3)), ((q 50), aI g 600 u2.2.2)] := hD.sub [0, 1, 2, 3, 4, 5, 6, 7, 8, 9, 10, 11, 12, 13] (by decide) rfl
                              exact ih55 _ (by omega) (nx + 2) 1 (qq + 1) (upd (upd nw8 nx 0) (nx + 1) 3) ls _ _ rfl (by omega) (by omega) ((hNW8.put (by decide)).put2 (by omega) (by omega)) (lv_sub hl [0, 2, 1, 5, 6] rfl) hP hD hS
                  · refine lv_iload hx hb d_Mod_firstFrame_88 (lv_at hl 0 rfl) ?_
                    refine lv_bipush (v := 9) hx hb d_Mod_firstFrame_90 (by decide) ?_
                    refine lv_icmp_le (tgt := 99) hx hb d_Mod_firstFrame_92 (by decide) (fun h92 => ?_) (fun h92 => ?_)
                    · refine lv_iconst (v := 1) hx hb d_Mod_firstFrame_99 (by decide) ?_
                      refine lv_istore hx hb d_Mod_firstFrame_100 hl (by decide) rfl (fun ls hl => ?_)
                      have hl : lv_has ls 7 [(6, .int 1), (5, .int 4), (4, .int (nI qq - 1)), (3, .int ft), (2, .int (nI nx)), (0, .ref h0), (1, .int (nI mt))] := hl
                      refine lv_iload_n hx hb d_Mod_firstFrame_102 rfl (lv_at hl 3 rfl) ?_
                      refine lv_if_eq (tgt := 123) hx hb d_Mod_firstFrame_103 (by decide) (fun h103 => ?_) (fun h103 => ?_)
                      · refine lv_iconst (v := 0) hx hb d_Mod_firstFrame_123 (by decide) ?_
                        refine lv_istore_n hx hb d_Mod_firstFrame_124 rfl hl (by decide) rfl (fun ls hl => ?_)
                        have hl : lv_has ls 7 [(3, .int 0), (6, .int 1), (5, .int 4), (4, .int (nI qq - 1)), (2, .int (nI nx)), (0, .ref h0), (1, .int (nI mt))] := hl
                        refine lv_iload_n hx hb d_Mod_firstFrame_125 rfl (lv_at hl 0 rfl) ?_
                        refine lv_if_eq (tgt := 163) hx hb d_Mod_firstFrame_126 (by decide) (fun h126 => ?_) (fun h126 => ?_)
                        · refine lv_iload_n hx hb d_Mod_firstFrame_163 rfl (lv_at hl 4 rfl) ?_
                          refine lv_iload hx hb d_Mod_firstFrame_164 (lv_at hl 1 rfl) ?_
                          refine lv_iadd hx hb d_Mod_firstFrame_166 ?_
                          refine tw_ri (e2 := nI (nx + 1)) (nI_add nx 1) ?_
                          refine lv_istore_n hx hb d_Mod_firstFrame_167 rfl hl (by decide) rfl (fun ls hl => ?_)
                          have hl : lv_has ls 7 [(2, .int (nI (nx + 1))), (3, .int 0), (6, .int 1), (5, .int 4), (4, .int (nI qq - 1)), (0, .ref h0), (1, .int (nI mt))] := hl
                          refine lv_iinc (k := 4) (v := nI (qq + 1) - 1) hx hb d_Mod_firstFrame_168 hl rfl (ff_up qq) (by decide) rfl (fun ls hl => ?_)
                          have hl : lv_has ls 7 [(4, .int (nI (qq + 1) - 1)), (2, .int (nI (nx + 1))), (3, .int 0), (6, .int 1), (5, .int 4), (0, .ref h0), (1, .int (nI mt))] := hl
                          refine lv_goto (tgt := 55) hx hb d_Mod_firstFrame_171 (by decide) ?_
                          have hP : va_P g.1 classes [(h0, .inr (10, mob q rf n mm mb fa fp av ev wi mn tp tc sc nf fd me mp xn mt wh tq u2.1 u2.2.1 ig)), ((q 2), aI g 600 bs), ((q 16), aI g 620 on), ((q 17), aI g 620 tw), ((q 27), aI g 160 fl), ((q 28), aI g 160 pl), ((q 30), aI g 160 ty), ((q 33), aI g 160 lo), ((q 34), aI g 160 bg), ((q 41), aI g 600 dp), ((q 42), aZ g 600 iw), ((q 43), aI g 76800 kd), ((q 47), aI g 128 nw8), ((q 50), aI g 600 u2.2.2)] H := hP.sub [0, 1, 2, 3, 4, 5, 6, 7, 8, 9, 10, 11, 12, 13] rfl
                          have hD : va_D A [(h0, .inr (10, mob q rf n mm mb fa fp av ev wi mn tp tc sc nf fd me mp xn mt wh tq u2.1 u2.2.1 ig)), ((q 2), aI g 600 bs), ((q 16), aI g 620 on), ((q 17), aI g 620 tw), ((q 27), aI g 160 fl), ((q 28), aI g 160 pl), ((q 30), aI g 160 ty), ((q 33), aI g 160 lo), ((q 34), aI g 160 bg), ((q 41), aI g 600 dp), ((q 42), aZ g 600 iw), ((q 43), aI g 76800 kd), ((q 47), aI g 128 nw8), ((q 50), aI g 600 u2.2.2)] := hD.sub [0, 1, 2, 3, 4, 5, 6, 7, 8, 9, 10, 11, 12, 13] (by decide) rfl
                          exact ih55 _ (by omega) (nx + 1) 0 (qq + 1) nw8 ls _ _ rfl (by omega) (by omega) hNW8 (lv_sub hl [0, 2, 1, 5, 6] rfl) hP hD hS
                        · first | exact absurd h126 (by decide) | exact absurd (by decide) h126
                      · refine lv_iload_n hx hb d_Mod_firstFrame_106 rfl (lv_at hl 4 rfl) ?_
                        refine lv_iload hx hb d_Mod_firstFrame_107 (lv_at hl 0 rfl) ?_
                        refine lv_iadd hx hb d_Mod_firstFrame_109 ?_
                        refine tw_ri (e2 := nI (nx + 1)) (nI_add nx 1) ?_
                        refine lv_aload_n hx hb d_Mod_firstFrame_110 rfl (lv_at hl 5 rfl) ?_
                        refine va_get (D := g.1) (ci := 10) (v := .ref (q 33)) (C := R_Mod) (T := F_Mod) (N := 61) hx hb hts in_Mod hown hK hP 0 rfl rfl 33 (by decide) (hts _ wd_1283) (fun _ h9 => h9) rfl d_Mod_firstFrame_111 ?_
                        refine lv_iload_n hx hb d_Mod_firstFrame_114 rfl (lv_at hl 6 rfl) ?_
                        refine va_iald hx hb hK hP 7 0 rfl rfl (vp_in_nI (by omega) (by decide)) d_Mod_firstFrame_115 ?_
                        refine tw_ri (e2 := nI o1) (by rw [nI_clamp (by omega)]; exact hlo) ?_
                        refine lv_icmp_gt (tgt := 123) hx hb d_Mod_firstFrame_116 (by decide) (fun h116 => ?_) (fun h116 => ?_)
                        · refine lv_iconst (v := 0) hx hb d_Mod_firstFrame_123 (by decide) ?_
                          refine lv_istore_n hx hb d_Mod_firstFrame_124 rfl hl (by decide) rfl (fun ls hl => ?_)
                          have hl : lv_has ls 7 [(3, .int 0), (6, .int 1), (5, .int 4), (4, .int (nI qq - 1)), (2, .int (nI nx)), (0, .ref h0), (1, .int (nI mt))] := hl
                          refine lv_iload_n hx hb d_Mod_firstFrame_125 rfl (lv_at hl 0 rfl) ?_
                          refine lv_if_eq (tgt := 163) hx hb d_Mod_firstFrame_126 (by decide) (fun h126 => ?_) (fun h126 => ?_)
                          · refine lv_iload_n hx hb d_Mod_firstFrame_163 rfl (lv_at hl 4 rfl) ?_
                            refine lv_iload hx hb d_Mod_firstFrame_164 (lv_at hl 1 rfl) ?_
                            refine lv_iadd hx hb d_Mod_firstFrame_166 ?_
                            refine tw_ri (e2 := nI (nx + 1)) (nI_add nx 1) ?_
                            refine lv_istore_n hx hb d_Mod_firstFrame_167 rfl hl (by decide) rfl (fun ls hl => ?_)
                            have hl : lv_has ls 7 [(2, .int (nI (nx + 1))), (3, .int 0), (6, .int 1), (5, .int 4), (4, .int (nI qq - 1)), (0, .ref h0), (1, .int (nI mt))] := hl
                            refine lv_iinc (k := 4) (v := nI (qq + 1) - 1) hx hb d_Mod_firstFrame_168 hl rfl (ff_up qq) (by decide) rfl (fun ls hl => ?_)
                            have hl : lv_has ls 7 [(4, .int (nI (qq + 1) - 1)), (2, .int (nI (nx + 1))), (3, .int 0), (6, .int 1), (5, .int 4), (0, .ref h0), (1, .int (nI mt))] := hl
                            refine lv_goto (tgt := 55) hx hb d_Mod_firstFrame_171 (by decide) ?_
                            have hP : va_P g.1 classes [(h0, .inr (10, mob q rf n mm mb fa fp av ev wi mn tp tc sc nf fd me mp xn mt wh tq u2.1 u2.2.1 ig)), ((q 2), aI g 600 bs), ((q 16), aI g 620 on), ((q 17), aI g 620 tw), ((q 27), aI g 160 fl), ((q 28), aI g 160 pl), ((q 30), aI g 160 ty), ((q 33), aI g 160 lo), ((q 34), aI g 160 bg), ((q 41), aI g 600 dp), ((q 42), aZ g 600 iw), ((q 43), aI g 76800 kd), ((q 47), aI g 128 nw8), ((q 50), aI g 600 u2.2.2)] H := hP.sub [0, 1, 2, 3, 4, 5, 6, 7, 8, 9, 10, 11, 12, 13] rfl
                            have hD : va_D A [(h0, .inr (10, mob q rf n mm mb fa fp av ev wi mn tp tc sc nf fd me mp xn mt wh tq u2.1 u2.2.1 ig)), ((q 2), aI g 600 bs), ((q 16), aI g 620 on), ((q 17), aI g 620 tw), ((q 27), aI g 160 fl), ((q 28), aI g 160 pl), ((q 30), aI g 160 ty), ((q 33), aI g 160 lo), ((q 34), aI g 160 bg), ((q 41), aI g 600 dp), ((q 42), aZ g 600 iw), ((q 43), aI g 76800 kd), ((q 47), aI g 128 nw8), ((q 50), aI g 600 u2.2.2)] := hD.sub [0, 1, 2, 3, 4, 5, 6, 7, 8, 9, 10, 11, 12, 13] (by decide) rfl
                            exact ih55 _ (by omega) (nx + 1) 0 (qq + 1) nw8 ls _ _ rfl (by omega) (by omega) hNW8 (lv_sub hl [0, 2, 1, 5, 6] rfl) hP hD hS
                          · first | exact absurd h126 (by decide) | exact absurd (by decide) h126
                        · have h116 := tn_nlt h116 (by omega) (by omega)
                          refine lv_iconst (v := 1) hx hb d_Mod_firstFrame_119 (by decide) ?_
                          refine lv_goto (tgt := 124) hx hb d_Mod_firstFrame_120 (by decide) ?_
                          refine lv_istore_n hx hb d_Mod_firstFrame_124 rfl hl (by decide) rfl (fun ls hl => ?_)
                          have hl : lv_has ls 7 [(3, .int 1), (6, .int 1), (5, .int 4), (4, .int (nI qq - 1)), (2, .int (nI nx)), (0, .ref h0), (1, .int (nI mt))] := hl
                          refine lv_iload_n hx hb d_Mod_firstFrame_125 rfl (lv_at hl 0 rfl) ?_
                          refine lv_if_eq (tgt := 163) hx hb d_Mod_firstFrame_126 (by decide) (fun h126 => ?_) (fun h126 => ?_)
                          · first | exact absurd h126 (by decide) | exact absurd (by decide) h126
                          · refine lv_aload_n hx hb d_Mod_firstFrame_129 rfl (lv_at hl 5 rfl) ?_
                            refine va_get (D := g.1) (ci := 10) (v := .ref (q 47)) (C := R_Mod) (T := F_Mod) (N := 61) hx hb hts in_Mod hown hK hP 0 rfl rfl 47 (by decide) (hts _ wd_1297) (fun _ h9 => h9) rfl d_Mod_firstFrame_130 ?_
                            refine lv_iload_n hx hb d_Mod_firstFrame_133 rfl (lv_at hl 4 rfl) ?_
                            refine lv_iload hx hb d_Mod_firstFrame_134 (lv_at hl 2 rfl) ?_
                            refine lv_bipush (v := 9) hx hb d_Mod_firstFrame_136 (by decide) ?_
                            refine lv_icmp_lt (tgt := 145) hx hb d_Mod_firstFrame_138 (by decide) (fun h138 => ?_) (fun h138 => ?_)
                            · refine lv_iload hx hb d_Mod_firstFrame_145 (lv_at hl 2 rfl) ?_
                              refine va_iast hx hb hK hP hD hS 12 0 rfl rfl (vp_in_nI (by omega) (by decide)) d_Mod_firstFrame_147 (fun H locs hP hD hS => ?_)
                              have hP : va_P g.1 classes [(h0, .inr (10, mob q rf n mm mb fa fp av ev wi mn tp tc sc nf fd me mp xn mt wh tq u2.1 u2.2.1 ig)), ((q 2), aI g 600 bs), ((q 16), aI g 620 on), ((q 17), aI g 620 tw), ((q 27), aI g 160 fl), ((q 28), aI g 160 pl), ((q 30), aI g 160 ty), ((q 33), aI g 160 lo), ((q 34), aI g 160 bg), ((q 41), aI g 600 dp), ((q 42), aZ g 600 iw), ((q 43), aI g 76800 kd), ((q 47), aI g 128 (upd nw8 (nI nx).toNatClampNeg 4)), ((q 50), aI g 600 u2.2.2)] H := hP
                              have hD : va_D A [(h0, .inr (10, mob q rf n mm mb fa fp av ev wi mn tp tc sc nf fd me mp xn mt wh tq u2.1 u2.2.1 ig)), ((q 2), aI g 600 bs), ((q 16), aI g 620 on), ((q 17), aI g 620 tw), ((q 27), aI g 160 fl), ((q 28), aI g 160 pl), ((q 30), aI g 160 ty), ((q 33), aI g 160 lo), ((q 34), aI g 160 bg), ((q 41), aI g 600 dp), ((q 42), aZ g 600 iw), ((q 43), aI g 76800 kd), ((q 47), aI g 128 (upd nw8 (nI nx).toNatClampNeg 4)), ((q 50), aI g 600 u2.2.2)] := hD
                              have e9 : upd nw8 (nI nx).toNatClampNeg 4 = upd nw8 nx 4 := by rw [nI_clamp (by omega)]
                              rw [e9] at hP hD
                              refine lv_iload hx hb d_Mod_firstFrame_148 (lv_at hl 2 rfl) ?_
                              refine lv_iconst (v := 2) hx hb d_Mod_firstFrame_150 (by decide) ?_
                              refine lv_icmp_ne (tgt := 163) hx hb d_Mod_firstFrame_151 (by decide) (fun h151 => ?_) (fun h151 => ?_)
                              · refine lv_iload_n hx hb d_Mod_firstFrame_163 rfl (lv_at hl 4 rfl) ?_
                                refine lv_iload hx hb d_Mod_firstFrame_164 (lv_at hl 1 rfl) ?_
                                refine lv_iadd hx hb d_Mod_firstFrame_166 ?_
                                refine tw_ri (e2 := nI (nx + 1)) (nI_add nx 1) ?_
                                refine lv_istore_n hx hb d_Mod_firstFrame_167 rfl hl (by decide) rfl (fun ls hl => ?_)
                                have hl : lv_has ls 7 [(2, .int (nI (nx + 1))), (3, .int 1), (6, .int 1), (5, .int 4), (4, .int (nI qq - 1)), (0, .ref h0), (1, .int (nI mt))] := hl
                                refine lv_iinc (k := 4) (v := nI (qq + 1) - 1) hx hb d_Mod_firstFrame_168 hl rfl (ff_up qq) (by decide) rfl (fun ls hl => ?_)
                                have hl : lv_has ls 7 [(4, .int (nI (qq + 1) - 1)), (2, .int (nI (nx + 1))), (3, .int 1), (6, .int 1), (5, .int 4), (0, .ref h0), (1, .int (nI mt))] := hl
                                refine lv_goto (tgt := 55) hx hb d_Mod_firstFrame_171 (by decide) ?_
                                have hP : va_P g.1 classes [(h0, .inr (10, mob q rf n mm mb fa fp av ev wi mn tp tc sc nf fd me mp xn mt wh tq u2.1 u2.2.1 ig)), ((q 2), aI g 600 bs), ((q 16), aI g 620 on), ((q 17), aI g 620 tw), ((q 27), aI g 160 fl), ((q 28), aI g 160 pl), ((q 30), aI g 160 ty), ((q 33), aI g 160 lo), ((q 34), aI g 160 bg), ((q 41), aI g 600 dp), ((q 42), aZ g 600 iw), ((q 43), aI g 76800 kd), ((q 47), aI g 128 (upd nw8 nx 4)), ((q 50), aI g 600 u2.2.2)] H := hP.sub [0, 1, 2, 3, 4, 5, 6, 7, 8, 9, 10, 11, 12, 13] rfl
                                have hD : va_D A [(h0, .inr (10, mob q rf n mm mb fa fp av ev wi mn tp tc sc nf fd me mp xn mt wh tq u2.1 u2.2.1 ig)), ((q 2), aI g 600 bs), ((q 16), aI g 620 on), ((q 17), aI g 620 tw), ((q 27), aI g 160 fl), ((q 28), aI g 160 pl), ((q 30), aI g 160 ty), ((q 33), aI g 160 lo), ((q 34), aI g 160 bg), ((q 41), aI g 600 dp), ((q 42), aZ g 600 iw), ((q 43), aI g 76800 kd), ((q 47), aI g 128 (upd nw8 nx 4)), ((q 50), aI g 600 u2.2.2)] := hD.sub [0, 1, 2, 3, 4, 5, 6, 7, 8, 9, 10, 11, 12, 13] (by decide) rfl
                                exact ih55 _ (by omega) (nx + 1) 1 (qq + 1) (upd nw8 nx 4) ls _ _ rfl (by omega) (by omega) (hNW8.put (by decide)) (lv_sub hl [0, 2, 1, 5, 6] rfl) hP hD hS
                              · exact absurd h151 h85
                            · refine lv_iconst (v := 0) hx hb d_Mod_firstFrame_141 (by decide) ?_
                              refine lv_goto (tgt := 147) hx hb d_Mod_firstFrame_142 (by decide) ?_
                              refine va_iast hx hb hK hP hD hS 12 0 rfl rfl (vp_in_nI (by omega) (by decide)) d_Mod_firstFrame_147 (fun H locs hP hD hS => ?_)
                              have hP : va_P g.1 classes [(h0, .inr (10, mob q rf n mm mb fa fp av ev wi mn tp tc sc nf fd me mp xn mt wh tq u2.1 u2.2.1 ig)), ((q 2), aI g 600 bs), ((q 16), aI g 620 on), ((q 17), aI g 620 tw), ((q 27), aI g 160 fl), ((q 28), aI g 160 pl), ((q 30), aI g 160 ty), ((q 33), aI g 160 lo), ((q 34), aI g 160 bg), ((q 41), aI g 600 dp), ((q 42), aZ g 600 iw), ((q 43), aI g 76800 kd), ((q 47), aI g 128 (upd nw8 (nI nx).toNatClampNeg 0)), ((q 50), aI g 600 u2.2.2)] H := hP
                              have hD : va_D A [(h0, .inr (10, mob q rf n mm mb fa fp av ev wi mn tp tc sc nf fd me mp xn mt wh tq u2.1 u2.2.1 ig)), ((q 2), aI g 600 bs), ((q 16), aI g 620 on), ((q 17), aI g 620 tw), ((q 27), aI g 160 fl), ((q 28), aI g 160 pl), ((q 30), aI g 160 ty), ((q 33), aI g 160 lo), ((q 34), aI g 160 bg), ((q 41), aI g 600 dp), ((q 42), aZ g 600 iw), ((q 43), aI g 76800 kd), ((q 47), aI g 128 (upd nw8 (nI nx).toNatClampNeg 0)), ((q 50), aI g 600 u2.2.2)] := hD
                              have e9 : upd nw8 (nI nx).toNatClampNeg 0 = upd nw8 nx 0 := by rw [nI_clamp (by omega)]
                              rw [e9] at hP hD
                              refine lv_iload hx hb d_Mod_firstFrame_148 (lv_at hl 2 rfl) ?_
                              refine lv_iconst (v := 2) hx hb d_Mod_firstFrame_150 (by decide) ?_
                              refine lv_icmp_ne (tgt := 163) hx hb d_Mod_firstFrame_151 (by decide) (fun h151 => ?_) (fun h151 => ?_)
                              · refine lv_iload_n hx hb d_Mod_firstFrame_163 rfl (lv_at hl 4 rfl) ?_
                                refine lv_iload hx hb d_Mod_firstFrame_164 (lv_at hl 1 rfl) ?_
                                refine lv_iadd hx hb d_Mod_firstFrame_166 ?_
                                refine tw_ri (e2 := nI (nx + 1)) (nI_add nx 1) ?_
                                refine lv_istore_n hx hb d_Mod_firstFrame_167 rfl hl (by decide) rfl (fun ls hl => ?_)
                                have hl : lv_has ls 7 [(2, .int (nI (nx + 1))), (3, .int 1), (6, .int 1), (5, .int 4), (4, .int (nI qq - 1)), (0, .ref h0), (1, .int (nI mt))] := hl
                                refine lv_iinc (k := 4) (v := nI (qq + 1) - 1) hx hb d_Mod_firstFrame_168 hl rfl (ff_up qq) (by decide) rfl (fun ls hl => ?_)
                                have hl : lv_has ls 7 [(4, .int (nI (qq + 1) - 1)), (2, .int (nI (nx + 1))), (3, .int 1), (6, .int 1), (5, .int 4), (0, .ref h0), (1, .int (nI mt))] := hl
                                refine lv_goto (tgt := 55) hx hb d_Mod_firstFrame_171 (by decide) ?_
                                have hP : va_P g.1 classes [(h0, .inr (10, mob q rf n mm mb fa fp av ev wi mn tp tc sc nf fd me mp xn mt wh tq u2.1 u2.2.1 ig)), ((q 2), aI g 600 bs), ((q 16), aI g 620 on), ((q 17), aI g 620 tw), ((q 27), aI g 160 fl), ((q 28), aI g 160 pl), ((q 30), aI g 160 ty), ((q 33), aI g 160 lo), ((q 34), aI g 160 bg), ((q 41), aI g 600 dp), ((q 42), aZ g 600 iw), ((q 43), aI g 76800 kd), ((q 47), aI g 128 (upd nw8 nx 0)), ((q 50), aI g 600 u2.2.2)] H := hP.sub [0, 1, 2, 3, 4, 5, 6, 7, 8, 9, 10, 11, 12, 13] rfl
                                have hD : va_D A [(h0, .inr (10, mob q rf n mm mb fa fp av ev wi mn tp tc sc nf fd me mp xn mt wh tq u2.1 u2.2.1 ig)), ((q 2), aI g 600 bs), ((q 16), aI g 620 on), ((q 17), aI g 620 tw), ((q 27), aI g 160 fl), ((q 28), aI g 160 pl), ((q 30), aI g 160 ty), ((q 33), aI g 160 lo), ((q 34), aI g 160 bg), ((q 41), aI g 600 dp), ((q 42), aZ g 600 iw), ((q 43), aI g 76800 kd), ((q 47), aI g 128 (upd nw8 nx 0)), ((q 50), aI g 600 u2.2.2)] := hD.sub [0, 1, 2, 3, 4, 5, 6, 7, 8, 9, 10, 11, 12, 13] (by decide) rfl
                                exact ih55 _ (by omega) (nx + 1) 1 (qq + 1) (upd nw8 nx 0) ls _ _ rfl (by omega) (by omega) (hNW8.put (by decide)) (lv_sub hl [0, 2, 1, 5, 6] rfl) hP hD hS
                              · exact absurd h151 h85
                    · refine lv_iconst (v := 2) hx hb d_Mod_firstFrame_95 (by decide) ?_
                      refine lv_goto (tgt := 100) hx hb d_Mod_firstFrame_96 (by decide) ?_
                      refine lv_istore hx hb d_Mod_firstFrame_100 hl (by decide) rfl (fun ls hl => ?_)
                      have hl : lv_has ls 7 [(6, .int 2), (5, .int 4), (4, .int (nI qq - 1)), (3, .int ft), (2, .int (nI nx)), (0, .ref h0), (1, .int (nI mt))] := hl
                      refine lv_iload_n hx hb d_Mod_firstFrame_102 rfl (lv_at hl 3 rfl) ?_
                      refine lv_if_eq (tgt := 123) hx hb d_Mod_firstFrame_103 (by decide) (fun h103 => ?_) (fun h103 => ?_)
                      · refine lv_iconst (v := 0) hx hb d_Mod_firstFrame_123 (by decide) ?_
                        refine lv_istore_n hx hb d_Mod_firstFrame_124 rfl hl (by decide) rfl (fun ls hl => ?_)
                        have hl : lv_has ls 7 [(3, .int 0), (6, .int 2), (5, .int 4), (4, .int (nI qq - 1)), (2, .int (nI nx)), (0, .ref h0), (1, .int (nI mt))] := hl
                        refine lv_iload_n hx hb d_Mod_firstFrame_125 rfl (lv_at hl 0 rfl) ?_
                        refine lv_if_eq (tgt := 163) hx hb d_Mod_firstFrame_126 (by decide) (fun h126 => ?_) (fun h126 => ?_)
                        · refine lv_iload_n hx hb d_Mod_firstFrame_163 rfl (lv_at hl 4 rfl) ?_
                          refine lv_iload hx hb d_Mod_firstFrame_164 (lv_at hl 1 rfl) ?_
                          refine lv_iadd hx hb d_Mod_firstFrame_166 ?_
                          refine tw_ri (e2 := nI (nx + 2)) (nI_add nx 2) ?_
                          refine lv_istore_n hx hb d_Mod_firstFrame_167 rfl hl (by decide) rfl (fun ls hl => ?_)
                          have hl : lv_has ls 7 [(2, .int (nI (nx + 2))), (3, .int 0), (6, .int 2), (5, .int 4), (4, .int (nI qq - 1)), (0, .ref h0), (1, .int (nI mt))] := hl
                          refine lv_iinc (k := 4) (v := nI (qq + 1) - 1) hx hb d_Mod_firstFrame_168 hl rfl (ff_up qq) (by decide) rfl (fun ls hl => ?_)
                          have hl : lv_has ls 7 [(4, .int (nI (qq + 1) - 1)), (2, .int (nI (nx + 2))), (3, .int 0), (6, .int 2), (5, .int 4), (0, .ref h0), (1, .int (nI mt))] := hl
                          refine lv_goto (tgt := 55) hx hb d_Mod_firstFrame_171 (by decide) ?_
                          have hP : va_P g.1 classes [(h0, .inr (10, mob q rf n mm mb fa fp av ev wi mn tp tc sc nf fd me mp xn mt wh tq u2.1 u2.2.1 ig)), ((q 2), aI g 600 bs), ((q 16), aI g 620 on), ((q 17), aI g 620 tw), ((q 27), aI g 160 fl), ((q 28), aI g 160 pl), ((q 30), aI g 160 ty), ((q 33), aI g 160 lo), ((q 34), aI g 160 bg), ((q 41), aI g 600 dp), ((q 42), aZ g 600 iw), ((q 43), aI g 76800 kd), ((q 47), aI g 128 nw8), ((q 50), aI g 600 u2.2.2)] H := hP.sub [0, 1, 2, 3, 4, 5, 6, 7, 8, 9, 10, 11, 12, 13] rfl
                          have hD : va_D A [(h0, .inr (10, mob q rf n mm mb fa fp av ev wi mn tp tc sc nf fd me mp xn mt wh tq u2.1 u2.2.1 ig)), ((q 2), aI g 600 bs), ((q 16), aI g 620 on), ((q 17), aI g 620 tw), ((q 27), aI g 160 fl), ((q 28), aI g 160 pl), ((q 30), aI g 160 ty), ((q 33), aI g 160 lo), ((q 34), aI g 160 bg), ((q 41), aI g 600 dp), ((q 42), aZ g 600 iw), ((q 43), aI g 76800 kd), ((q 47), aI g 128 nw8), ((q 50), aI g 600 u2.2.2)] := hD.sub [0, 1, 2, 3, 4, 5, 6, 7, 8, 9, 10, 11, 12, 13] (by decide) rfl
                          exact ih55 _ (by omega) (nx + 2) 0 (qq + 1) nw8 ls _ _ rfl (by omega) (by omega) hNW8 (lv_sub hl [0, 2, 1, 5, 6] rfl) hP hD hS
                        · first | exact absurd h126 (by decide) | exact absurd (by decide) h126
                      · refine lv_iload_n hx hb d_Mod_firstFrame_106 rfl (lv_at hl 4 rfl) ?_
                        refine lv_iload hx hb d_Mod_firstFrame_107 (lv_at hl 0 rfl) ?_
                        refine lv_iadd hx hb d_Mod_firstFrame_109 ?_
                        refine tw_ri (e2 := nI (nx + 2)) (nI_add nx 2) ?_
                        refine lv_aload_n hx hb d_Mod_firstFrame_110 rfl (lv_at hl 5 rfl) ?_
                        refine va_get (D := g.1) (ci := 10) (v := .ref (q 33)) (C := R_Mod) (T := F_Mod) (N := 61) hx hb hts in_Mod hown hK hP 0 rfl rfl 33 (by decide) (hts _ wd_1283) (fun _ h9 => h9) rfl d_Mod_firstFrame_111 ?_
                        refine lv_iload_n hx hb d_Mod_firstFrame_114 rfl (lv_at hl 6 rfl) ?_
                        refine va_iald hx hb hK hP 7 0 rfl rfl (vp_in_nI (by omega) (by decide)) d_Mod_firstFrame_115 ?_
                        refine tw_ri (e2 := nI o1) (by rw [nI_clamp (by omega)]; exact hlo) ?_
                        refine lv_icmp_gt (tgt := 123) hx hb d_Mod_firstFrame_116 (by decide) (fun h116 => ?_) (fun h116 => ?_)
                        · refine lv_iconst (v := 0) hx hb d_Mod_firstFrame_123 (by decide) ?_
                          refine lv_istore_n hx hb d_Mod_firstFrame_124 rfl hl (by decide) rfl (fun ls hl => ?_)
                          have hl : lv_has ls 7 [(3, .int 0), (6, .int 2), (5, .int 4), (4, .int (nI qq - 1)), (2, .int (nI nx)), (0, .ref h0), (1, .int (nI mt))] := hl
                          refine lv_iload_n hx hb d_Mod_firstFrame_125 rfl (lv_at hl 0 rfl) ?_
                          refine lv_if_eq (tgt := 163) hx hb d_Mod_firstFrame_126 (by decide) (fun h126 => ?_) (fun h126 => ?_)
                          · refine lv_iload_n hx hb d_Mod_firstFrame_163 rfl (lv_at hl 4 rfl) ?_
                            refine lv_iload hx hb d_Mod_firstFrame_164 (lv_at hl 1 rfl) ?_
                            refine lv_iadd hx hb d_Mod_firstFrame_166 ?_
                            refine tw_ri (e2 := nI (nx + 2)) (nI_add nx 2) ?_
                            refine lv_istore_n hx hb d_Mod_firstFrame_167 rfl hl (by decide) rfl (fun ls hl => ?_)
                            have hl : lv_has ls 7 [(2, .int (nI (nx + 2))), (3, .int 0), (6, .int 2), (5, .int 4), (4, .int (nI qq - 1)), (0, .ref h0), (1, .int (nI mt))] := hl
                            refine lv_iinc (k := 4) (v := nI (qq + 1) - 1) hx hb d_Mod_firstFrame_168 hl rfl (ff_up qq) (by decide) rfl (fun ls hl => ?_)
                            have hl : lv_has ls 7 [(4, .int (nI (qq + 1) - 1)), (2, .int (nI (nx + 2))), (3, .int 0), (6, .int 2), (5, .int 4), (0, .ref h0), (1, .int (nI mt))] := hl
                            refine lv_goto (tgt := 55) hx hb d_Mod_firstFrame_171 (by decide) ?_
                            have hP : va_P g.1 classes [(h0, .inr (10, mob q rf n mm mb fa fp av ev wi mn tp tc sc nf fd me mp xn mt wh tq u2.1 u2.2.1 ig)), ((q 2), aI g 600 bs), ((q 16), aI g 620 on), ((q 17), aI g 620 tw), ((q 27), aI g 160 fl), ((q 28), aI g 160 pl), ((q 30), aI g 160 ty), ((q 33), aI g 160 lo), ((q 34), aI g 160 bg), ((q 41), aI g 600 dp), ((q 42), aZ g 600 iw), ((q 43), aI g 76800 kd), ((q 47), aI g 128 nw8), ((q 50), aI g 600 u2.2.2)] H := hP.sub [0, 1, 2, 3, 4, 5, 6, 7, 8, 9, 10, 11, 12, 13] rfl
                            have hD : va_D A [(h0, .inr (10, mob q rf n mm mb fa fp av ev wi mn tp tc sc nf fd me mp xn mt wh tq u2.1 u2.2.1 ig)), ((q 2), aI g 600 bs), ((q 16), aI g 620 on), ((q 17), aI g 620 tw), ((q 27), aI g 160 fl), ((q 28), aI g 160 pl), ((q 30), aI g 160 ty), ((q 33), aI g 160 lo), ((q 34), aI g 160 bg), ((q 41), aI g 600 dp), ((q 42), aZ g 600 iw), ((q 43), aI g 76800 kd), ((q 47), aI g 128 nw8), ((q 50), aI g 600 u2.2.2)] := hD.sub [0, 1, 2, 3, 4, 5, 6, 7, 8, 9, 10, 11, 12, 13] (by decide) rfl
                            exact ih55 _ (by omega) (nx + 2) 0 (qq + 1) nw8 ls _ _ rfl (by omega) (by omega) hNW8 (lv_sub hl [0, 2, 1, 5, 6] rfl) hP hD hS
                          · first | exact absurd h126 (by decide) | exact absurd (by decide) h126
                        · have h116 := tn_nlt h116 (by omega) (by omega)
                          refine lv_iconst (v := 1) hx hb d_Mod_firstFrame_119 (by decide) ?_
                          refine lv_goto (tgt := 124) hx hb d_Mod_firstFrame_120 (by decide) ?_
                          refine lv_istore_n hx hb d_Mod_firstFrame_124 rfl hl (by decide) rfl (fun ls hl => ?_)
                          have hl : lv_has ls 7 [(3, .int 1), (6, .int 2), (5, .int 4), (4, .int (nI qq - 1)), (2, .int (nI nx)), (0, .ref h0), (1, .int (nI mt))] := hl
                          refine lv_iload_n hx hb d_Mod_firstFrame_125 rfl (lv_at hl 0 rfl) ?_
                          refine lv_if_eq (tgt := 163) hx hb d_Mod_firstFrame_126 (by decide) (fun h126 => ?_) (fun h126 => ?_)
                          · first | exact absurd h126 (by decide) | exact absurd (by decide) h126
                          · refine lv_aload_n hx hb d_Mod_firstFrame_129 rfl (lv_at hl 5 rfl) ?_
                            refine va_get (D := g.1) (ci := 10) (v := .ref (q 47)) (C := R_Mod) (T := F_Mod) (N := 61) hx hb hts in_Mod hown hK hP 0 rfl rfl 47 (by decide) (hts _ wd_1297) (fun _ h9 => h9) rfl d_Mod_firstFrame_130 ?_
                            refine lv_iload_n hx hb d_Mod_firstFrame_133 rfl (lv_at hl 4 rfl) ?_
                            refine lv_iload hx hb d_Mod_firstFrame_134 (lv_at hl 2 rfl) ?_
                            refine lv_bipush (v := 9) hx hb d_Mod_firstFrame_136 (by decide) ?_
                            refine lv_icmp_lt (tgt := 145) hx hb d_Mod_firstFrame_138 (by decide) (fun h138 => ?_) (fun h138 => ?_)
                            · refine lv_iload hx hb d_Mod_firstFrame_145 (lv_at hl 2 rfl) ?_
                              refine va_iast hx hb hK hP hD hS 12 0 rfl rfl (vp_in_nI (by omega) (by decide)) d_Mod_firstFrame_147 (fun H locs hP hD hS => ?_)
                              have hP : va_P g.1 classes [(h0, .inr (10, mob q rf n mm mb fa fp av ev wi mn tp tc sc nf fd me mp xn mt wh tq u2.1 u2.2.1 ig)), ((q 2), aI g 600 bs), ((q 16), aI g 620 on), ((q 17), aI g 620 tw), ((q 27), aI g 160 fl), ((q 28), aI g 160 pl), ((q 30), aI g 160 ty), ((q 33), aI g 160 lo), ((q 34), aI g 160 bg), ((q 41), aI g 600 dp), ((q 42), aZ g 600 iw), ((q 43), aI g 76800 kd), ((q 47), aI g 128 (upd nw8 (nI nx).toNatClampNeg 4)), ((q 50), aI g 600 u2.2.2)] H := hP
                              have hD : va_D A [(h0, .inr (10, mob q rf n mm mb fa fp av ev wi mn tp tc sc nf fd me mp xn mt wh tq u2.1 u2.2.1 ig)), ((q 2), aI g 600 bs), ((q 16), aI g 620 on), ((q 17), aI g 620 tw), ((q 27), aI g 160 fl), ((q 28), aI g 160 pl), ((q 30), aI g 160 ty), ((q 33), aI g 160 lo), ((q 34), aI g 160 bg), ((q 41), aI g 600 dp), ((q 42), aZ g 600 iw), ((q 43), aI g 76800 kd), ((q 47), aI g 128 (upd nw8 (nI nx).toNatClampNeg 4)), ((q 50), aI g 600 u2.2.2)] := hD
                              have e9 : upd nw8 (nI nx).toNatClampNeg 4 = upd nw8 nx 4 := by rw [nI_clamp (by omega)]
                              rw [e9] at hP hD
                              refine lv_iload hx hb d_Mod_firstFrame_148 (lv_at hl 2 rfl) ?_
                              refine lv_iconst (v := 2) hx hb d_Mod_firstFrame_150 (by decide) ?_
                              refine lv_icmp_ne (tgt := 163) hx hb d_Mod_firstFrame_151 (by decide) (fun h151 => ?_) (fun h151 => ?_)
                              · refine lv_iload_n hx hb d_Mod_firstFrame_163 rfl (lv_at hl 4 rfl) ?_
                                refine lv_iload hx hb d_Mod_firstFrame_164 (lv_at hl 1 rfl) ?_
                                refine lv_iadd hx hb d_Mod_firstFrame_166 ?_
                                refine tw_ri (e2 := nI (nx + 2)) (nI_add nx 2) ?_
                                refine lv_istore_n hx hb d_Mod_firstFrame_167 rfl hl (by decide) rfl (fun ls hl => ?_)
                                have hl : lv_has ls 7 [(2, .int (nI (nx + 2))), (3, .int 1), (6, .int 2), (5, .int 4), (4, .int (nI qq - 1)), (0, .ref h0), (1, .int (nI mt))] := hl
                                refine lv_iinc (k := 4) (v := nI (qq + 1) - 1) hx hb d_Mod_firstFrame_168 hl rfl (ff_up qq) (by decide) rfl (fun ls hl => ?_)
                                have hl : lv_has ls 7 [(4, .int (nI (qq + 1) - 1)), (2, .int (nI (nx + 2))), (3, .int 1), (6, .int 2), (5, .int 4), (0, .ref h0), (1, .int (nI mt))] := hl
                                refine lv_goto (tgt := 55) hx hb d_Mod_firstFrame_171 (by decide) ?_
                                have hP : va_P g.1 classes [(h0, .inr (10, mob q rf n mm mb fa fp av ev wi mn tp tc sc nf fd me mp xn mt wh tq u2.1 u2.2.1 ig)), ((q 2), aI g 600 bs), ((q 16), aI g 620 on), ((q 17), aI g 620 tw), ((q 27), aI g 160 fl), ((q 28), aI g 160 pl), ((q 30), aI g 160 ty), ((q 33), aI g 160 lo), ((q 34), aI g 160 bg), ((q 41), aI g 600 dp), ((q 42), aZ g 600 iw), ((q 43), aI g 76800 kd), ((q 47), aI g 128 (upd nw8 nx 4)), ((q 50), aI g 600 u2.2.2)] H := hP.sub [0, 1, 2, 3, 4, 5, 6, 7, 8, 9, 10, 11, 12, 13] rfl
                                have hD : va_D A [(h0, .inr (10, mob q rf n mm mb fa fp av ev wi mn tp tc sc nf fd me mp xn mt wh tq u2.1 u2.2.1 ig)), ((q 2), aI g 600 bs), ((q 16), aI g 620 on), ((q 17), aI g 620 tw), ((q 27), aI g 160 fl), ((q 28), aI g 160 pl), ((q 30), aI g 160 ty), ((q 33), aI g 160 lo), ((q 34), aI g 160 bg), ((q 41), aI g 600 dp), ((q 42), aZ g 600 iw), ((q 43), aI g 76800 kd), ((q 47), aI g 128 (upd nw8 nx 4)), ((q 50), aI g 600 u2.2.2)] := hD.sub [0, 1, 2, 3, 4, 5, 6, 7, 8, 9, 10, 11, 12, 13] (by decide) rfl
                                exact ih55 _ (by omega) (nx + 2) 1 (qq + 1) (upd nw8 nx 4) ls _ _ rfl (by omega) (by omega) (hNW8.put (by decide)) (lv_sub hl [0, 2, 1, 5, 6] rfl) hP hD hS
                              · exact absurd h151 h85
                            · refine lv_iconst (v := 0) hx hb d_Mod_firstFrame_141 (by decide) ?_
                              refine lv_goto (tgt := 147) hx hb d_Mod_firstFrame_142 (by decide) ?_
                              refine va_iast hx hb hK hP hD hS 12 0 rfl rfl (vp_in_nI (by omega) (by decide)) d_Mod_firstFrame_147 (fun H locs hP hD hS => ?_)
                              have hP : va_P g.1 classes [(h0, .inr (10, mob q rf n mm mb fa fp av ev wi mn tp tc sc nf fd me mp xn mt wh tq u2.1 u2.2.1 ig)), ((q 2), aI g 600 bs), ((q 16), aI g 620 on), ((q 17), aI g 620 tw), ((q 27), aI g 160 fl), ((q 28), aI g 160 pl), ((q 30), aI g 160 ty), ((q 33), aI g 160 lo), ((q 34), aI g 160 bg), ((q 41), aI g 600 dp), ((q 42), aZ g 600 iw), ((q 43), aI g 76800 kd), ((q 47), aI g 128 (upd nw8 (nI nx).toNatClampNeg 0)), ((q 50), aI g 600 u2.2.2)] H := hP
                              have hD : va_D A [(h0, .inr (10, mob q rf n mm mb fa fp av ev wi mn tp tc sc nf fd me mp xn mt wh tq u2.1 u2.2.1 ig)), ((q 2), aI g 600 bs), ((q 16), aI g 620 on), ((q 17), aI g 620 tw), ((q 27), aI g 160 fl), ((q 28), aI g 160 pl), ((q 30), aI g 160 ty), ((q 33), aI g 160 lo), ((q 34), aI g 160 bg), ((q 41), aI g 600 dp), ((q 42), aZ g 600 iw), ((q 43), aI g 76800 kd), ((q 47), aI g 128 (upd nw8 (nI nx).toNatClampNeg 0)), ((q 50), aI g 600 u2.2.2)] := hD
                              have e9 : upd nw8 (nI nx).toNatClampNeg 0 = upd nw8 nx 0 := by rw [nI_clamp (by omega)]
                              rw [e9] at hP hD
                              refine lv_iload hx hb d_Mod_firstFrame_148 (lv_at hl 2 rfl) ?_
                              refine lv_iconst (v := 2) hx hb d_Mod_firstFrame_150 (by decide) ?_
                              refine lv_icmp_ne (tgt := 163) hx hb d_Mod_firstFrame_151 (by decide) (fun h151 => ?_) (fun h151 => ?_)
                              · refine lv_iload_n hx hb d_Mod_firstFrame_163 rfl (lv_at hl 4 rfl) ?_
                                refine lv_iload hx hb d_Mod_firstFrame_164 (lv_at hl 1 rfl) ?_
                                refine lv_iadd hx hb d_Mod_firstFrame_166 ?_
                                refine tw_ri (e2 := nI (nx + 2)) (nI_add nx 2) ?_
                                refine lv_istore_n hx hb d_Mod_firstFrame_167 rfl hl (by decide) rfl (fun ls hl => ?_)
                                have hl : lv_has ls 7 [(2, .int (nI (nx + 2))), (3, .int 1), (6, .int 2), (5, .int 4), (4, .int (nI qq - 1)), (0, .ref h0), (1, .int (nI mt))] := hl
                                refine lv_iinc (k := 4) (v := nI (qq + 1) - 1) hx hb d_Mod_firstFrame_168 hl rfl (ff_up qq) (by decide) rfl (fun ls hl => ?_)
                                have hl : lv_has ls 7 [(4, .int (nI (qq + 1) - 1)), (2, .int (nI (nx + 2))), (3, .int 1), (6, .int 2), (5, .int 4), (0, .ref h0), (1, .int (nI mt))] := hl
                                refine lv_goto (tgt := 55) hx hb d_Mod_firstFrame_171 (by decide) ?_
                                have hP : va_P g.1 classes [(h0, .inr (10, mob q rf n mm mb fa fp av ev wi mn tp tc sc nf fd me mp xn mt wh tq u2.1 u2.2.1 ig)), ((q 2), aI g 600 bs), ((q 16), aI g 620 on), ((q 17), aI g 620 tw), ((q 27), aI g 160 fl), ((q 28), aI g 160 pl), ((q 30), aI g 160 ty), ((q 33), aI g 160 lo), ((q 34), aI g 160 bg), ((q 41), aI g 600 dp), ((q 42), aZ g 600 iw), ((q 43), aI g 76800 kd), ((q 47), aI g 128 (upd nw8 nx 0)), ((q 50), aI g 600 u2.2.2)] H := hP.sub [0, 1, 2, 3, 4, 5, 6, 7, 8, 9, 10, 11, 12, 13] rfl
                                have hD : va_D A [(h0, .inr (10, mob q rf n mm mb fa fp av ev wi mn tp tc sc nf fd me mp xn mt wh tq u2.1 u2.2.1 ig)), ((q 2), aI g 600 bs), ((q 16), aI g 620 on), ((q 17), aI g 620 tw), ((q 27), aI g 160 fl), ((q 28), aI g 160 pl), ((q 30), aI g 160 ty), ((q 33), aI g 160 lo), ((q 34), aI g 160 bg), ((q 41), aI g 600 dp), ((q 42), aZ g 600 iw), ((q 43), aI g 76800 kd), ((q 47), aI g 128 (upd nw8 nx 0)), ((q 50), aI g 600 u2.2.2)] := hD.sub [0, 1, 2, 3, 4, 5, 6, 7, 8, 9, 10, 11, 12, 13] (by decide) rfl
                                exact ih55 _ (by omega) (nx + 2) 1 (qq + 1) (upd nw8 nx 0) ls _ _ rfl (by omega) (by omega) (hNW8.put (by decide)) (lv_sub hl [0, 2, 1, 5, 6] rfl) hP hD hS
                              · exact absurd h151 h85
          exact loop55 _ 0 1 0 nw9 ls _ _ rfl (Nat.zero_le _) (by omega) hNW1 (lv_sub hl [0, 1, 2, 3, 4] rfl) hP hD hS
        · refine lv_iconst (v := 0) hx hb d_Mod_firstFrame_48 (by decide) ?_
          refine lv_goto (tgt := 53) hx hb d_Mod_firstFrame_49 (by decide) ?_
          refine lv_istore hx hb d_Mod_firstFrame_53 hl (by decide) rfl (fun ls hl => ?_)
          have hl : lv_has ls 7 [(4, .int 0), (3, .int 1), (2, .int 0), (0, .ref h0), (1, .int (nI mt))] := hl
          have loop55 : ∀ (kq : Nat) (nx : Nat) (ft : Int32) (qq : Nat) (nw8 : Nat → Int32) (ls : Array Slot) (H : Heap) (locs : List Loc) , u2.1 + 1 - qq = kq → (hnx : nx ≤ 2 * qq) → (hqq : qq ≤ u2.1 + 1) → (hNW8 : NOW nw8) → lv_has ls 7 [(4, .int (nI qq - 1)), (3, .int ft), (2, .int (nI nx)), (0, .ref h0), (1, .int (nI mt))] → va_P g.1 classes [(h0, .inr (10, mob q rf n mm mb fa fp av ev wi mn tp tc sc nf fd me mp xn mt wh tq u2.1 u2.2.1 ig)), ((q 2), aI g 600 bs), ((q 16), aI g 620 on), ((q 17), aI g 620 tw), ((q 27), aI g 160 fl), ((q 28), aI g 160 pl), ((q 30), aI g 160 ty), ((q 33), aI g 160 lo), ((q 34), aI g 160 bg), ((q 41), aI g 600 dp), ((q 42), aZ g 600 iw), ((q 43), aI g 76800 kd), ((q 47), aI g 128 nw8), ((q 50), aI g 600 u2.2.2)] H → va_D A [(h0, .inr (10, mob q rf n mm mb fa fp av ev wi mn tp tc sc nf fd me mp xn mt wh tq u2.1 u2.2.1 ig)), ((q 2), aI g 600 bs), ((q 16), aI g 620 on), ((q 17), aI g 620 tw), ((q 27), aI g 160 fl), ((q 28), aI g 160 pl), ((q 30), aI g 160 ty), ((q 33), aI g 160 lo), ((q 34), aI g 160 bg), ((q 41), aI g 600 dp), ((q 42), aZ g 600 iw), ((q 43), aI g 76800 kd), ((q 47), aI g 128 nw8), ((q 50), aI g 600 u2.2.2)] → va_S A s.heap H locs → W p l e ({ frames := 5, cells := 0, slots := 0, locals := 117 }) s m [.ref h0, .int (nI mt)].toArray below meth c H locs 0 0 (MQ below (tw_Qv g (fun (u : Int32 × Int32 × Nat × Int32 × (Nat → Int32) × (Nat → Int32) × (Nat → Int32) × (Nat → Int32) × (Nat → Int32)) => (u.1 = 0 → fa = 0) ∧ (FRG u.2.2.2.2.1 u.2.2.2.2.2.1 u.2.2.2.2.2.2.1) ∧ (MU u.2.2.2.2.1 u.2.2.2.2.2.1 u.2.2.2.2.2.2.1 ≤ MU dp iw kd)) (fun u : Int32 × Int32 × Nat × Int32 × (Nat → Int32) × (Nat → Int32) × (Nat → Int32) × (Nat → Int32) × (Nat → Int32) => [(h0, .inr (10, mob q rf n mm mb u.1 u.2.1 av ev wi mn tp tc sc nf fd me mp xn mt wh tq u.2.2.1 u.2.2.2.1 ig)), ((q 2), aI g 600 bs), ((q 16), aI g 620 on), ((q 17), aI g 620 tw), ((q 27), aI g 160 fl), ((q 28), aI g 160 pl), ((q 30), aI g 160 ty), ((q 33), aI g 160 lo), ((q 34), aI g 160 bg), ((q 41), aI g 600 u.2.2.2.2.1), ((q 42), aZ g 600 u.2.2.2.2.2.1), ((q 43), aI g 76800 u.2.2.2.2.2.2.1), ((q 47), aI g 128 u.2.2.2.2.2.2.2.1), ((q 50), aI g 600 u.2.2.2.2.2.2.2.2)]) A) [.ref h0, .int (nI mt)].toArray s 0 0 A) (F0 m 55 ls []) := by
            intro kq
            induction kq using Nat.strongRecOn with
            | _ kq ih55 =>
              intro nx ft qq nw8 ls H locs hk55 hnx hqq hNW8 hl hP hD hS
              refine lv_iload hx hb d_Mod_firstFrame_55 (lv_at hl 0 rfl) ?_
              refine lv_aload_n hx hb d_Mod_firstFrame_57 rfl (lv_at hl 3 rfl) ?_
              refine va_get (D := g.1) (ci := 10) (v := .int (nI u2.1)) (C := R_Mod) (T := F_Mod) (N := 61) hx hb hts in_Mod hown hK hP 0 rfl rfl 49 (by decide) (hts _ wd_1299) (fun _ h9 => h9) rfl d_Mod_firstFrame_58 ?_
              refine lv_icmp_ge (tgt := 174) hx hb d_Mod_firstFrame_61 (by decide) (fun h61 => ?_) (fun h61 => ?_)
              · refine lv_iload_n hx hb d_Mod_firstFrame_174 rfl (lv_at hl 1 rfl) ?_
                refine lv_if_ne (tgt := 191) hx hb d_Mod_firstFrame_175 (by decide) (fun h175 => ?_) (fun h175 => ?_)
                · refine lv_aload_n hx hb d_Mod_firstFrame_191 rfl (lv_at hl 3 rfl) ?_
                  refine lv_aload_n hx hb d_Mod_firstFrame_192 rfl (lv_at hl 3 rfl) ?_
                  refine va_get (D := g.1) (ci := 10) (v := .ref (q 34)) (C := R_Mod) (T := F_Mod) (N := 61) hx hb hts in_Mod hown hK hP 0 rfl rfl 34 (by decide) (hts _ wd_1284) (fun _ h9 => h9) rfl d_Mod_firstFrame_193 ?_
                  refine lv_iload_n hx hb d_Mod_firstFrame_196 rfl (lv_at hl 4 rfl) ?_
                  refine va_iald hx hb hK hP 8 0 rfl rfl (vp_in_nI (by omega) (by decide)) d_Mod_firstFrame_197 ?_
                  refine tw_ri (e2 := nI b1) (by rw [nI_clamp (by omega)]; exact hbg) ?_
                  refine lv_aload_n hx hb d_Mod_firstFrame_198 rfl (lv_at hl 3 rfl) ?_
                  refine va_get (D := g.1) (ci := 10) (v := .ref (q 47)) (C := R_Mod) (T := F_Mod) (N := 61) hx hb hts in_Mod hown hK hP 0 rfl rfl 47 (by decide) (hts _ wd_1297) (fun _ h9 => h9) rfl d_Mod_firstFrame_199 ?_
                  refine lv_iconst (v := 0) hx hb d_Mod_firstFrame_202 (by decide) ?_
                  refine tw_wv (wr := [((q 2), aI g 600 bs), ((q 16), aI g 620 on), ((q 17), aI g 620 tw), ((q 27), aI g 160 fl), ((q 28), aI g 160 pl), ((q 30), aI g 160 ty), ((q 33), aI g 160 lo), ((q 34), aI g 160 bg), ((q 50), aI g 600 u2.2.2)]) (tw_runV (ws := [(h0, .inr (10, mob q rf n mm mb fa fp av ev wi mn tp tc sc nf fd me mp xn mt wh tq u2.1 u2.2.1 ig)), ((q 2), aI g 600 bs), ((q 16), aI g 620 on), ((q 17), aI g 620 tw), ((q 27), aI g 160 fl), ((q 28), aI g 160 pl), ((q 30), aI g 160 ty), ((q 33), aI g 160 lo), ((q 34), aI g 160 bg), ((q 41), aI g 600 dp), ((q 42), aZ g 600 iw), ((q 43), aI g 76800 kd), ((q 47), aI g 128 nw8), ((q 50), aI g 600 u2.2.2)]) (wc := [(h0, .inr (10, mob q rf n mm mb fa fp av ev wi mn tp tc sc nf fd me mp xn mt wh tq u2.1 u2.2.1 ig)), ((q 41), aI g 600 dp), ((q 42), aZ g 600 iw), ((q 43), aI g 76800 kd), ((q 47), aI g 128 nw8)]) (As := [.int (nI b1), .ref (q 47), .int 0]) (rest := []) E hB hK hZ (g_Mod_goOnN l g H.size h0 q rf n mm mb av ev wi mn tp tc sc nf fd me mp xn mt wh tq u2.1 u2.2.1 ig nw8 fa fp dp iw kd b1 0 (by omega) (by omega) hFR hNW8.1 hNW8.2) mc_Mod_goOn mi_Mod_goOn me_Mod_goOn wd_1636 hP hD hS hA [0, 9, 10, 11, 12] rfl (by decide) 0 rfl rfl rfl rfl rfl (by decide) rfl hl.1 rfl (Nat.le_of_ble_eq_true rfl) (by decide) d_Mod_firstFrame_203) hP hD hS hA [0, 9, 10, 11, 12] [1, 2, 3, 4, 5, 6, 7, 8, 13] rfl rfl (by decide) (by decide) (fun u11 H locs hr10 hP hD hS => ?_)
                  try dsimp only at hr10
                  have hP : va_P g.1 classes [((q 2), aI g 600 bs), ((q 16), aI g 620 on), ((q 17), aI g 620 tw), ((q 27), aI g 160 fl), ((q 28), aI g 160 pl), ((q 30), aI g 160 ty), ((q 33), aI g 160 lo), ((q 34), aI g 160 bg), ((q 50), aI g 600 u2.2.2), (h0, .inr (10, mob q rf n mm mb u11.1 u11.2.1 av ev wi mn tp tc sc nf fd me mp xn mt wh tq u2.1 u2.2.1 ig)), ((q 41), aI g 600 u11.2.2.1), ((q 42), aZ g 600 u11.2.2.2.1), ((q 43), aI g 76800 u11.2.2.2.2), ((q 47), aI g 128 nw8)] H := hP
                  have hD : va_D A [((q 2), aI g 600 bs), ((q 16), aI g 620 on), ((q 17), aI g 620 tw), ((q 27), aI g 160 fl), ((q 28), aI g 160 pl), ((q 30), aI g 160 ty), ((q 33), aI g 160 lo), ((q 34), aI g 160 bg), ((q 50), aI g 600 u2.2.2), (h0, .inr (10, mob q rf n mm mb u11.1 u11.2.1 av ev wi mn tp tc sc nf fd me mp xn mt wh tq u2.1 u2.2.1 ig)), ((q 41), aI g 600 u11.2.2.1), ((q 42), aZ g 600 u11.2.2.2.1), ((q 43), aI g 76800 u11.2.2.2.2), ((q 47), aI g 128 nw8)] := hD
                  have hP : va_P g.1 classes [(h0, .inr (10, mob q rf n mm mb u11.1 u11.2.1 av ev wi mn tp tc sc nf fd me mp xn mt wh tq u2.1 u2.2.1 ig)), ((q 2), aI g 600 bs), ((q 16), aI g 620 on), ((q 17), aI g 620 tw), ((q 27), aI g 160 fl), ((q 28), aI g 160 pl), ((q 30), aI g 160 ty), ((q 33), aI g 160 lo), ((q 34), aI g 160 bg), ((q 41), aI g 600 u11.2.2.1), ((q 42), aZ g 600 u11.2.2.2.1), ((q 43), aI g 76800 u11.2.2.2.2), ((q 47), aI g 128 nw8), ((q 50), aI g 600 u2.2.2)] H := hP.sub [9, 0, 1, 2, 3, 4, 5, 6, 7, 10, 11, 12, 13, 8] rfl
                  have hD : va_D A [(h0, .inr (10, mob q rf n mm mb u11.1 u11.2.1 av ev wi mn tp tc sc nf fd me mp xn mt wh tq u2.1 u2.2.1 ig)), ((q 2), aI g 600 bs), ((q 16), aI g 620 on), ((q 17), aI g 620 tw), ((q 27), aI g 160 fl), ((q 28), aI g 160 pl), ((q 30), aI g 160 ty), ((q 33), aI g 160 lo), ((q 34), aI g 160 bg), ((q 41), aI g 600 u11.2.2.1), ((q 42), aZ g 600 u11.2.2.2.1), ((q 43), aI g 76800 u11.2.2.2.2), ((q 47), aI g 128 nw8), ((q 50), aI g 600 u2.2.2)] := hD.sub [9, 0, 1, 2, 3, 4, 5, 6, 7, 10, 11, 12, 13, 8] (by decide) rfl
                  obtain ⟨hp11_0, hp11_1, hp11_2⟩ := hr10
                  exact tw_vret E hS (u11.1, u11.2.1, u2.1, u2.2.1, u11.2.2.1, u11.2.2.2.1, u11.2.2.2.2, nw8, u2.2.2) (⟨(fun h => (fun h => h) (hp11_0 h)), hp11_1, (by first | omega | (dsimp only <;> omega))⟩) hP hD d_Mod_firstFrame_206
                · refine lv_aload_n hx hb d_Mod_firstFrame_178 rfl (lv_at hl 3 rfl) ?_
                  refine lv_bipush (v := 21) hx hb d_Mod_firstFrame_179 (by decide) ?_
                  refine lv_aload_n hx hb d_Mod_firstFrame_181 rfl (lv_at hl 3 rfl) ?_
                  refine va_get (D := g.1) (ci := 10) (v := .ref (q 28)) (C := R_Mod) (T := F_Mod) (N := 61) hx hb hts in_Mod hown hK hP 0 rfl rfl 28 (by decide) (hts _ wd_1278) (fun _ h9 => h9) rfl d_Mod_firstFrame_182 ?_
                  refine lv_iload_n hx hb d_Mod_firstFrame_185 rfl (lv_at hl 4 rfl) ?_
                  refine va_iald hx hb hK hP 5 0 rfl rfl (vp_in_nI (by omega) (by decide)) d_Mod_firstFrame_186 ?_
                  obtain ⟨x12, ex12⟩ : ∃ z : Int32, pl ((nI mt).toNatClampNeg) = z := ⟨_, rfl⟩
                  refine tw_ri (e2 := x12) ex12 ?_
                  refine tw_wv (wr := [((q 2), aI g 600 bs), ((q 16), aI g 620 on), ((q 17), aI g 620 tw), ((q 27), aI g 160 fl), ((q 28), aI g 160 pl), ((q 30), aI g 160 ty), ((q 33), aI g 160 lo), ((q 34), aI g 160 bg), ((q 41), aI g 600 dp), ((q 42), aZ g 600 iw), ((q 43), aI g 76800 kd), ((q 47), aI g 128 nw8), ((q 50), aI g 600 u2.2.2)]) (tw_runV (ws := [(h0, .inr (10, mob q rf n mm mb fa fp av ev wi mn tp tc sc nf fd me mp xn mt wh tq u2.1 u2.2.1 ig)), ((q 2), aI g 600 bs), ((q 16), aI g 620 on), ((q 17), aI g 620 tw), ((q 27), aI g 160 fl), ((q 28), aI g 160 pl), ((q 30), aI g 160 ty), ((q 33), aI g 160 lo), ((q 34), aI g 160 bg), ((q 41), aI g 600 dp), ((q 42), aZ g 600 iw), ((q 43), aI g 76800 kd), ((q 47), aI g 128 nw8), ((q 50), aI g 600 u2.2.2)]) (wc := [(h0, .inr (10, mob q rf n mm mb fa fp av ev wi mn tp tc sc nf fd me mp xn mt wh tq u2.1 u2.2.1 ig))]) (As := [.int 21, .int x12]) (rest := []) E hB hK hZ (g_Mod_fail l g H.size h0 q rf n mm mb av ev wi mn tp tc sc nf fd me mp xn mt wh tq u2.1 u2.2.1 ig fa fp 21 x12 (by decide)) mc_Mod_fail mi_Mod_fail me_Mod_fail wd_1478 hP hD hS hA [0] rfl (by decide) 0 rfl rfl rfl rfl rfl (by decide) rfl hl.1 rfl (Nat.le_of_ble_eq_true rfl) (by decide) d_Mod_firstFrame_187) hP hD hS hA [0] [1, 2, 3, 4, 5, 6, 7, 8, 9, 10, 11, 12, 13] rfl rfl (by decide) (by decide) (fun u14 H locs hr13 hP hD hS => ?_)
                  try dsimp only at hr13
                  have hP : va_P g.1 classes [((q 2), aI g 600 bs), ((q 16), aI g 620 on), ((q 17), aI g 620 tw), ((q 27), aI g 160 fl), ((q 28), aI g 160 pl), ((q 30), aI g 160 ty), ((q 33), aI g 160 lo), ((q 34), aI g 160 bg), ((q 41), aI g 600 dp), ((q 42), aZ g 600 iw), ((q 43), aI g 76800 kd), ((q 47), aI g 128 nw8), ((q 50), aI g 600 u2.2.2), (h0, .inr (10, mob q rf n mm mb u14.1 u14.2 av ev wi mn tp tc sc nf fd me mp xn mt wh tq u2.1 u2.2.1 ig))] H := hP
                  have hD : va_D A [((q 2), aI g 600 bs), ((q 16), aI g 620 on), ((q 17), aI g 620 tw), ((q 27), aI g 160 fl), ((q 28), aI g 160 pl), ((q 30), aI g 160 ty), ((q 33), aI g 160 lo), ((q 34), aI g 160 bg), ((q 41), aI g 600 dp), ((q 42), aZ g 600 iw), ((q 43), aI g 76800 kd), ((q 47), aI g 128 nw8), ((q 50), aI g 600 u2.2.2), (h0, .inr (10, mob q rf n mm mb u14.1 u14.2 av ev wi mn tp tc sc nf fd me mp xn mt wh tq u2.1 u2.2.1 ig))] := hD
                  have hP : va_P g.1 classes [(h0, .inr (10, mob q rf n mm mb u14.1 u14.2 av ev wi mn tp tc sc nf fd me mp xn mt wh tq u2.1 u2.2.1 ig)), ((q 2), aI g 600 bs), ((q 16), aI g 620 on), ((q 17), aI g 620 tw), ((q 27), aI g 160 fl), ((q 28), aI g 160 pl), ((q 30), aI g 160 ty), ((q 33), aI g 160 lo), ((q 34), aI g 160 bg), ((q 41), aI g 600 dp), ((q 42), aZ g 600 iw), ((q 43), aI g 76800 kd), ((q 47), aI g 128 nw8), ((q 50), aI g 600 u2.2.2)] H := hP.sub [13, 0, 1, 2, 3, 4, 5, 6, 7, 8, 9, 10, 11, 12] rfl
                  have hD : va_D A [(h0, .inr (10, mob q rf n mm mb u14.1 u14.2 av ev wi mn tp tc sc nf fd me mp xn mt wh tq u2.1 u2.2.1 ig)), ((q 2), aI g 600 bs), ((q 16), aI g 620 on), ((q 17), aI g 620 tw), ((q 27), aI g 160 fl), ((q 28), aI g 160 pl), ((q 30), aI g 160 ty), ((q 33), aI g 160 lo), ((q 34), aI g 160 bg), ((q 41), aI g 600 dp), ((q 42), aZ g 600 iw), ((q 43), aI g 76800 kd), ((q 47), aI g 128 nw8), ((q 50), aI g 600 u2.2.2)] := hD.sub [13, 0, 1, 2, 3, 4, 5, 6, 7, 8, 9, 10, 11, 12] (by decide) rfl
                  have hp14_0 := hr13
                  exact tw_vret E hS (u14.1, u14.2, u2.1, u2.2.1, dp, iw, kd, nw8, u2.2.2) (⟨(fun h => absurd h hp14_0), hFR, (by first | omega | (dsimp only <;> omega))⟩) hP hD d_Mod_firstFrame_190
              · have h61 := ff_lt h61 (by omega) (by omega)
                refine lv_iload hx hb d_Mod_firstFrame_64 (lv_at hl 0 rfl) ?_
                refine lv_if_ge (tgt := 73) hx hb d_Mod_firstFrame_66 (by decide) (fun h66 => ?_) (fun h66 => ?_)
                · have h66 := ff_ge h66 (by omega)
                  have hkk := hp2_1 (qq - 1) (by omega)
                  refine lv_aload_n hx hb d_Mod_firstFrame_73 rfl (lv_at hl 3 rfl) ?_
                  refine va_get (D := g.1) (ci := 10) (v := .ref (q 50)) (C := R_Mod) (T := F_Mod) (N := 61) hx hb hts in_Mod hown hK hP 0 rfl rfl 50 (by decide) (hts _ wd_1300) (fun _ h9 => h9) rfl d_Mod_firstFrame_74 ?_
                  refine lv_iload hx hb d_Mod_firstFrame_77 (lv_at hl 0 rfl) ?_
                  refine va_iald hx hb hK hP 13 0 rfl rfl (by rw [ff_dn h66]; exact vp_in_nI (by omega) (by decide)) d_Mod_firstFrame_79 ?_
                  refine tw_ri (e2 := u2.2.2 (qq - 1)) (by rw [ff_dn h66, nI_clamp (by omega)]) ?_
                  refine lv_istore hx hb d_Mod_firstFrame_80 hl (by decide) rfl (fun ls hl => ?_)
                  have hl : lv_has ls 7 [(5, .int (u2.2.2 (qq - 1))), (4, .int (nI qq - 1)), (3, .int ft), (2, .int (nI nx)), (0, .ref h0), (1, .int (nI mt))] := hl
                  refine lv_iload hx hb d_Mod_firstFrame_82 (lv_at hl 0 rfl) ?_
                  refine lv_iconst (v := 2) hx hb d_Mod_firstFrame_84 (by decide) ?_
                  refine lv_icmp_eq (tgt := 95) hx hb d_Mod_firstFrame_85 (by decide) (fun h85 => ?_) (fun h85 => ?_)
                  · refine lv_iconst (v := 2) hx hb d_Mod_firstFrame_95 (by decide) ?_
                    refine lv_goto (tgt := 100) hx hb d_Mod_firstFrame_96 (by decide) ?_
                    refine lv_istore hx hb d_Mod_firstFrame_100 hl (by decide) rfl (fun ls hl => ?_)
                    have hl : lv_has ls 7 [(6, .int 2), (5, .int (u2.2.2 (qq - 1))), (4, .int (nI qq - 1)), (3, .int ft), (2, .int (nI nx)), (0, .ref h0), (1, .int (nI mt))] := hl
                    refine lv_iload_n hx hb d_Mod_firstFrame_102 rfl (lv_at hl 3 rfl) ?_
                    refine lv_if_eq (tgt := 123) hx hb d_Mod_firstFrame_103 (by decide) (fun h103 => ?_) (fun h103 => ?_)
                    · refine lv_iconst (v := 0) hx hb d_Mod_firstFrame_123 (by decide) ?_
                      refine lv_istore_n hx hb d_Mod_firstFrame_124 rfl hl (by decide) rfl (fun ls hl => ?_)
                      have hl : lv_has ls 7 [(3, .int 0), (6, .int 2), (5, .int (u2.2.2 (qq - 1))), (4, .int (nI qq - 1)), (2, .int (nI nx)), (0, .ref h0), (1, .int (nI mt))] := hl
                      refine lv_iload_n hx hb d_Mod_firstFrame_125 rfl (lv_at hl 0 rfl) ?_
                      refine lv_if_eq (tgt := 163) hx hb d_Mod_firstFrame_126 (by decide) (fun h126 => ?_) (fun h126 => ?_)
                      · refine lv_iload_n hx hb d_Mod_firstFrame_163 rfl (lv_at hl 4 rfl) ?_
                        refine lv_iload hx hb d_Mod_firstFrame_164 (lv_at hl 1 rfl) ?_
                        refine lv_iadd hx hb d_Mod_firstFrame_166 ?_
                        refine tw_ri (e2 := nI (nx + 2)) (nI_add nx 2) ?_
                        refine lv_istore_n hx hb d_Mod_firstFrame_167 rfl hl (by decide) rfl (fun ls hl => ?_)
                        have hl : lv_has ls 7 [(2, .int (nI (nx + 2))), (3, .int 0), (6, .int 2), (5, .int (u2.2.2 (qq - 1))), (4, .int (nI qq - 1)), (0, .ref h0), (1, .int (nI mt))] := hl
                        refine lv_iinc (k := 4) (v := nI (qq + 1) - 1) hx hb d_Mod_firstFrame_168 hl rfl (ff_up qq) (by decide) rfl (fun ls hl => ?_)
                        have hl : lv_has ls 7 [(4, .int (nI (qq + 1) - 1)), (2, .int (nI (nx + 2))), (3, .int 0), (6, .int 2), (5, .int (u2.2.2 (qq - 1))), (0, .ref h0), (1, .int (nI mt))] := hl
                        refine lv_goto (tgt := 55) hx hb d_Mod_firstFrame_171 (by decide) ?_
                        have hP : va_P g.1 classes [(h0, .inr (10, mob q rf n mm mb fa fp av ev wi mn tp tc sc nf fd me mp xn mt wh tq u2.1 u2.2.1 ig)), ((q 2), aI g 600 bs), ((q 16), aI g 620 on), ((q 17), aI g 620 tw), ((q 27), aI g 160 fl), ((q 28), aI g 160 pl), ((q 30), aI g 160 ty), ((q 33), aI g 160 lo), ((q 34), aI g 160 bg), ((q 41), aI g 600 dp), ((q 42), aZ g 600 iw), ((q 43), aI g 76800 kd), ((q 47), aI g 128 nw8), ((q 50), aI g 600 u2.2.2)] H := hP.sub [0, 1, 2, 3, 4, 5, 6, 7, 8, 9, 10, 11, 12, 13] rfl
                        have hD : va_D A [(h0, .inr (10, mob q rf n mm mb fa fp av ev wi mn tp tc sc nf fd me mp xn mt wh tq u2.1 u2.2.1 ig)), ((q 2), aI g 600 bs), ((q 16), aI g 620 on), ((q 17), aI g 620 tw), ((q 27), aI g 160 fl), ((q 28), aI g 160 pl), ((q 30), aI g 160 ty), ((q 33), aI g 160 lo), ((q 34), aI g 160 bg), ((q 41), aI g 600 dp), ((q 42), aZ g 600 iw), ((q 43), aI g 76800 kd), ((q 47), aI g 128 nw8), ((q 50), aI g 600 u2.2.2)] := hD.sub [0, 1, 2, 3, 4, 5, 6, 7, 8, 9, 10, 11, 12, 13] (by decide) rfl
                        exact ih55 _ (by omega) (nx + 2) 0 (qq + 1) nw8 ls _ _ rfl (by omega) (by omega) hNW8 (lv_sub hl [0, 2, 1, 5, 6] rfl) hP hD hS
                      · first | exact absurd h126 (by decide) | exact absurd (by decide) h126
                    · refine lv_iload_n hx hb d_Mod_firstFrame_106 rfl (lv_at hl 4 rfl) ?_
                      refine lv_iload hx hb d_Mod_firstFrame_107 (lv_at hl 0 rfl) ?_
                      refine lv_iadd hx hb d_Mod_firstFrame_109 ?_
                      refine tw_ri (e2 := nI (nx + 2)) (nI_add nx 2) ?_
                      refine lv_aload_n hx hb d_Mod_firstFrame_110 rfl (lv_at hl 5 rfl) ?_
                      refine va_get (D := g.1) (ci := 10) (v := .ref (q 33)) (C := R_Mod) (T := F_Mod) (N := 61) hx hb hts in_Mod hown hK hP 0 rfl rfl 33 (by decide) (hts _ wd_1283) (fun _ h9 => h9) rfl d_Mod_firstFrame_111 ?_
                      refine lv_iload_n hx hb d_Mod_firstFrame_114 rfl (lv_at hl 6 rfl) ?_
                      refine va_iald hx hb hK hP 7 0 rfl rfl (vp_in_nI (by omega) (by decide)) d_Mod_firstFrame_115 ?_
                      refine tw_ri (e2 := nI o1) (by rw [nI_clamp (by omega)]; exact hlo) ?_
                      refine lv_icmp_gt (tgt := 123) hx hb d_Mod_firstFrame_116 (by decide) (fun h116 => ?_) (fun h116 => ?_)
                      · refine lv_iconst (v := 0) hx hb d_Mod_firstFrame_123 (by decide) ?_
                        refine lv_istore_n hx hb d_Mod_firstFrame_124 rfl hl (by decide) rfl (fun ls hl => ?_)
                        have hl : lv_has ls 7 [(3, .int 0), (6, .int 2), (5, .int (u2.2.2 (qq - 1))), (4, .int (nI qq - 1)), (2, .int (nI nx)), (0, .ref h0), (1, .int (nI mt))] := hl
                        refine lv_iload_n hx hb d_Mod_firstFrame_125 rfl (lv_at hl 0 rfl) ?_
                        refine lv_if_eq (tgt := 163) hx hb d_Mod_firstFrame_126 (by decide) (fun h126 => ?_) (fun h126 => ?_)
                        · refine lv_iload_n hx hb d_Mod_firstFrame_163 rfl (lv_at hl 4 rfl) ?_
                          refine lv_iload hx hb d_Mod_firstFrame_164 (lv_at hl 1 rfl) ?_
                          refine lv_iadd hx hb d_Mod_firstFrame_166 ?_
                          refine tw_ri (e2 := nI (nx + 2)) (nI_add nx 2) ?_
                          refine lv_istore_n hx hb d_Mod_firstFrame_167 rfl hl (by decide) rfl (fun ls hl => ?_)
                          have hl : lv_has ls 7 [(2, .int (nI (nx + 2))), (3, .int 0), (6, .int 2), (5, .int (u2.2.2 (qq - 1))), (4, .int (nI qq - 1)), (0, .ref h0), (1, .int (nI mt))] := hl
                          refine lv_iinc (k := 4) (v := nI (qq + 1) - 1) hx hb d_Mod_firstFrame_168 hl rfl (ff_up qq) (by decide) rfl (fun ls hl => ?_)
                          have hl : lv_has ls 7 [(4, .int (nI (qq + 1) - 1)), (2, .int (nI (nx + 2))), (3, .int 0), (6, .int 2), (5, .int (u2.2.2 (qq - 1))), (0, .ref h0), (1, .int (nI mt))] := hl
                          refine lv_goto (tgt := 55) hx hb d_Mod_firstFrame_171 (by decide) ?_
                          have hP : va_P g.1 classes [(h0, .inr (10, mob q rf n mm mb fa fp av ev wi mn tp tc sc nf fd me mp xn mt wh tq u2.1 u2.2.1 ig)), ((q 2), aI g 600 bs), ((q 16), aI g 620 on), ((q 17), aI g 620 tw), ((q 27), aI g 160 fl), ((q 28), aI g 160 pl), ((q 30), aI g 160 ty), ((q 33), aI g 160 lo), ((q 34), aI g 160 bg), ((q 41), aI g 600 dp), ((q 42), aZ g 600 iw), ((q 43), aI g 76800 kd), ((q 47), aI g 128 nw8), ((q 50), aI g 600 u2.2.2)] H := hP.sub [0, 1, 2, 3, 4, 5, 6, 7, 8, 9, 10, 11, 12, 13] rfl
                          have hD : va_D A [(h0, .inr (10, mob q rf n mm mb fa fp av ev wi mn tp tc sc nf fd me mp xn mt wh tq u2.1 u2.2.1 ig)), ((q 2), aI g 600 bs), ((q 16), aI g 620 on), ((q 17), aI g 620 tw), ((q 27), aI g 160 fl), ((q 28), aI g 160 pl), ((q 30), aI g 160 ty), ((q 33), aI g 160 lo), ((q 34), aI g 160 bg), ((q 41), aI g 600 dp), ((q 42), aZ g 600 iw), ((q 43), aI g 76800 kd), ((q 47), aI g 128 nw8), ((q 50), aI g 600 u2.2.2)] := hD.sub [0, 1, 2, 3, 4, 5, 6, 7, 8, 9, 10, 11, 12, 13] (by decide) rfl
                          exact ih55 _ (by omega) (nx + 2) 0 (qq + 1) nw8 ls _ _ rfl (by omega) (by omega) hNW8 (lv_sub hl [0, 2, 1, 5, 6] rfl) hP hD hS
                        · first | exact absurd h126 (by decide) | exact absurd (by decide) h126
                      · have h116 := tn_nlt h116 (by omega) (by omega)
                        refine lv_iconst (v := 1) hx hb d_Mod_firstFrame_119 (by decide) ?_
                        refine lv_goto (tgt := 124) hx hb d_Mod_firstFrame_120 (by decide) ?_
                        refine lv_istore_n hx hb d_Mod_firstFrame_124 rfl hl (by decide) rfl (fun ls hl => ?_)
                        have hl : lv_has ls 7 [(3, .int 1), (6, .int 2), (5, .int (u2.2.2 (qq - 1))), (4, .int (nI qq - 1)), (2, .int (nI nx)), (0, .ref h0), (1, .int (nI mt))] := hl
                        refine lv_iload_n hx hb d_Mod_firstFrame_125 rfl (lv_at hl 0 rfl) ?_
                        refine lv_if_eq (tgt := 163) hx hb d_Mod_firstFrame_126 (by decide) (fun h126 => ?_) (fun h126 => ?_)
                        · first | exact absurd h126 (by decide) | exact absurd (by decide) h126
                        · refine lv_aload_n hx hb d_Mod_firstFrame_129 rfl (lv_at hl 5 rfl) ?_
                          refine va_get (D := g.1) (ci := 10) (v := .ref (q 47)) (C := R_Mod) (T := F_Mod) (N := 61) hx hb hts in_Mod hown hK hP 0 rfl rfl 47 (by decide) (hts _ wd_1297) (fun _ h9 => h9) rfl d_Mod_firstFrame_130 ?_
                          refine lv_iload_n hx hb d_Mod_firstFrame_133 rfl (lv_at hl 4 rfl) ?_
                          refine lv_iload hx hb d_Mod_firstFrame_134 (lv_at hl 2 rfl) ?_
                          refine lv_bipush (v := 9) hx hb d_Mod_firstFrame_136 (by decide) ?_
                          refine lv_icmp_lt (tgt := 145) hx hb d_Mod_firstFrame_138 (by decide) (fun h138 => ?_) (fun h138 => ?_)
                          · refine lv_iload hx hb d_Mod_firstFrame_145 (lv_at hl 2 rfl) ?_
                            refine va_iast hx hb hK hP hD hS 12 0 rfl rfl (vp_in_nI (by omega) (by decide)) d_Mod_firstFrame_147 (fun H locs hP hD hS => ?_)
                            have hP : va_P g.1 classes [(h0, .inr (10, mob q rf n mm mb fa fp av ev wi mn tp tc sc nf fd me mp xn mt wh tq u2.1 u2.2.1 ig)), ((q 2), aI g 600 bs), ((q 16), aI g 620 on), ((q 17), aI g 620 tw), ((q 27), aI g 160 fl), ((q 28), aI g 160 pl), ((q 30), aI g 160 ty), ((q 33), aI g 160 lo), ((q 34), aI g 160 bg), ((q 41), aI g 600 dp), ((q 42), aZ g 600 iw), ((q 43), aI g 76800 kd), ((q 47), aI g 128 (upd nw8 (nI nx).toNatClampNeg (u2.2.2 (qq - 1)))), ((q 50), aI g 600 u2.2.2)] H := hP
                            have hD : va_D A [(h0, .inr (10, mob q rf n mm mb fa fp av ev wi mn tp tc sc nf fd me mp xn mt wh tq u2.1 u2.2.1 ig)), ((q 2), aI g 600 bs), ((q 16), aI g 620 on), ((q 17), aI g 620 tw), ((q 27), aI g 160 fl), ((q 28), aI g 160 pl), ((q 30), aI g 160 ty), ((q 33), aI g 160 lo), ((q 34), aI g 160 bg), ((q 41), aI g 600 dp), ((q 42), aZ g 600 iw), ((q 43), aI g 76800 kd), ((q 47), aI g 128 (upd nw8 (nI nx).toNatClampNeg (u2.2.2 (qq - 1)))), ((q 50), aI g 600 u2.2.2)] := hD
                            have e9 : upd nw8 (nI nx).toNatClampNeg (u2.2.2 (qq - 1)) = upd nw8 nx (u2.2.2 (qq - 1)) := by rw [nI_clamp (by omega)]
                            rw [e9] at hP hD
                            refine lv_iload hx hb d_Mod_firstFrame_148 (lv_at hl 2 rfl) ?_
                            refine lv_iconst (v := 2) hx hb d_Mod_firstFrame_150 (by decide) ?_
                            refine lv_icmp_ne (tgt := 163) hx hb d_Mod_firstFrame_151 (by decide) (fun h151 => ?_) (fun h151 => ?_)
                            · exact absurd h85 h151
                            · refine lv_aload_n hx hb d_Mod_firstFrame_154 rfl (lv_at hl 5 rfl) ?_
                              refine va_get (D := g.1) (ci := 10) (v := .ref (q 47)) (C := R_Mod) (T := F_Mod) (N := 61) hx hb hts in_Mod hown hK hP 0 rfl rfl 47 (by decide) (hts _ wd_1297) (fun _ h9 => h9) rfl d_Mod_firstFrame_155 ?_
                              refine lv_iload_n hx hb d_Mod_firstFrame_158 rfl (lv_at hl 4 rfl) ?_
                              refine lv_iconst (v := 1) hx hb d_Mod_firstFrame_159 (by decide) ?_
                              refine lv_iadd hx hb d_Mod_firstFrame_160 ?_
                              refine tw_ri (e2 := nI (nx + 1)) (nI_add nx 1) ?_
                              refine lv_iconst (v := 3) hx hb d_Mod_firstFrame_161 (by decide) ?_
                              refine va_iast hx hb hK hP hD hS 12 0 rfl rfl (vp_in_nI (by omega) (by decide)) d_Mod_firstFrame_162 (fun H locs hP hD hS => ?_)
                              have hP : va_P g.1 classes [(h0, .inr (10, mob q rf n mm mb fa fp av ev wi mn tp tc sc nf fd me mp xn mt wh tq u2.1 u2.2.1 ig)), ((q 2), aI g 600 bs), ((q 16), aI g 620 on), ((q 17), aI g 620 tw), ((q 27), aI g 160 fl), ((q 28), aI g 160 pl), ((q 30), aI g 160 ty), ((q 33), aI g 160 lo), ((q 34), aI g 160 bg), ((q 41), aI g 600 dp), ((q 42), aZ g 600 iw), ((q 43), aI g 76800 kd), ((q 47), aI g 128 (upd (upd nw8 nx (u2.2.2 (qq - 1))) (nI (nx + 1)).toNatClampNeg 3)), ((q 50), aI g 600 u2.2.2)] H := hP
                              have hD : va_D A [(h0, .inr (10, mob q rf n mm mb fa fp av ev wi mn tp tc sc nf fd me mp xn mt wh tq u2.1 u2.2.1 ig)), ((q 2), aI g 600 bs), ((q 16), aI g 620 on), ((q 17), aI g 620 tw), ((q 27), aI g 160 fl), ((q 28), aI g 160 pl), ((q 30), aI g 160 ty), ((q 33), aI g 160 lo), ((q 34), aI g 160 bg), ((q 41), aI g 600 dp), ((q 42), aZ g 600 iw), ((q 43), aI g 76800 kd), ((q 47), aI g 128 (upd (upd nw8 nx (u2.2.2 (qq - 1))) (nI (nx + 1)).toNatClampNeg 3)), ((q 50), aI g 600 u2.2.2)] := hD
                              have e9 : upd (upd nw8 nx (u2.2.2 (qq - 1))) (nI (nx + 1)).toNatClampNeg 3 = upd (upd nw8 nx (u2.2.2 (qq - 1))) (nx + 1) 3 := by rw [nI_clamp (by omega)]
                              rw [e9] at hP hD
                              refine lv_iload_n hx hb d_Mod_firstFrame_163 rfl (lv_at hl 4 rfl) ?_
                              refine lv_iload hx hb d_Mod_firstFrame_164 (lv_at hl 1 rfl) ?_
                              refine lv_iadd hx hb d_Mod_firstFrame_166 ?_
                              refine tw_ri (e2 := nI (nx + 2)) (nI_add nx 2) ?_
                              refine lv_istore_n hx hb d_Mod_firstFrame_167 rfl hl (by decide) rfl (fun ls hl => ?_)
                              have hl : lv_has ls 7 [(2, .int (nI (nx + 2))), (3, .int 1), (6, .int 2), (5, .int (u2.2.2 (qq - 1))), (4, .int (nI qq - 1)), (0, .ref h0), (1, .int (nI mt))] := hl
                              refine lv_iinc (k := 4) (v := nI (qq + 1) - 1) hx hb d_Mod_firstFrame_168 hl rfl (ff_up qq) (by decide) rfl (fun ls hl => ?_)
                              have hl : lv_has ls 7 [(4, .int (nI (qq + 1) - 1)), (2, .int (nI (nx + 2))), (3, .int 1), (6, .int 2), (5, .int (u2.2.2 (qq - 1))), (0, .ref h0), (1, .int (nI mt))] := hl
                              refine lv_goto (tgt := 55) hx hb d_Mod_firstFrame_171 (by decide) ?_
                              have hP : va_P g.1 classes [(h0, .inr (10, mob q rf n mm mb fa fp av ev wi mn tp tc sc nf fd me mp xn mt wh tq u2.1 u2.2.1 ig)), ((q 2), aI g 600 bs), ((q 16), aI g 620 on), ((q 17), aI g 620 tw), ((q 27), aI g 160 fl), ((q 28), aI g 160 pl), ((q 30), aI g 160 ty), ((q 33), aI g 160 lo), ((q 34), aI g 160 bg), ((q 41), aI g 600 dp), ((q 42), aZ g 600 iw), ((q 43), aI g 76800 kd), ((q 47), aI g 128 (upd (upd nw8 nx (u2.2.2 (qq - 1))) (nx + 1) 3)), ((q 50), aI g 600 u2.2.2)] H := hP.sub [0, 1, 2, 3, 4, 5, 6, 7, 8, 9, 10, 11, 12, 13] rfl
                              have hD : va_D A [(h0, .inr (10, mob q rf n mm mb fa fp av ev wi mn tp tc sc nf fd me mp xn mt wh tq u2.1 u2.2.1 ig)), ((q 2), aI g 600 bs), ((q 16), aI g 620 on), ((q 17), aI g 620 tw), ((q 27), aI g 160 fl), ((q 28), aI g 160 pl), ((q 30), aI g 160 ty), ((q 33), aI g 160 lo), ((q 34), aI g 160 bg), ((q 41), aI g 600 dp), ((q 42), aZ g 600 iw), ((q 43), aI g 76800 kd), ((q 47), aI g 128 (upd (upd nw8 nx (u2.2.2 (qq - 1))) (nx + 1) 3)), ((q 50), aI g 600 u2.2.2)] := hD.sub [0, 1, 2, 3, 4, 5, 6, 7, 8, 9, 10, 11, 12, 13] (by decide) rfl
                              exact ih55 _ (by omega) (nx + 2) 1 (qq + 1) (upd (upd nw8 nx (u2.2.2 (qq - 1))) (nx + 1) 3) ls _ _ rfl (by omega) (by omega) ((hNW8.put (kn3 hkk)).put2 (by omega) (by omega)) (lv_sub hl [0, 2, 1, 5, 6] rfl) hP hD hS
                          · refine lv_iconst (v := 0) hx hb d_Mod_firstFrame_141 (by decide) ?_
                            refine lv_goto (tgt := 147) hx hb d_Mod_firstFrame_142 (by decide) ?_
                            refine va_iast hx hb hK hP hD hS 12 0 rfl rfl (vp_in_nI (by omega) (by decide)) d_Mod_firstFrame_147 (fun H locs hP hD hS => ?_)
                            have hP : va_P g.1 classes [(h0, .inr (10, mob q rf n mm mb fa fp av ev wi mn tp tc sc nf fd me mp xn mt wh tq u2.1 u2.2.1 ig)), ((q 2), aI g 600 bs), ((q 16), aI g 620 on), ((q 17), aI g 620 tw), ((q 27), aI g 160 fl), ((q 28), aI g 160 pl), ((q 30), aI g 160 ty), ((q 33), aI g 160 lo), ((q 34), aI g 160 bg), ((q 41), aI g 600 dp), ((q 42), aZ g 600 iw), ((q 43), aI g 76800 kd), ((q 47), aI g 128 (upd nw8 (nI nx).toNatClampNeg 0)), ((q 50), aI g 600 u2.2.2)] H := hP
                            have hD : va_D A [(h0, .inr (10, mob q rf n mm mb fa fp av ev wi mn tp tc sc nf fd me mp xn mt wh tq u2.1 u2.2.1 ig)), ((q 2), aI g 600 bs), ((q 16), aI g 620 on), ((q 17), aI g 620 tw), ((q 27), aI g 160 fl), ((q 28), aI g 160 pl), ((q 30), aI g 160 ty), ((q 33), aI g 160 lo), ((q 34), aI g 160 bg), ((q 41), aI g 600 dp), ((q 42), aZ g 600 iw), ((q 43), aI g 76800 kd), ((q 47), aI g 128 (upd nw8 (nI nx).toNatClampNeg 0)), ((q 50), aI g 600 u2.2.2)] := hD
                            have e9 : upd nw8 (nI nx).toNatClampNeg 0 = upd nw8 nx 0 := by rw [nI_clamp (by omega)]
                            rw [e9] at hP hD
                            refine lv_iload hx hb d_Mod_firstFrame_148 (lv_at hl 2 rfl) ?_
                            refine lv_iconst (v := 2) hx hb d_Mod_firstFrame_150 (by decide) ?_
                            refine lv_icmp_ne (tgt := 163) hx hb d_Mod_firstFrame_151 (by decide) (fun h151 => ?_) (fun h151 => ?_)
                            · exact absurd h85 h151
                            · refine lv_aload_n hx hb d_Mod_firstFrame_154 rfl (lv_at hl 5 rfl) ?_
                              refine va_get (D := g.1) (ci := 10) (v := .ref (q 47)) (C := R_Mod) (T := F_Mod) (N := 61) hx hb hts in_Mod hown hK hP 0 rfl rfl 47 (by decide) (hts _ wd_1297) (fun _ h9 => h9) rfl d_Mod_firstFrame_155 ?_
                              refine lv_iload_n hx hb d_Mod_firstFrame_158 rfl (lv_at hl 4 rfl) ?_
                              refine lv_iconst (v := 1) hx hb d_Mod_firstFrame_159 (by decide) ?_
                              refine lv_iadd hx hb d_Mod_firstFrame_160 ?_
                              refine tw_ri (e2 := nI (nx + 1)) (nI_add nx 1) ?_
                              refine lv_iconst (v := 3) hx hb d_Mod_firstFrame_161 (by decide) ?_
                              refine va_iast hx hb hK hP hD hS 12 0 rfl rfl (vp_in_nI (by omega) (by decide)) d_Mod_firstFrame_162 (fun H locs hP hD hS => ?_)
                              have hP : va_P g.1 classes [(h0, .inr (10, mob q rf n mm mb fa fp av ev wi mn tp tc sc nf fd me mp xn mt wh tq u2.1 u2.2.1 ig)), ((q 2), aI g 600 bs), ((q 16), aI g 620 on), ((q 17), aI g 620 tw), ((q 27), aI g 160 fl), ((q 28), aI g 160 pl), ((q 30), aI g 160 ty), ((q 33), aI g 160 lo), ((q 34), aI g 160 bg), ((q 41), aI g 600 dp), ((q 42), aZ g 600 iw), ((q 43), aI g 76800 kd), ((q 47), aI g 128 (upd (upd nw8 nx 0) (nI (nx + 1)).toNatClampNeg 3)), ((q 50), aI g 600 u2.2.2)] H := hP
                              have hD : va_D A [(h0, .inr (10, mob q rf n mm mb fa fp av ev wi mn tp tc sc nf fd me mp xn mt wh tq u2.1 u2.2.1 ig)), ((q 2), aI g 600 bs), ((q 16), aI g 620 on), ((q 17), aI g 620 tw), ((q 27), aI g 160 fl), ((q 28), aI g 160 pl), ((q 30), aI g 160 ty), ((q 33), aI g 160 lo), ((q 34), aI g 160 bg), ((q 41), aI g 600 dp), ((q 42), aZ g 600 iw), ((q 43), aI g 76800 kd), ((q 47), aI g 128 (upd (upd nw8 nx 0) (nI (nx + 1)).toNatClampNeg 3)), ((q 50), aI g 600 u2.2.2)] := hD
                              have e9 : upd (upd nw8 nx 0) (nI (nx + 1)).toNatClampNeg 3 = upd (upd nw8 nx 0) (nx + 1) 3 := by rw [nI_clamp (by omega)]
                              rw [e9] at hP hD
                              refine lv_iload_n hx hb d_Mod_firstFrame_163 rfl (lv_at hl 4 rfl) ?_
                              refine lv_iload hx hb d_Mod_firstFrame_164 (lv_at hl 1 rfl) ?_
                              refine lv_iadd hx hb d_Mod_firstFrame_166 ?_
                              refine tw_ri (e2 := nI (nx + 2)) (nI_add nx 2) ?_
                              refine lv_istore_n hx hb d_Mod_firstFrame_167 rfl hl (by decide) rfl (fun ls hl => ?_)
                              have hl : lv_has ls 7 [(2, .int (nI (nx + 2))), (3, .int 1), (6, .int 2), (5, .int (u2.2.2 (qq - 1))), (4, .int (nI qq - 1)), (0, .ref h0), (1, .int (nI mt))] := hl
                              refine lv_iinc (k := 4) (v := nI (qq + 1) - 1) hx hb d_Mod_firstFrame_168 hl rfl (ff_up qq) (by decide) rfl (fun ls hl => ?_)
                              have hl : lv_has ls 7 [(4, .int (nI (qq + 1) - 1)), (2, .int (nI (nx + 2))), (3, .int 1), (6, .int 2), (5, .int (u2.2.2 (qq - 1))), (0, .ref h0), (1, .int (nI mt))] := hl
                              refine lv_goto (tgt := 55) hx hb d_Mod_firstFrame_171 (by decide) ?_
                              have hP : va_P g.1 classes [(h0, .inr (10, mob q rf n mm mb fa fp av ev wi mn tp tc sc nf fd me mp xn mt wh tq u2.1 u2.2.1 ig)), ((q 2), aI g 600 bs), ((q 16), aI g 620 on), ((q 17), aI g 620 tw), ((q 27), aI g 160 fl), ((q 28), aI g 160 pl), ((q 30), aI g 160 ty), ((q 33), aI g 160 lo), ((q 34), aI g 160 bg), ((q 41), aI g 600 dp), ((q 42), aZ g 600 iw), ((q 43), aI g 76800 kd), ((q 47), aI g 128 (upd (upd nw8 nx 0) (nx + 1) 3)), ((q 50), aI g 600 u2.2.2)] H := hP.sub [0, 1, 2, 3, 4, 5, 6, 7, 8, 9, 10, 11, 12, 13] rfl
                              have hD : va_D A [(h0, .inr (10, mob q rf n mm mb fa fp av ev wi mn tp tc sc nf fd me mp xn mt wh tq u2.1 u2.2.1 ig)), ((q 2), aI g 600 bs), ((q 16), aI g 620 on), ((q 17), aI g 620 tw), ((q 27), aI g 160 fl), ((q 28), aI g 160 pl), ((q 30), aI g 160 ty), ((q 33), aI g 160 lo), ((q 34), aI g 160 bg), ((q 41), aI g 600 dp), ((q 42), aZ g 600 iw), ((q 43), aI g 76800 kd), ((q 47), aI g 128 (upd (upd nw8 nx 0) (nx + 1) 3)), ((q 50), aI g 600 u2.2.2)] := hD.sub [0, 1, 2, 3, 4, 5, 6, 7, 8, 9, 10, 11, 12, 13] (by decide) rfl
                              exact ih55 _ (by omega) (nx + 2) 1 (qq + 1) (upd (upd nw8 nx 0) (nx + 1) 3) ls _ _ rfl (by omega) (by omega) ((hNW8.put (by decide)).put2 (by omega) (by omega)) (lv_sub hl [0, 2, 1, 5, 6] rfl) hP hD hS
                  · refine lv_iload hx hb d_Mod_firstFrame_88 (lv_at hl 0 rfl) ?_
                    refine lv_bipush (v := 9) hx hb d_Mod_firstFrame_90 (by decide) ?_
                    refine lv_icmp_le (tgt := 99) hx hb d_Mod_firstFrame_92 (by decide) (fun h92 => ?_) (fun h92 => ?_)
                    · refine lv_iconst (v := 1) hx hb d_Mod_firstFrame_99 (by decide) ?_
                      refine lv_istore hx hb d_Mod_firstFrame_100 hl (by decide) rfl (fun ls hl => ?_)
                      have hl : lv_has ls 7 [(6, .int 1), (5, .int (u2.2.2 (qq - 1))), (4, .int (nI qq - 1)), (3, .int ft), (2, .int (nI nx)), (0, .ref h0), (1, .int (nI mt))] := hl
                      refine lv_iload_n hx hb d_Mod_firstFrame_102 rfl (lv_at hl 3 rfl) ?_
                      refine lv_if_eq (tgt := 123) hx hb d_Mod_firstFrame_103 (by decide) (fun h103 => ?_) (fun h103 => ?_)
                      · refine lv_iconst (v := 0) hx hb d_Mod_firstFrame_123 (by decide) ?_
                        refine lv_istore_n hx hb d_Mod_firstFrame_124 rfl hl (by decide) rfl (fun ls hl => ?_)
                        have hl : lv_has ls 7 [(3, .int 0), (6, .int 1), (5, .int (u2.2.2 (qq - 1))), (4, .int (nI qq - 1)), (2, .int (nI nx)), (0, .ref h0), (1, .int (nI mt))] := hl
                        refine lv_iload_n hx hb d_Mod_firstFrame_125 rfl (lv_at hl 0 rfl) ?_
                        refine lv_if_eq (tgt := 163) hx hb d_Mod_firstFrame_126 (by decide) (fun h126 => ?_) (fun h126 => ?_)
                        · refine lv_iload_n hx hb d_Mod_firstFrame_163 rfl (lv_at hl 4 rfl) ?_
                          refine lv_iload hx hb d_Mod_firstFrame_164 (lv_at hl 1 rfl) ?_
                          refine lv_iadd hx hb d_Mod_firstFrame_166 ?_
                          refine tw_ri (e2 := nI (nx + 1)) (nI_add nx 1) ?_
                          refine lv_istore_n hx hb d_Mod_firstFrame_167 rfl hl (by decide) rfl (fun ls hl => ?_)
                          have hl : lv_has ls 7 [(2, .int (nI (nx + 1))), (3, .int 0), (6, .int 1), (5, .int (u2.2.2 (qq - 1))), (4, .int (nI qq - 1)), (0, .ref h0), (1, .int (nI mt))] := hl
                          refine lv_iinc (k := 4) (v := nI (qq + 1) - 1) hx hb d_Mod_firstFrame_168 hl rfl (ff_up qq) (by decide) rfl (fun ls hl => ?_)
                          have hl : lv_has ls 7 [(4, .int (nI (qq + 1) - 1)), (2, .int (nI (nx + 1))), (3, .int 0), (6, .int 1), (5, .int (u2.2.2 (qq - 1))), (0, .ref h0), (1, .int (nI mt))] := hl
                          refine lv_goto (tgt := 55) hx hb d_Mod_firstFrame_171 (by decide) ?_
                          have hP : va_P g.1 classes [(h0, .inr (10, mob q rf n mm mb fa fp av ev wi mn tp tc sc nf fd me mp xn mt wh tq u2.1 u2.2.1 ig)), ((q 2), aI g 600 bs), ((q 16), aI g 620 on), ((q 17), aI g 620 tw), ((q 27), aI g 160 fl), ((q 28), aI g 160 pl), ((q 30), aI g 160 ty), ((q 33), aI g 160 lo), ((q 34), aI g 160 bg), ((q 41), aI g 600 dp), ((q 42), aZ g 600 iw), ((q 43), aI g 76800 kd), ((q 47), aI g 128 nw8), ((q 50), aI g 600 u2.2.2)] H := hP.sub [0, 1, 2, 3, 4, 5, 6, 7, 8, 9, 10, 11, 12, 13] rfl
                          have hD : va_D A [(h0, .inr (10, mob q rf n mm mb fa fp av ev wi mn tp tc sc nf fd me mp xn mt wh tq u2.1 u2.2.1 ig)), ((q 2), aI g 600 bs), ((q 16), aI g 620 on), ((q 17), aI g 620 tw), ((q 27), aI g 160 fl), ((q 28), aI g 160 pl), ((q 30), aI g 160 ty), ((q 33), aI g 160 lo), ((q 34), aI g 160 bg), ((q 41), aI g 600 dp), ((q 42), aZ g 600 iw), ((q 43), aI g 76800 kd), ((q 47), aI g 128 nw8), ((q 50), aI g 600 u2.2.2)] := hD.sub [0, 1, 2, 3, 4, 5, 6, 7, 8, 9, 10, 11, 12, 13] (by decide) rfl
                          exact ih55 _ (by omega) (nx + 1) 0 (qq + 1) nw8 ls _ _ rfl (by omega) (by omega) hNW8 (lv_sub hl [0, 2, 1, 5, 6] rfl) hP hD hS
                        · first | exact absurd h126 (by decide) | exact absurd (by decide) h126
                      · refine lv_iload_n hx hb d_Mod_firstFrame_106 rfl (lv_at hl 4 rfl) ?_
                        refine lv_iload hx hb d_Mod_firstFrame_107 (lv_at hl 0 rfl) ?_
                        refine lv_iadd hx hb d_Mod_firstFrame_109 ?_
                        refine tw_ri (e2 := nI (nx + 1)) (nI_add nx 1) ?_
                        refine lv_aload_n hx hb d_Mod_firstFrame_110 rfl (lv_at hl 5 rfl) ?_
                        refine va_get (D := g.1) (ci := 10) (v := .ref (q 33)) (C := R_Mod) (T := F_Mod) (N := 61) hx hb hts in_Mod hown hK hP 0 rfl rfl 33 (by decide) (hts _ wd_1283) (fun _ h9 => h9) rfl d_Mod_firstFrame_111 ?_
                        refine lv_iload_n hx hb d_Mod_firstFrame_114 rfl (lv_at hl 6 rfl) ?_
                        refine va_iald hx hb hK hP 7 0 rfl rfl (vp_in_nI (by omega) (by decide)) d_Mod_firstFrame_115 ?_
                        refine tw_ri (e2 := nI o1) (by rw [nI_clamp (by omega)]; exact hlo) ?_
                        refine lv_icmp_gt (tgt := 123) hx hb d_Mod_firstFrame_116 (by decide) (fun h116 => ?_) (fun h116 => ?_)
                        · refine lv_iconst (v := 0) hx hb d_Mod_firstFrame_123 (by decide) ?_
                          refine lv_istore_n hx hb d_Mod_firstFrame_124 rfl hl (by decide) rfl (fun ls hl => ?_)
                          have hl : lv_has ls 7 [(3, .int 0), (6, .int 1), (5, .int (u2.2.2 (qq - 1))), (4, .int (nI qq - 1)), (2, .int (nI nx)), (0, .ref h0), (1, .int (nI mt))] := hl
                          refine lv_iload_n hx hb d_Mod_firstFrame_125 rfl (lv_at hl 0 rfl) ?_
                          refine lv_if_eq (tgt := 163) hx hb d_Mod_firstFrame_126 (by decide) (fun h126 => ?_) (fun h126 => ?_)
                          · refine lv_iload_n hx hb d_Mod_firstFrame_163 rfl (lv_at hl 4 rfl) ?_
                            refine lv_iload hx hb d_Mod_firstFrame_164 (lv_at hl 1 rfl) ?_
                            refine lv_iadd hx hb d_Mod_firstFrame_166 ?_
                            refine tw_ri (e2 := nI (nx + 1)) (nI_add nx 1) ?_
                            refine lv_istore_n hx hb d_Mod_firstFrame_167 rfl hl (by decide) rfl (fun ls hl => ?_)
                            have hl : lv_has ls 7 [(2, .int (nI (nx + 1))), (3, .int 0), (6, .int 1), (5, .int (u2.2.2 (qq - 1))), (4, .int (nI qq - 1)), (0, .ref h0), (1, .int (nI mt))] := hl
                            refine lv_iinc (k := 4) (v := nI (qq + 1) - 1) hx hb d_Mod_firstFrame_168 hl rfl (ff_up qq) (by decide) rfl (fun ls hl => ?_)
                            have hl : lv_has ls 7 [(4, .int (nI (qq + 1) - 1)), (2, .int (nI (nx + 1))), (3, .int 0), (6, .int 1), (5, .int (u2.2.2 (qq - 1))), (0, .ref h0), (1, .int (nI mt))] := hl
                            refine lv_goto (tgt := 55) hx hb d_Mod_firstFrame_171 (by decide) ?_
                            have hP : va_P g.1 classes [(h0, .inr (10, mob q rf n mm mb fa fp av ev wi mn tp tc sc nf fd me mp xn mt wh tq u2.1 u2.2.1 ig)), ((q 2), aI g 600 bs), ((q 16), aI g 620 on), ((q 17), aI g 620 tw), ((q 27), aI g 160 fl), ((q 28), aI g 160 pl), ((q 30), aI g 160 ty), ((q 33), aI g 160 lo), ((q 34), aI g 160 bg), ((q 41), aI g 600 dp), ((q 42), aZ g 600 iw), ((q 43), aI g 76800 kd), ((q 47), aI g 128 nw8), ((q 50), aI g 600 u2.2.2)] H := hP.sub [0, 1, 2, 3, 4, 5, 6, 7, 8, 9, 10, 11, 12, 13] rfl
                            have hD : va_D A [(h0, .inr (10, mob q rf n mm mb fa fp av ev wi mn tp tc sc nf fd me mp xn mt wh tq u2.1 u2.2.1 ig)), ((q 2), aI g 600 bs), ((q 16), aI g 620 on), ((q 17), aI g 620 tw), ((q 27), aI g 160 fl), ((q 28), aI g 160 pl), ((q 30), aI g 160 ty), ((q 33), aI g 160 lo), ((q 34), aI g 160 bg), ((q 41), aI g 600 dp), ((q 42), aZ g 600 iw), ((q 43), aI g 76800 kd), ((q 47), aI g 128 nw8), ((q 50), aI g 600 u2.2.2)] := hD.sub [0, 1, 2, 3, 4, 5, 6, 7, 8, 9, 10, 11, 12, 13] (by decide) rfl
                            exact ih55 _ (by omega) (nx + 1) 0 (qq + 1) nw8 ls _ _ rfl (by omega) (by omega) hNW8 (lv_sub hl [0, 2, 1, 5, 6] rfl) hP hD hS
                          · first | exact absurd h126 (by decide) | exact absurd (by decide) h126
                        · have h116 := tn_nlt h116 (by omega) (by omega)
                          refine lv_iconst (v := 1) hx hb d_Mod_firstFrame_119 (by decide) ?_
                          refine lv_goto (tgt := 124) hx hb d_Mod_firstFrame_120 (by decide) ?_
                          refine lv_istore_n hx hb d_Mod_firstFrame_124 rfl hl (by decide) rfl (fun ls hl => ?_)
                          have hl : lv_has ls 7 [(3, .int 1), (6, .int 1), (5, .int (u2.2.2 (qq - 1))), (4, .int (nI qq - 1)), (2, .int (nI nx)), (0, .ref h0), (1, .int (nI mt))] := hl
                          refine lv_iload_n hx hb d_Mod_firstFrame_125 rfl (lv_at hl 0 rfl) ?_
                          refine lv_if_eq (tgt := 163) hx hb d_Mod_firstFrame_126 (by decide) (fun h126 => ?_) (fun h126 => ?_)
                          · first | exact absurd h126 (by decide) | exact absurd (by decide) h126
                          · refine lv_aload_n hx hb d_Mod_firstFrame_129 rfl (lv_at hl 5 rfl) ?_
                            refine va_get (D := g.1) (ci := 10) (v := .ref (q 47)) (C := R_Mod) (T := F_Mod) (N := 61) hx hb hts in_Mod hown hK hP 0 rfl rfl 47 (by decide) (hts _ wd_1297) (fun _ h9 => h9) rfl d_Mod_firstFrame_130 ?_
                            refine lv_iload_n hx hb d_Mod_firstFrame_133 rfl (lv_at hl 4 rfl) ?_
                            refine lv_iload hx hb d_Mod_firstFrame_134 (lv_at hl 2 rfl) ?_
                            refine lv_bipush (v := 9) hx hb d_Mod_firstFrame_136 (by decide) ?_
                            refine lv_icmp_lt (tgt := 145) hx hb d_Mod_firstFrame_138 (by decide) (fun h138 => ?_) (fun h138 => ?_)
                            · refine lv_iload hx hb d_Mod_firstFrame_145 (lv_at hl 2 rfl) ?_
                              refine va_iast hx hb hK hP hD hS 12 0 rfl rfl (vp_in_nI (by omega) (by decide)) d_Mod_firstFrame_147 (fun H locs hP hD hS => ?_)
                              have hP : va_P g.1 classes [(h0, .inr (10, mob q rf n mm mb fa fp av ev wi mn tp tc sc nf fd me mp xn mt wh tq u2.1 u2.2.1 ig)), ((q 2), aI g 600 bs), ((q 16), aI g 620 on), ((q 17), aI g 620 tw), ((q 27), aI g 160 fl), ((q 28), aI g 160 pl), ((q 30), aI g 160 ty), ((q 33), aI g 160 lo), ((q 34), aI g 160 bg), ((q 41), aI g 600 dp), ((q 42), aZ g 600 iw), ((q 43), aI g 76800 kd), ((q 47), aI g 128 (upd nw8 (nI nx).toNatClampNeg (u2.2.2 (qq - 1)))), ((q 50), aI g 600 u2.2.2)] H := hP
                              have hD : va_D A [(h0, .inr (10, mob q rf n mm mb fa fp av ev wi mn tp tc sc nf fd me mp xn mt wh tq u2.1 u2.2.1 ig)), ((q 2), aI g 600 bs), ((q 16), aI g 620 on), ((q 17), aI g 620 tw), ((q 27), aI g 160 fl), ((q 28), aI g 160 pl), ((q 30), aI g 160 ty), ((q 33), aI g 160 lo), ((q 34), aI g 160 bg), ((q 41), aI g 600 dp), ((q 42), aZ g 600 iw), ((q 43), aI g 76800 kd), ((q 47), aI g 128 (upd nw8 (nI nx).toNatClampNeg (u2.2.2 (qq - 1)))), ((q 50), aI g 600 u2.2.2)] := hD
                              have e9 : upd nw8 (nI nx).toNatClampNeg (u2.2.2 (qq - 1)) = upd nw8 nx (u2.2.2 (qq - 1)) := by rw [nI_clamp (by omega)]
                              rw [e9] at hP hD
                              refine lv_iload hx hb d_Mod_firstFrame_148 (lv_at hl 2 rfl) ?_
                              refine lv_iconst (v := 2) hx hb d_Mod_firstFrame_150 (by decide) ?_
                              refine lv_icmp_ne (tgt := 163) hx hb d_Mod_firstFrame_151 (by decide) (fun h151 => ?_) (fun h151 => ?_)
                              · refine lv_iload_n hx hb d_Mod_firstFrame_163 rfl (lv_at hl 4 rfl) ?_
                                refine lv_iload hx hb d_Mod_firstFrame_164 (lv_at hl 1 rfl) ?_
                                refine lv_iadd hx hb d_Mod_firstFrame_166 ?_
                                refine tw_ri (e2 := nI (nx + 1)) (nI_add nx 1) ?_
                                refine lv_istore_n hx hb d_Mod_firstFrame_167 rfl hl (by decide) rfl (fun ls hl => ?_)
                                have hl : lv_has ls 7 [(2, .int (nI (nx + 1))), (3, .int 1), (6, .int 1), (5, .int (u2.2.2 (qq - 1))), (4, .int (nI qq - 1)), (0, .ref h0), (1, .int (nI mt))] := hl
                                refine lv_iinc (k := 4) (v := nI (qq + 1) - 1) hx hb d_Mod_firstFrame_168 hl rfl (ff_up qq) (by decide) rfl (fun ls hl => ?_)
                                have hl : lv_has ls 7 [(4, .int (nI (qq + 1) - 1)), (2, .int (nI (nx + 1))), (3, .int 1), (6, .int 1), (5, .int (u2.2.2 (qq - 1))), (0, .ref h0), (1, .int (nI mt))] := hl
                                refine lv_goto (tgt := 55) hx hb d_Mod_firstFrame_171 (by decide) ?_
                                have hP : va_P g.1 classes [(h0, .inr (10, mob q rf n mm mb fa fp av ev wi mn tp tc sc nf fd me mp xn mt wh tq u2.1 u2.2.1 ig)), ((q 2), aI g 600 bs), ((q 16), aI g 620 on), ((q 17), aI g 620 tw), ((q 27), aI g 160 fl), ((q 28), aI g 160 pl), ((q 30), aI g 160 ty), ((q 33), aI g 160 lo), ((q 34), aI g 160 bg), ((q 41), aI g 600 dp), ((q 42), aZ g 600 iw), ((q 43), aI g 76800 kd), ((q 47), aI g 128 (upd nw8 nx (u2.2.2 (qq - 1)))), ((q 50), aI g 600 u2.2.2)] H := hP.sub [0, 1, 2, 3, 4, 5, 6, 7, 8, 9, 10, 11, 12, 13] rfl
                                have hD : va_D A [(h0, .inr (10, mob q rf n mm mb fa fp av ev wi mn tp tc sc nf fd me mp xn mt wh tq u2.1 u2.2.1 ig)), ((q 2), aI g 600 bs), ((q 16), aI g 620 on), ((q 17), aI g 620 tw), ((q 27), aI g 160 fl), ((q 28), aI g 160 pl), ((q 30), aI g 160 ty), ((q 33), aI g 160 lo), ((q 34), aI g 160 bg), ((q 41), aI g 600 dp), ((q 42), aZ g 600 iw), ((q 43), aI g 76800 kd), ((q 47), aI g 128 (upd nw8 nx (u2.2.2 (qq - 1)))), ((q 50), aI g 600 u2.2.2)] := hD.sub [0, 1, 2, 3, 4, 5, 6, 7, 8, 9, 10, 11, 12, 13] (by decide) rfl
                                exact ih55 _ (by omega) (nx + 1) 1 (qq + 1) (upd nw8 nx (u2.2.2 (qq - 1))) ls _ _ rfl (by omega) (by omega) (hNW8.put (kn3 hkk)) (lv_sub hl [0, 2, 1, 5, 6] rfl) hP hD hS
                              · exact absurd h151 h85
                            · refine lv_iconst (v := 0) hx hb d_Mod_firstFrame_141 (by decide) ?_
                              refine lv_goto (tgt := 147) hx hb d_Mod_firstFrame_142 (by decide) ?_
                              refine va_iast hx hb hK hP hD hS 12 0 rfl rfl (vp_in_nI (by omega) (by decide)) d_Mod_firstFrame_147 (fun H locs hP hD hS => ?_)
                              have hP : va_P g.1 classes [(h0, .inr (10, mob q rf n mm mb fa fp av ev wi mn tp tc sc nf fd me mp xn mt wh tq u2.1 u2.2.1 ig)), ((q 2), aI g 600 bs), ((q 16), aI g 620 on), ((q 17), aI g 620 tw), ((q 27), aI g 160 fl), ((q 28), aI g 160 pl), ((q 30), aI g 160 ty), ((q 33), aI g 160 lo), ((q 34), aI g 160 bg), ((q 41), aI g 600 dp), ((q 42), aZ g 600 iw), ((q 43), aI g 76800 kd), ((q 47), aI g 128 (upd nw8 (nI nx).toNatClampNeg 0)), ((q 50), aI g 600 u2.2.2)] H := hP
                              have hD : va_D A [(h0, .inr (10, mob q rf n mm mb fa fp av ev wi mn tp tc sc nf fd me mp xn mt wh tq u2.1 u2.2.1 ig)), ((q 2), aI g 600 bs), ((q 16), aI g 620 on), ((q 17), aI g 620 tw), ((q 27), aI g 160 fl), ((q 28), aI g 160 pl), ((q 30), aI g 160 ty), ((q 33), aI g 160 lo), ((q 34), aI g 160 bg), ((q 41), aI g 600 dp), ((q 42), aZ g 600 iw), ((q 43), aI g 76800 kd), ((q 47), aI g 128 (upd nw8 (nI nx).toNatClampNeg 0)), ((q 50), aI g 600 u2.2.2)] := hD
                              have e9 : upd nw8 (nI nx).toNatClampNeg 0 = upd nw8 nx 0 := by rw [nI_clamp (by omega)]
                              rw [e9] at hP hD
                              refine lv_iload hx hb d_Mod_firstFrame_148 (lv_at hl 2 rfl) ?_
                              refine lv_iconst (v := 2) hx hb d_Mod_firstFrame_150 (by decide) ?_
                              refine lv_icmp_ne (tgt := 163) hx hb d_Mod_firstFrame_151 (by decide) (fun h151 => ?_) (fun h151 => ?_)
                              · refine lv_iload_n hx hb d_Mod_firstFrame_163 rfl (lv_at hl 4 rfl) ?_
                                refine lv_iload hx hb d_Mod_firstFrame_164 (lv_at hl 1 rfl) ?_
                                refine lv_iadd hx hb d_Mod_firstFrame_166 ?_
                                refine tw_ri (e2 := nI (nx + 1)) (nI_add nx 1) ?_
                                refine lv_istore_n hx hb d_Mod_firstFrame_167 rfl hl (by decide) rfl (fun ls hl => ?_)
                                have hl : lv_has ls 7 [(2, .int (nI (nx + 1))), (3, .int 1), (6, .int 1), (5, .int (u2.2.2 (qq - 1))), (4, .int (nI qq - 1)), (0, .ref h0), (1, .int (nI mt))] := hl
                                refine lv_iinc (k := 4) (v := nI (qq + 1) - 1) hx hb d_Mod_firstFrame_168 hl rfl (ff_up qq) (by decide) rfl (fun ls hl => ?_)
                                have hl : lv_has ls 7 [(4, .int (nI (qq + 1) - 1)), (2, .int (nI (nx + 1))), (3, .int 1), (6, .int 1), (5, .int (u2.2.2 (qq - 1))), (0, .ref h0), (1, .int (nI mt))] := hl
                                refine lv_goto (tgt := 55) hx hb d_Mod_firstFrame_171 (by decide) ?_
                                have hP : va_P g.1 classes [(h0, .inr (10, mob q rf n mm mb fa fp av ev wi mn tp tc sc nf fd me mp xn mt wh tq u2.1 u2.2.1 ig)), ((q 2), aI g 600 bs), ((q 16), aI g 620 on), ((q 17), aI g 620 tw), ((q 27), aI g 160 fl), ((q 28), aI g 160 pl), ((q 30), aI g 160 ty), ((q 33), aI g 160 lo), ((q 34), aI g 160 bg), ((q 41), aI g 600 dp), ((q 42), aZ g 600 iw), ((q 43), aI g 76800 kd), ((q 47), aI g 128 (upd nw8 nx 0)), ((q 50), aI g 600 u2.2.2)] H := hP.sub [0, 1, 2, 3, 4, 5, 6, 7, 8, 9, 10, 11, 12, 13] rfl
                                have hD : va_D A [(h0, .inr (10, mob q rf n mm mb fa fp av ev wi mn tp tc sc nf fd me mp xn mt wh tq u2.1 u2.2.1 ig)), ((q 2), aI g 600 bs), ((q 16), aI g 620 on), ((q 17), aI g 620 tw), ((q 27), aI g 160 fl), ((q 28), aI g 160 pl), ((q 30), aI g 160 ty), ((q 33), aI g 160 lo), ((q 34), aI g 160 bg), ((q 41), aI g 600 dp), ((q 42), aZ g 600 iw), ((q 43), aI g 76800 kd), ((q 47), aI g 128 (upd nw8 nx 0)), ((q 50), aI g 600 u2.2.2)] := hD.sub [0, 1, 2, 3, 4, 5, 6, 7, 8, 9, 10, 11, 12, 13] (by decide) rfl
                                exact ih55 _ (by omega) (nx + 1) 1 (qq + 1) (upd nw8 nx 0) ls _ _ rfl (by omega) (by omega) (hNW8.put (by decide)) (lv_sub hl [0, 2, 1, 5, 6] rfl) hP hD hS
                              · exact absurd h151 h85
                    · refine lv_iconst (v := 2) hx hb d_Mod_firstFrame_95 (by decide) ?_
                      refine lv_goto (tgt := 100) hx hb d_Mod_firstFrame_96 (by decide) ?_
                      refine lv_istore hx hb d_Mod_firstFrame_100 hl (by decide) rfl (fun ls hl => ?_)
                      have hl : lv_has ls 7 [(6, .int 2), (5, .int (u2.2.2 (qq - 1))), (4, .int (nI qq - 1)), (3, .int ft), (2, .int (nI nx)), (0, .ref h0), (1, .int (nI mt))] := hl
                      refine lv_iload_n hx hb d_Mod_firstFrame_102 rfl (lv_at hl 3 rfl) ?_
                      refine lv_if_eq (tgt := 123) hx hb d_Mod_firstFrame_103 (by decide) (fun h103 => ?_) (fun h103 => ?_)
                      · refine lv_iconst (v := 0) hx hb d_Mod_firstFrame_123 (by decide) ?_
                        refine lv_istore_n hx hb d_Mod_firstFrame_124 rfl hl (by decide) rfl (fun ls hl => ?_)
                        have hl : lv_has ls 7 [(3, .int 0), (6, .int 2), (5, .int (u2.2.2 (qq - 1))), (4, .int (nI qq - 1)), (2, .int (nI nx)), (0, .ref h0), (1, .int (nI mt))] := hl
                        refine lv_iload_n hx hb d_Mod_firstFrame_125 rfl (lv_at hl 0 rfl) ?_
                        refine lv_if_eq (tgt := 163) hx hb d_Mod_firstFrame_126 (by decide) (fun h126 => ?_) (fun h126 => ?_)
                        · refine lv_iload_n hx hb d_Mod_firstFrame_163 rfl (lv_at hl 4 rfl) ?_
                          refine lv_iload hx hb d_Mod_firstFrame_164 (lv_at hl 1 rfl) ?_
                          refine lv_iadd hx hb d_Mod_firstFrame_166 ?_
                          refine tw_ri (e2 := nI (nx + 2)) (nI_add nx 2) ?_
                          refine lv_istore_n hx hb d_Mod_firstFrame_167 rfl hl (by decide) rfl (fun ls hl => ?_)
                          have hl : lv_has ls 7 [(2, .int (nI (nx + 2))), (3, .int 0), (6, .int 2), (5, .int (u2.2.2 (qq - 1))), (4, .int (nI qq - 1)), (0, .ref h0), (1, .int (nI mt))] := hl
                          refine lv_iinc (k := 4) (v := nI (qq + 1) - 1) hx hb d_Mod_firstFrame_168 hl rfl (ff_up qq) (by decide) rfl (fun ls hl => ?_)
                          have hl : lv_has ls 7 [(4, .int (nI (qq + 1) - 1)), (2, .int (nI (nx + 2))), (3, .int 0), (6, .int 2), (5, .int (u2.2.2 (qq - 1))), (0, .ref h0), (1, .int (nI mt))] := hl
                          refine lv_goto (tgt := 55) hx hb d_Mod_firstFrame_171 (by decide) ?_
                          have hP : va_P g.1 classes [(h0, .inr (10, mob q rf n mm mb fa fp av ev wi mn tp tc sc nf fd me mp xn mt wh tq u2.1 u2.2.1 ig)), ((q 2), aI g 600 bs), ((q 16), aI g 620 on), ((q 17), aI g 620 tw), ((q 27), aI g 160 fl), ((q 28), aI g 160 pl), ((q 30), aI g 160 ty), ((q 33), aI g 160 lo), ((q 34), aI g 160 bg), ((q 41), aI g 600 dp), ((q 42), aZ g 600 iw), ((q 43), aI g 76800 kd), ((q 47), aI g 128 nw8), ((q 50), aI g 600 u2.2.2)] H := hP.sub [0, 1, 2, 3, 4, 5, 6, 7, 8, 9, 10, 11, 12, 13] rfl
                          have hD : va_D A [(h0, .inr (10, mob q rf n mm mb fa fp av ev wi mn tp tc sc nf fd me mp xn mt wh tq u2.1 u2.2.1 ig)), ((q 2), aI g 600 bs), ((q 16), aI g 620 on), ((q 17), aI g 620 tw), ((q 27), aI g 160 fl), ((q 28), aI g 160 pl), ((q 30), aI g 160 ty), ((q 33), aI g 160 lo), ((q 34), aI g 160 bg), ((q 41), aI g 600 dp), ((q 42), aZ g 600 iw), ((q 43), aI g 76800 kd), ((q 47), aI g 128 nw8), ((q 50), aI g 600 u2.2.2)] := hD.sub [0, 1, 2, 3, 4, 5, 6, 7, 8, 9, 10, 11, 12, 13] (by decide) rfl
                          exact ih55 _ (by omega) (nx + 2) 0 (qq + 1) nw8 ls _ _ rfl (by omega) (by omega) hNW8 (lv_sub hl [0, 2, 1, 5, 6] rfl) hP hD hS
                        · first | exact absurd h126 (by decide) | exact absurd (by decide) h126
                      · refine lv_iload_n hx hb d_Mod_firstFrame_106 rfl (lv_at hl 4 rfl) ?_
                        refine lv_iload hx hb d_Mod_firstFrame_107 (lv_at hl 0 rfl) ?_
                        refine lv_iadd hx hb d_Mod_firstFrame_109 ?_
                        refine tw_ri (e2 := nI (nx + 2)) (nI_add nx 2) ?_
                        refine lv_aload_n hx hb d_Mod_firstFrame_110 rfl (lv_at hl 5 rfl) ?_
                        refine va_get (D := g.1) (ci := 10) (v := .ref (q 33)) (C := R_Mod) (T := F_Mod) (N := 61) hx hb hts in_Mod hown hK hP 0 rfl rfl 33 (by decide) (hts _ wd_1283) (fun _ h9 => h9) rfl d_Mod_firstFrame_111 ?_
                        refine lv_iload_n hx hb d_Mod_firstFrame_114 rfl (lv_at hl 6 rfl) ?_
                        refine va_iald hx hb hK hP 7 0 rfl rfl (vp_in_nI (by omega) (by decide)) d_Mod_firstFrame_115 ?_
                        refine tw_ri (e2 := nI o1) (by rw [nI_clamp (by omega)]; exact hlo) ?_
                        refine lv_icmp_gt (tgt := 123) hx hb d_Mod_firstFrame_116 (by decide) (fun h116 => ?_) (fun h116 => ?_)
                        · refine lv_iconst (v := 0) hx hb d_Mod_firstFrame_123 (by decide) ?_
                          refine lv_istore_n hx hb d_Mod_firstFrame_124 rfl hl (by decide) rfl (fun ls hl => ?_)
                          have hl : lv_has ls 7 [(3, .int 0), (6, .int 2), (5, .int (u2.2.2 (qq - 1))), (4, .int (nI qq - 1)), (2, .int (nI nx)), (0, .ref h0), (1, .int (nI mt))] := hl
                          refine lv_iload_n hx hb d_Mod_firstFrame_125 rfl (lv_at hl 0 rfl) ?_
                          refine lv_if_eq (tgt := 163) hx hb d_Mod_firstFrame_126 (by decide) (fun h126 => ?_) (fun h126 => ?_)
                          · refine lv_iload_n hx hb d_Mod_firstFrame_163 rfl (lv_at hl 4 rfl) ?_
                            refine lv_iload hx hb d_Mod_firstFrame_164 (lv_at hl 1 rfl) ?_
                            refine lv_iadd hx hb d_Mod_firstFrame_166 ?_
                            refine tw_ri (e2 := nI (nx + 2)) (nI_add nx 2) ?_
                            refine lv_istore_n hx hb d_Mod_firstFrame_167 rfl hl (by decide) rfl (fun ls hl => ?_)
                            have hl : lv_has ls 7 [(2, .int (nI (nx + 2))), (3, .int 0), (6, .int 2), (5, .int (u2.2.2 (qq - 1))), (4, .int (nI qq - 1)), (0, .ref h0), (1, .int (nI mt))] := hl
                            refine lv_iinc (k := 4) (v := nI (qq + 1) - 1) hx hb d_Mod_firstFrame_168 hl rfl (ff_up qq) (by decide) rfl (fun ls hl => ?_)
                            have hl : lv_has ls 7 [(4, .int (nI (qq + 1) - 1)), (2, .int (nI (nx + 2))), (3, .int 0), (6, .int 2), (5, .int (u2.2.2 (qq - 1))), (0, .ref h0), (1, .int (nI mt))] := hl
                            refine lv_goto (tgt := 55) hx hb d_Mod_firstFrame_171 (by decide) ?_
                            have hP : va_P g.1 classes [(h0, .inr (10, mob q rf n mm mb fa fp av ev wi mn tp tc sc nf fd me mp xn mt wh tq u2.1 u2.2.1 ig)), ((q 2), aI g 600 bs), ((q 16), aI g 620 on), ((q 17), aI g 620 tw), ((q 27), aI g 160 fl), ((q 28), aI g 160 pl), ((q 30), aI g 160 ty), ((q 33), aI g 160 lo), ((q 34), aI g 160 bg), ((q 41), aI g 600 dp), ((q 42), aZ g 600 iw), ((q 43), aI g 76800 kd), ((q 47), aI g 128 nw8), ((q 50), aI g 600 u2.2.2)] H := hP.sub [0, 1, 2, 3, 4, 5, 6, 7, 8, 9, 10, 11, 12, 13] rfl
                            have hD : va_D A [(h0, .inr (10, mob q rf n mm mb fa fp av ev wi mn tp tc sc nf fd me mp xn mt wh tq u2.1 u2.2.1 ig)), ((q 2), aI g 600 bs), ((q 16), aI g 620 on), ((q 17), aI g 620 tw), ((q 27), aI g 160 fl), ((q 28), aI g 160 pl), ((q 30), aI g 160 ty), ((q 33), aI g 160 lo), ((q 34), aI g 160 bg), ((q 41), aI g 600 dp), ((q 42), aZ g 600 iw), ((q 43), aI g 76800 kd), ((q 47), aI g 128 nw8), ((q 50), aI g 600 u2.2.2)] := hD.sub [0, 1, 2, 3, 4, 5, 6, 7, 8, 9, 10, 11, 12, 13] (by decide) rfl
                            exact ih55 _ (by omega) (nx + 2) 0 (qq + 1) nw8 ls _ _ rfl (by omega) (by omega) hNW8 (lv_sub hl [0, 2, 1, 5, 6] rfl) hP hD hS
                          · first | exact absurd h126 (by decide) | exact absurd (by decide) h126
                        · have h116 := tn_nlt h116 (by omega) (by omega)
                          refine lv_iconst (v := 1) hx hb d_Mod_firstFrame_119 (by decide) ?_
                          refine lv_goto (tgt := 124) hx hb d_Mod_firstFrame_120 (by decide) ?_
                          refine lv_istore_n hx hb d_Mod_firstFrame_124 rfl hl (by decide) rfl (fun ls hl => ?_)
                          have hl : lv_has ls 7 [(3, .int 1), (6, .int 2), (5, .int (u2.2.2 (qq - 1))), (4, .int (nI qq - 1)), (2, .int (nI nx)), (0, .ref h0), (1, .int (nI mt))] := hl
                          refine lv_iload_n hx hb d_Mod_firstFrame_125 rfl (lv_at hl 0 rfl) ?_
                          refine lv_if_eq (tgt := 163) hx hb d_Mod_firstFrame_126 (by decide) (fun h126 => ?_) (fun h126 => ?_)
                          · first | exact absurd h126 (by decide) | exact absurd (by decide) h126
                          · refine lv_aload_n hx hb d_Mod_firstFrame_129 rfl (lv_at hl 5 rfl) ?_
                            refine va_get (D := g.1) (ci := 10) (v := .ref (q 47)) (C := R_Mod) (T := F_Mod) (N := 61) hx hb hts in_Mod hown hK hP 0 rfl rfl 47 (by decide) (hts _ wd_1297) (fun _ h9 => h9) rfl d_Mod_firstFrame_130 ?_
                            refine lv_iload_n hx hb d_Mod_firstFrame_133 rfl (lv_at hl 4 rfl) ?_
                            refine lv_iload hx hb d_Mod_firstFrame_134 (lv_at hl 2 rfl) ?_
                            refine lv_bipush (v := 9) hx hb d_Mod_firstFrame_136 (by decide) ?_
                            refine lv_icmp_lt (tgt := 145) hx hb d_Mod_firstFrame_138 (by decide) (fun h138 => ?_) (fun h138 => ?_)
                            · refine lv_iload hx hb d_Mod_firstFrame_145 (lv_at hl 2 rfl) ?_
                              refine va_iast hx hb hK hP hD hS 12 0 rfl rfl (vp_in_nI (by omega) (by decide)) d_Mod_firstFrame_147 (fun H locs hP hD hS => ?_)
                              have hP : va_P g.1 classes [(h0, .inr (10, mob q rf n mm mb fa fp av ev wi mn tp tc sc nf fd me mp xn mt wh tq u2.1 u2.2.1 ig)), ((q 2), aI g 600 bs), ((q 16), aI g 620 on), ((q 17), aI g 620 tw), ((q 27), aI g 160 fl), ((q 28), aI g 160 pl), ((q 30), aI g 160 ty), ((q 33), aI g 160 lo), ((q 34), aI g 160 bg), ((q 41), aI g 600 dp), ((q 42), aZ g 600 iw), ((q 43), aI g 76800 kd), ((q 47), aI g 128 (upd nw8 (nI nx).toNatClampNeg (u2.2.2 (qq - 1)))), ((q 50), aI g 600 u2.2.2)] H := hP
                              have hD : va_D A [(h0, .inr (10, mob q rf n mm mb fa fp av ev wi mn tp tc sc nf fd me mp xn mt wh tq u2.1 u2.2.1 ig)), ((q 2), aI g 600 bs), ((q 16), aI g 620 on), ((q 17), aI g 620 tw), ((q 27), aI g 160 fl), ((q 28), aI g 160 pl), ((q 30), aI g 160 ty), ((q 33), aI g 160 lo), ((q 34), aI g 160 bg), ((q 41), aI g 600 dp), ((q 42), aZ g 600 iw), ((q 43), aI g 76800 kd), ((q 47), aI g 128 (upd nw8 (nI nx).toNatClampNeg (u2.2.2 (qq - 1)))), ((q 50), aI g 600 u2.2.2)] := hD
                              have e9 : upd nw8 (nI nx).toNatClampNeg (u2.2.2 (qq - 1)) = upd nw8 nx (u2.2.2 (qq - 1)) := by rw [nI_clamp (by omega)]
                              rw [e9] at hP hD
                              refine lv_iload hx hb d_Mod_firstFrame_148 (lv_at hl 2 rfl) ?_
                              refine lv_iconst (v := 2) hx hb d_Mod_firstFrame_150 (by decide) ?_
                              refine lv_icmp_ne (tgt := 163) hx hb d_Mod_firstFrame_151 (by decide) (fun h151 => ?_) (fun h151 => ?_)
                              · refine lv_iload_n hx hb d_Mod_firstFrame_163 rfl (lv_at hl 4 rfl) ?_
                                refine lv_iload hx hb d_Mod_firstFrame_164 (lv_at hl 1 rfl) ?_
                                refine lv_iadd hx hb d_Mod_firstFrame_166 ?_
                                refine tw_ri (e2 := nI (nx + 2)) (nI_add nx 2) ?_
                                refine lv_istore_n hx hb d_Mod_firstFrame_167 rfl hl (by decide) rfl (fun ls hl => ?_)
                                have hl : lv_has ls 7 [(2, .int (nI (nx + 2))), (3, .int 1), (6, .int 2), (5, .int (u2.2.2 (qq - 1))), (4, .int (nI qq - 1)), (0, .ref h0), (1, .int (nI mt))] := hl
                                refine lv_iinc (k := 4) (v := nI (qq + 1) - 1) hx hb d_Mod_firstFrame_168 hl rfl (ff_up qq) (by decide) rfl (fun ls hl => ?_)
                                have hl : lv_has ls 7 [(4, .int (nI (qq + 1) - 1)), (2, .int (nI (nx + 2))), (3, .int 1), (6, .int 2), (5, .int (u2.2.2 (qq - 1))), (0, .ref h0), (1, .int (nI mt))] := hl
                                refine lv_goto (tgt := 55) hx hb d_Mod_firstFrame_171 (by decide) ?_
                                have hP : va_P g.1 classes [(h0, .inr (10, mob q rf n mm mb fa fp av ev wi mn tp tc sc nf fd me mp xn mt wh tq u2.1 u2.2.1 ig)), ((q 2), aI g 600 bs), ((q 16), aI g 620 on), ((q 17), aI g 620 tw), ((q 27), aI g 160 fl), ((q 28), aI g 160 pl), ((q 30), aI g 160 ty), ((q 33), aI g 160 lo), ((q 34), aI g 160 bg), ((q 41), aI g 600 dp), ((q 42), aZ g 600 iw), ((q 43), aI g 76800 kd), ((q 47), aI g 128 (upd nw8 nx (u2.2.2 (qq - 1)))), ((q 50), aI g 600 u2.2.2)] H := hP.sub [0, 1, 2, 3, 4, 5, 6, 7, 8, 9, 10, 11, 12, 13] rfl
                                have hD : va_D A [(h0, .inr (10, mob q rf n mm mb fa fp av ev wi mn tp tc sc nf fd me mp xn mt wh tq u2.1 u2.2.1 ig)), ((q 2), aI g 600 bs), ((q 16), aI g 620 on), ((q 17), aI g 620 tw), ((q 27), aI g 160 fl), ((q 28), aI g 160 pl), ((q 30), aI g 160 ty), ((q 33), aI g 160 lo), ((q 34), aI g 160 bg), ((q 41), aI g 600 dp), ((q 42), aZ g 600 iw), ((q 43), aI g 76800 kd), ((q 47), aI g 128 (upd nw8 nx (u2.2.2 (qq - 1)))), ((q 50), aI g 600 u2.2.2)] := hD.sub [0, 1, 2, 3, 4, 5, 6, 7, 8, 9, 10, 11, 12, 13] (by decide) rfl
                                exact ih55 _ (by omega) (nx + 2) 1 (qq + 1) (upd nw8 nx (u2.2.2 (qq - 1))) ls _ _ rfl (by omega) (by omega) (hNW8.put (kn3 hkk)) (lv_sub hl [0, 2, 1, 5, 6] rfl) hP hD hS
                              · exact absurd h151 h85
                            · refine lv_iconst (v := 0) hx hb d_Mod_firstFrame_141 (by decide) ?_
                              refine lv_goto (tgt := 147) hx hb d_Mod_firstFrame_142 (by decide) ?_
                              refine va_iast hx hb hK hP hD hS 12 0 rfl rfl (vp_in_nI (by omega) (by decide)) d_Mod_firstFrame_147 (fun H locs hP hD hS => ?_)
                              have hP : va_P g.1 classes [(h0, .inr (10, mob q rf n mm mb fa fp av ev wi mn tp tc sc nf fd me mp xn mt wh tq u2.1 u2.2.1 ig)), ((q 2), aI g 600 bs), ((q 16), aI g 620 on), ((q 17), aI g 620 tw), ((q 27), aI g 160 fl), ((q 28), aI g 160 pl), ((q 30), aI g 160 ty), ((q 33), aI g 160 lo), ((q 34), aI g 160 bg), ((q 41), aI g 600 dp), ((q 42), aZ g 600 iw), ((q 43), aI g 76800 kd), ((q 47), aI g 128 (upd nw8 (nI nx).toNatClampNeg 0)), ((q 50), aI g 600 u2.2.2)] H := hP
                              have hD : va_D A [(h0, .inr (10, mob q rf n mm mb fa fp av ev wi mn tp tc sc nf fd me mp xn mt wh tq u2.1 u2.2.1 ig)), ((q 2), aI g 600 bs), ((q 16), aI g 620 on), ((q 17), aI g 620 tw), ((q 27), aI g 160 fl), ((q 28), aI g 160 pl), ((q 30), aI g 160 ty), ((q 33), aI g 160 lo), ((q 34), aI g 160 bg), ((q 41), aI g 600 dp), ((q 42), aZ g 600 iw), ((q 43), aI g 76800 kd), ((q 47), aI g 128 (upd nw8 (nI nx).toNatClampNeg 0)), ((q 50), aI g 600 u2.2.2)] := hD
                              have e9 : upd nw8 (nI nx).toNatClampNeg 0 = upd nw8 nx 0 := by rw [nI_clamp (by omega)]
                              rw [e9] at hP hD
                              refine lv_iload hx hb d_Mod_firstFrame_148 (lv_at hl 2 rfl) ?_
                              refine lv_iconst (v := 2) hx hb d_Mod_firstFrame_150 (by decide) ?_
                              refine lv_icmp_ne (tgt := 163) hx hb d_Mod_firstFrame_151 (by decide) (fun h151 => ?_) (fun h151 => ?_)
                              · refine lv_iload_n hx hb d_Mod_firstFrame_163 rfl (lv_at hl 4 rfl) ?_
                                refine lv_iload hx hb d_Mod_firstFrame_164 (lv_at hl 1 rfl) ?_
                                refine lv_iadd hx hb d_Mod_firstFrame_166 ?_
                                refine tw_ri (e2 := nI (nx + 2)) (nI_add nx 2) ?_
                                refine lv_istore_n hx hb d_Mod_firstFrame_167 rfl hl (by decide) rfl (fun ls hl => ?_)
                                have hl : lv_has ls 7 [(2, .int (nI (nx + 2))), (3, .int 1), (6, .int 2), (5, .int (u2.2.2 (qq - 1))), (4, .int (nI qq - 1)), (0, .ref h0), (1, .int (nI mt))] := hl
                                refine lv_iinc (k := 4) (v := nI (qq + 1) - 1) hx hb d_Mod_firstFrame_168 hl rfl (ff_up qq) (by decide) rfl (fun ls hl => ?_)
                                have hl : lv_has ls 7 [(4, .int (nI (qq + 1) - 1)), (2, .int (nI (nx + 2))), (3, .int 1), (6, .int 2), (5, .int (u2.2.2 (qq - 1))), (0, .ref h0), (1, .int (nI mt))] := hl
                                refine lv_goto (tgt := 55) hx hb d_Mod_firstFrame_171 (by decide) ?_
                                have hP : va_P g.1 classes [(h0, .inr (10, mob q rf n mm mb fa fp av ev wi mn tp tc sc nf fd me mp xn mt wh tq u2.1 u2.2.1 ig)), ((q 2), aI g 600 bs), ((q 16), aI g 620 on), ((q 17), aI g 620 tw), ((q 27), aI g 160 fl), ((q 28), aI g 160 pl), ((q 30), aI g 160 ty), ((q 33), aI g 160 lo), ((q 34), aI g 160 bg), ((q 41), aI g 600 dp), ((q 42), aZ g 600 iw), ((q 43), aI g 76800 kd), ((q 47), aI g 128 (upd nw8 nx 0)), ((q 50), aI g 600 u2.2.2)] H := hP.sub [0, 1, 2, 3, 4, 5, 6, 7, 8, 9, 10, 11, 12, 13] rfl
                                have hD : va_D A [(h0, .inr (10, mob q rf n mm mb fa fp av ev wi mn tp tc sc nf fd me mp xn mt wh tq u2.1 u2.2.1 ig)), ((q 2), aI g 600 bs), ((q 16), aI g 620 on), ((q 17), aI g 620 tw), ((q 27), aI g 160 fl), ((q 28), aI g 160 pl), ((q 30), aI g 160 ty), ((q 33), aI g 160 lo), ((q 34), aI g 160 bg), ((q 41), aI g 600 dp), ((q 42), aZ g 600 iw), ((q 43), aI g 76800 kd), ((q 47), aI g 128 (upd nw8 nx 0)), ((q 50), aI g 600 u2.2.2)] := hD.sub [0, 1, 2, 3, 4, 5, 6, 7, 8, 9, 10, 11, 12, 13] (by decide) rfl
                                exact ih55 _ (by omega) (nx + 2) 1 (qq + 1) (upd nw8 nx 0) ls _ _ rfl (by omega) (by omega) (hNW8.put (by decide)) (lv_sub hl [0, 2, 1, 5, 6] rfl) hP hD hS
                              · exact absurd h151 h85
                · refine lv_iconst (v := 4) hx hb d_Mod_firstFrame_69 (by decide) ?_
                  refine lv_goto (tgt := 80) hx hb d_Mod_firstFrame_70 (by decide) ?_
                  refine lv_istore hx hb d_Mod_firstFrame_80 hl (by decide) rfl (fun ls hl => ?_)
                  have hl : lv_has ls 7 [(5, .int 4), (4, .int (nI qq - 1)), (3, .int ft), (2, .int (nI nx)), (0, .ref h0), (1, .int (nI mt))] := hl
                  refine lv_iload hx hb d_Mod_firstFrame_82 (lv_at hl 0 rfl) ?_
                  refine lv_iconst (v := 2) hx hb d_Mod_firstFrame_84 (by decide) ?_
                  refine lv_icmp_eq (tgt := 95) hx hb d_Mod_firstFrame_85 (by decide) (fun h85 => ?_) (fun h85 => ?_)
                  · refine lv_iconst (v := 2) hx hb d_Mod_firstFrame_95 (by decide) ?_
                    refine lv_goto (tgt := 100) hx hb d_Mod_firstFrame_96 (by decide) ?_
                    refine lv_istore hx hb d_Mod_firstFrame_100 hl (by decide) rfl (fun ls hl => ?_)
                    have hl : lv_has ls 7 [(6, .int 2), (5, .int 4), (4, .int (nI qq - 1)), (3, .int ft), (2, .int (nI nx)), (0, .ref h0), (1, .int (nI mt))] := hl
                    refine lv_iload_n hx hb d_Mod_firstFrame_102 rfl (lv_at hl 3 rfl) ?_
                    refine lv_if_eq (tgt := 123) hx hb d_Mod_firstFrame_103 (by decide) (fun h103 => ?_) (fun h103 => ?_)
                    · refine lv_iconst (v := 0) hx hb d_Mod_firstFrame_123 (by decide) ?_
                      refine lv_istore_n hx hb d_Mod_firstFrame_124 rfl hl (by decide) rfl (fun ls hl => ?_)
                      have hl : lv_has ls 7 [(3, .int 0), (6, .int 2), (5, .int 4), (4, .int (nI qq - 1)), (2, .int (nI nx)), (0, .ref h0), (1, .int (nI mt))] := hl
                      refine lv_iload_n hx hb d_Mod_firstFrame_125 rfl (lv_at hl 0 rfl) ?_
                      refine lv_if_eq (tgt := 163) hx hb d_Mod_firstFrame_126 (by decide) (fun h126 => ?_) (fun h126 => ?_)
                      · refine lv_iload_n hx hb d_Mod_firstFrame_163 rfl (lv_at hl 4 rfl) ?_
                        refine lv_iload hx hb d_Mod_firstFrame_164 (lv_at hl 1 rfl) ?_
                        refine lv_iadd hx hb d_Mod_firstFrame_166 ?_
                        refine tw_ri (e2 := nI (nx + 2)) (nI_add nx 2) ?_
                        refine lv_istore_n hx hb d_Mod_firstFrame_167 rfl hl (by decide) rfl (fun ls hl => ?_)
                        have hl : lv_has ls 7 [(2, .int (nI (nx + 2))), (3, .int 0), (6, .int 2), (5, .int 4), (4, .int (nI qq - 1)), (0, .ref h0), (1, .int (nI mt))] := hl
                        refine lv_iinc (k := 4) (v := nI (qq + 1) - 1) hx hb d_Mod_firstFrame_168 hl rfl (ff_up qq) (by decide) rfl (fun ls hl => ?_)
                        have hl : lv_has ls 7 [(4, .int (nI (qq + 1) - 1)), (2, .int (nI (nx + 2))), (3, .int 0), (6, .int 2), (5, .int 4), (0, .ref h0), (1, .int (nI mt))] := hl
                        refine lv_goto (tgt := 55) hx hb d_Mod_firstFrame_171 (by decide) ?_
                        have hP : va_P g.1 classes [(h0, .inr (10, mob q rf n mm mb fa fp av ev wi mn tp tc sc nf fd me mp xn mt wh tq u2.1 u2.2.1 ig)), ((q 2), aI g 600 bs), ((q 16), aI g 620 on), ((q 17), aI g 620 tw), ((q 27), aI g 160 fl), ((q 28), aI g 160 pl), ((q 30), aI g 160 ty), ((q 33), aI g 160 lo), ((q 34), aI g 160 bg), ((q 41), aI g 600 dp), ((q 42), aZ g 600 iw), ((q 43), aI g 76800 kd), ((q 47), aI g 128 nw8), ((q 50), aI g 600 u2.2.2)] H := hP.sub [0, 1, 2, 3, 4, 5, 6, 7, 8, 9, 10, 11, 12, 13] rfl
                        have hD : va_D A [(h0, .inr (10, mob q rf n mm mb fa fp av ev wi mn tp tc sc nf fd me mp xn mt wh tq u2.1 u2.2.1 ig)), ((q 2), aI g 600 bs), ((q 16), aI g 620 on), ((q 17), aI g 620 tw), ((q 27), aI g 160 fl), ((q 28), aI g 160 pl), ((q 30), aI g 160 ty), ((q 33), aI g 160 lo), ((q 34), aI g 160 bg), ((q 41), aI g 600 dp), ((q 42), aZ g 600 iw), ((q 43), aI g 76800 kd), ((q 47), aI g 128 nw8), ((q 50), aI g 600 u2.2.2)] := hD.sub [0, 1, 2, 3, 4, 5, 6, 7, 8, 9, 10, 11, 12, 13] (by decide) rfl
                        exact ih55 _ (by omega) (nx + 2) 0 (qq + 1) nw8 ls _ _ rfl (by omega) (by omega) hNW8 (lv_sub hl [0, 2, 1, 5, 6] rfl) hP hD hS
                      · first | exact absurd h126 (by decide) | exact absurd (by decide) h126
                    · refine lv_iload_n hx hb d_Mod_firstFrame_106 rfl (lv_at hl 4 rfl) ?_
                      refine lv_iload hx hb d_Mod_firstFrame_107 (lv_at hl 0 rfl) ?_
                      refine lv_iadd hx hb d_Mod_firstFrame_109 ?_
                      refine tw_ri (e2 := nI (nx + 2)) (nI_add nx 2) ?_
                      refine lv_aload_n hx hb d_Mod_firstFrame_110 rfl (lv_at hl 5 rfl) ?_
                      refine va_get (D := g.1) (ci := 10) (v := .ref (q 33)) (C := R_Mod) (T := F_Mod) (N := 61) hx hb hts in_Mod hown hK hP 0 rfl rfl 33 (by decide) (hts _ wd_1283) (fun _ h9 => h9) rfl d_Mod_firstFrame_111 ?_
                      refine lv_iload_n hx hb d_Mod_firstFrame_114 rfl (lv_at hl 6 rfl) ?_
                      refine va_iald hx hb hK hP 7 0 rfl rfl (vp_in_nI (by omega) (by decide)) d_Mod_firstFrame_115 ?_
                      refine tw_ri (e2 := nI o1) (by rw [nI_clamp (by omega)]; exact hlo) ?_
                      refine lv_icmp_gt (tgt := 123) hx hb d_Mod_firstFrame_116 (by decide) (fun h116 => ?_) (fun h116 => ?_)
                      · refine lv_iconst (v := 0) hx hb d_Mod_firstFrame_123 (by decide) ?_
                        refine lv_istore_n hx hb d_Mod_firstFrame_124 rfl hl (by decide) rfl (fun ls hl => ?_)
                        have hl : lv_has ls 7 [(3, .int 0), (6, .int 2), (5, .int 4), (4, .int (nI qq - 1)), (2, .int (nI nx)), (0, .ref h0), (1, .int (nI mt))] := hl
                        refine lv_iload_n hx hb d_Mod_firstFrame_125 rfl (lv_at hl 0 rfl) ?_
                        refine lv_if_eq (tgt := 163) hx hb d_Mod_firstFrame_126 (by decide) (fun h126 => ?_) (fun h126 => ?_)
                        · refine lv_iload_n hx hb d_Mod_firstFrame_163 rfl (lv_at hl 4 rfl) ?_
                          refine lv_iload hx hb d_Mod_firstFrame_164 (lv_at hl 1 rfl) ?_
                          refine lv_iadd hx hb d_Mod_firstFrame_166 ?_
                          refine tw_ri (e2 := nI (nx + 2)) (nI_add nx 2) ?_
                          refine lv_istore_n hx hb d_Mod_firstFrame_167 rfl hl (by decide) rfl (fun ls hl => ?_)
                          have hl : lv_has ls 7 [(2, .int (nI (nx + 2))), (3, .int 0), (6, .int 2), (5, .int 4), (4, .int (nI qq - 1)), (0, .ref h0), (1, .int (nI mt))] := hl
                          refine lv_iinc (k := 4) (v := nI (qq + 1) - 1) hx hb d_Mod_firstFrame_168 hl rfl (ff_up qq) (by decide) rfl (fun ls hl => ?_)
                          have hl : lv_has ls 7 [(4, .int (nI (qq + 1) - 1)), (2, .int (nI (nx + 2))), (3, .int 0), (6, .int 2), (5, .int 4), (0, .ref h0), (1, .int (nI mt))] := hl
                          refine lv_goto (tgt := 55) hx hb d_Mod_firstFrame_171 (by decide) ?_
                          have hP : va_P g.1 classes [(h0, .inr (10, mob q rf n mm mb fa fp av ev wi mn tp tc sc nf fd me mp xn mt wh tq u2.1 u2.2.1 ig)), ((q 2), aI g 600 bs), ((q 16), aI g 620 on), ((q 17), aI g 620 tw), ((q 27), aI g 160 fl), ((q 28), aI g 160 pl), ((q 30), aI g 160 ty), ((q 33), aI g 160 lo), ((q 34), aI g 160 bg), ((q 41), aI g 600 dp), ((q 42), aZ g 600 iw), ((q 43), aI g 76800 kd), ((q 47), aI g 128 nw8), ((q 50), aI g 600 u2.2.2)] H := hP.sub [0, 1, 2, 3, 4, 5, 6, 7, 8, 9, 10, 11, 12, 13] rfl
                          have hD : va_D A [(h0, .inr (10, mob q rf n mm mb fa fp av ev wi mn tp tc sc nf fd me mp xn mt wh tq u2.1 u2.2.1 ig)), ((q 2), aI g 600 bs), ((q 16), aI g 620 on), ((q 17), aI g 620 tw), ((q 27), aI g 160 fl), ((q 28), aI g 160 pl), ((q 30), aI g 160 ty), ((q 33), aI g 160 lo), ((q 34), aI g 160 bg), ((q 41), aI g 600 dp), ((q 42), aZ g 600 iw), ((q 43), aI g 76800 kd), ((q 47), aI g 128 nw8), ((q 50), aI g 600 u2.2.2)] := hD.sub [0, 1, 2, 3, 4, 5, 6, 7, 8, 9, 10, 11, 12, 13] (by decide) rfl
                          exact ih55 _ (by omega) (nx + 2) 0 (qq + 1) nw8 ls _ _ rfl (by omega) (by omega) hNW8 (lv_sub hl [0, 2, 1, 5, 6] rfl) hP hD hS
                        · first | exact absurd h126 (by decide) | exact absurd (by decide) h126
                      · have h116 := tn_nlt h116 (by omega) (by omega)
                        refine lv_iconst (v := 1) hx hb d_Mod_firstFrame_119 (by decide) ?_
                        refine lv_goto (tgt := 124) hx hb d_Mod_firstFrame_120 (by decide) ?_
                        refine lv_istore_n hx hb d_Mod_firstFrame_124 rfl hl (by decide) rfl (fun ls hl => ?_)
                        have hl : lv_has ls 7 [(3, .int 1), (6, .int 2), (5, .int 4), (4, .int (nI qq - 1)), (2, .int (nI nx)), (0, .ref h0), (1, .int (nI mt))] := hl
                        refine lv_iload_n hx hb d_Mod_firstFrame_125 rfl (lv_at hl 0 rfl) ?_
                        refine lv_if_eq (tgt := 163) hx hb d_Mod_firstFrame_126 (by decide) (fun h126 => ?_) (fun h126 => ?_)
                        · first | exact absurd h126 (by decide) | exact absurd (by decide) h126
                        · refine lv_aload_n hx hb d_Mod_firstFrame_129 rfl (lv_at hl 5 rfl) ?_
                          refine va_get (D := g.1) (ci := 10) (v := .ref (q 47)) (C := R_Mod) (T := F_Mod) (N := 61) hx hb hts in_Mod hown hK hP 0 rfl rfl 47 (by decide) (hts _ wd_1297) (fun _ h9 => h9) rfl d_Mod_firstFrame_130 ?_
                          refine lv_iload_n hx hb d_Mod_firstFrame_133 rfl (lv_at hl 4 rfl) ?_
                          refine lv_iload hx hb d_Mod_firstFrame_134 (lv_at hl 2 rfl) ?_
                          refine lv_bipush (v := 9) hx hb d_Mod_firstFrame_136 (by decide) ?_
                          refine lv_icmp_lt (tgt := 145) hx hb d_Mod_firstFrame_138 (by decide) (fun h138 => ?_) (fun h138 => ?_)
                          · refine lv_iload hx hb d_Mod_firstFrame_145 (lv_at hl 2 rfl) ?_
                            refine va_iast hx hb hK hP hD hS 12 0 rfl rfl (vp_in_nI (by omega) (by decide)) d_Mod_firstFrame_147 (fun H locs hP hD hS => ?_)
                            have hP : va_P g.1 classes [(h0, .inr (10, mob q rf n mm mb fa fp av ev wi mn tp tc sc nf fd me mp xn mt wh tq u2.1 u2.2.1 ig)), ((q 2), aI g 600 bs), ((q 16), aI g 620 on), ((q 17), aI g 620 tw), ((q 27), aI g 160 fl), ((q 28), aI g 160 pl), ((q 30), aI g 160 ty), ((q 33), aI g 160 lo), ((q 34), aI g 160 bg), ((q 41), aI g 600 dp), ((q 42), aZ g 600 iw), ((q 43), aI g 76800 kd), ((q 47), aI g 128 (upd nw8 (nI nx).toNatClampNeg 4)), ((q 50), aI g 600 u2.2.2)] H := hP
                            have hD : va_D A [(h0, .inr (10, mob q rf n mm mb fa fp av ev wi mn tp tc sc nf fd me mp xn mt wh tq u2.1 u2.2.1 ig)), ((q 2), aI g 600 bs), ((q 16), aI g 620 on), ((q 17), aI g 620 tw), ((q 27), aI g 160 fl), ((q 28), aI g 160 pl), ((q 30), aI g 160 ty), ((q 33), aI g 160 lo), ((q 34), aI g 160 bg), ((q 41), aI g 600 dp), ((q 42), aZ g 600 iw), ((q 43), aI g 76800 kd), ((q 47), aI g 128 (upd nw8 (nI nx).toNatClampNeg 4)), ((q 50), aI g 600 u2.2.2)] := hD
                            have e9 : upd nw8 (nI nx).toNatClampNeg 4 = upd nw8 nx 4 := by rw [nI_clamp (by omega)]
                            rw [e9] at hP hD
                            refine lv_iload hx hb d_Mod_firstFrame_148 (lv_at hl 2 rfl) ?_
                            refine lv_iconst (v := 2) hx hb d_Mod_firstFrame_150 (by decide) ?_
                            refine lv_icmp_ne (tgt := 163) hx hb d_Mod_firstFrame_151 (by decide) (fun h151 => ?_) (fun h151 => ?_)
                            · exact absurd h85 h151
                            · refine lv_aload_n hx hb d_Mod_firstFrame_154 rfl (lv_at hl 5 rfl) ?_
                              refine va_get (D := g.1) (ci := 10) (v := .ref (q 47)) (C := R_Mod) (T := F_Mod) (N := 61) hx hb hts in_Mod hown hK hP 0 rfl rfl 47 (by decide) (hts _ wd_1297) (fun _ h9 => h9) rfl d_Mod_firstFrame_155 ?_
                              refine lv_iload_n hx hb d_Mod_firstFrame_158 rfl (lv_at hl 4 rfl) ?_
                              refine lv_iconst (v := 1) hx hb d_Mod_firstFrame_159 (by decide) ?_
                              refine lv_iadd hx hb d_Mod_firstFrame_160 ?_
                              refine tw_ri (e2 := nI (nx + 1)) (nI_add nx 1) ?_
                              refine lv_iconst (v := 3) hx hb d_Mod_firstFrame_161 (by decide) ?_
                              refine va_iast hx hb hK hP hD hS 12 0 rfl rfl (vp_in_nI (by omega) (by decide)) d_Mod_firstFrame_162 (fun H locs hP hD hS => ?_)
                              have hP : va_P g.1 classes [(h0, .inr (10, mob q rf n mm mb fa fp av ev wi mn tp tc sc nf fd me mp xn mt wh tq u2.1 u2.2.1 ig)), ((q 2), aI g 600 bs), ((q 16), aI g 620 on), ((q 17), aI g 620 tw), ((q 27), aI g 160 fl), ((q 28), aI g 160 pl), ((q 30), aI g 160 ty), ((q 33), aI g 160 lo), ((q 34), aI g 160 bg), ((q 41), aI g 600 dp), ((q 42), aZ g 600 iw), ((q 43), aI g 76800 kd), ((q 47), aI g 128 (upd (upd nw8 nx 4) (nI (nx + 1)).toNatClampNeg 3)), ((q 50), aI g 600 u2.2.2)] H := hP
                              have hD : va_D A [(h0, .inr (10, mob q rf n mm mb fa fp av ev wi mn tp tc sc nf fd me mp xn mt wh tq u2.1 u2.2.1 ig)), ((q 2), aI g 600 bs), ((q 16), aI g 620 on), ((q 17), aI g 620 tw), ((q 27), aI g 160 fl), ((q 28), aI g 160 pl), ((q 30), aI g 160 ty), ((q 33), aI g 160 lo), ((q 34), aI g 160 bg), ((q 41), aI g 600 dp), ((q 42), aZ g 600 iw), ((q 43), aI g 76800 kd), ((q 47), aI g 128 (upd (upd nw8 nx 4) (nI (nx + 1)).toNatClampNeg 3)), ((q 50), aI g 600 u2.2.2)] := hD
                              have e9 : upd (upd nw8 nx 4) (nI (nx + 1)).toNatClampNeg 3 = upd (upd nw8 nx 4) (nx + 1) 3 := by rw [nI_clamp (by omega)]
                              rw [e9] at hP hD
                              refine lv_iload_n hx hb d_Mod_firstFrame_163 rfl (lv_at hl 4 rfl) ?_
                              refine lv_iload hx hb d_Mod_firstFrame_164 (lv_at hl 1 rfl) ?_
                              refine lv_iadd hx hb d_Mod_firstFrame_166 ?_
                              refine tw_ri (e2 := nI (nx + 2)) (nI_add nx 2) ?_
                              refine lv_istore_n hx hb d_Mod_firstFrame_167 rfl hl (by decide) rfl (fun ls hl => ?_)
                              have hl : lv_has ls 7 [(2, .int (nI (nx + 2))), (3, .int 1), (6, .int 2), (5, .int 4), (4, .int (nI qq - 1)), (0, .ref h0), (1, .int (nI mt))] := hl
                              refine lv_iinc (k := 4) (v := nI (qq + 1) - 1) hx hb d_Mod_firstFrame_168 hl rfl (ff_up qq) (by decide) rfl (fun ls hl => ?_)
                              have hl : lv_has ls 7 [(4, .int (nI (qq + 1) - 1)), (2, .int (nI (nx + 2))), (3, .int 1), (6, .int 2), (5, .int 4), (0, .ref h0), (1, .int (nI mt))] := hl
                              refine lv_goto (tgt := 55) hx hb d_Mod_firstFrame_171 (by decide) ?_
                              have hP : va_P g.1 classes [(h0, .inr (10, mob q rf n mm mb fa fp av ev wi mn tp tc sc nf fd me mp xn mt wh tq u2.1 u2.2.1 ig)), ((q 2), aI g 600 bs), ((q 16), aI g 620 on), ((q 17), aI g 620 tw), ((q 27), aI g 160 fl), ((q 28), aI g 160 pl), ((q 30), aI g 160 ty), ((q 33), aI g 160 lo), ((q 34), aI g 160 bg), ((q 41), aI g 600 dp), ((q 42), aZ g 600 iw), ((q 43), aI g 76800 kd), ((q 47), aI g 128 (upd (upd nw8 nx 4) (nx + 1) 3)), ((q 50), aI g 600 u2.2.2)] H := hP.sub [0, 1, 2, 3, 4, 5, 6, 7, 8, 9, 10, 11, 12, 13] rfl
                              have hD : va_D A [(h0, .inr (10, mob q rf n mm mb fa fp av ev wi mn tp tc sc nf fd me mp xn mt wh tq u2.1 u2.2.1 ig)), ((q 2), aI g 600 bs), ((q 16), aI g 620 on), ((q 17), aI g 620 tw), ((q 27), aI g 160 fl), ((q 28), aI g 160 pl), ((q 30), aI g 160 ty), ((q 33), aI g 160 lo), ((q 34), aI g 160 bg), ((q 41), aI g 600 dp), ((q 42), aZ g 600 iw), ((q 43), aI g 76800 kd), ((q 47), aI g 128 (upd (upd nw8 nx 4) (nx + 1) 3)), ((q 50), aI g 600 u2.2.2)] := hD.sub [0, 1, 2, 3, 4, 5, 6, 7, 8, 9, 10, 11, 12, 13] (by decide) rfl
                              exact ih55 _ (by omega) (nx + 2) 1 (qq + 1) (upd (upd nw8 nx 4) (nx + 1) 3) ls _ _ rfl (by omega) (by omega) ((hNW8.put (by decide)).put2 (by omega) (by omega)) (lv_sub hl [0, 2, 1, 5, 6] rfl) hP hD hS
                          · refine lv_iconst (v := 0) hx hb d_Mod_firstFrame_141 (by decide) ?_
                            refine lv_goto (tgt := 147) hx hb d_Mod_firstFrame_142 (by decide) ?_
                            refine va_iast hx hb hK hP hD hS 12 0 rfl rfl (vp_in_nI (by omega) (by decide)) d_Mod_firstFrame_147 (fun H locs hP hD hS => ?_)
                            have hP : va_P g.1 classes [(h0, .inr (10, mob q rf n mm mb fa fp av ev wi mn tp tc sc nf fd me mp xn mt wh tq u2.1 u2.2.1 ig)), ((q 2), aI g 600 bs), ((q 16), aI g 620 on), ((q 17), aI g 620 tw), ((q 27), aI g 160 fl), ((q 28), aI g 160 pl), ((q 30), aI g 160 ty), ((q 33), aI g 160 lo), ((q 34), aI g 160 bg), ((q 41), aI g 600 dp), ((q 42), aZ g 600 iw), ((q 43), aI g 76800 kd), ((q 47), aI g 128 (upd nw8 (nI nx).toNatClampNeg 0)), ((q 50), aI g 600 u2.2.2)] H := hP
                            have hD : va_D A [(h0, .inr (10, mob q rf n mm mb fa fp av ev wi mn tp tc sc nf fd me mp xn mt wh tq u2.1 u2.2.1 ig)), ((q 2), aI g 600 bs), ((q 16), aI g 620 on), ((q 17), aI g 620 tw), ((q 27), aI g 160 fl), ((q 28), aI g 160 pl), ((q 30), aI g 160 ty), ((q 33), aI g 160 lo), ((q 34), aI g 160 bg), ((q 41), aI g 600 dp), ((q 42), aZ g 600 iw), ((q 43), aI g 76800 kd), ((q 47), aI g 128 (upd nw8 (nI nx).toNatClampNeg 0)), ((q 50), aI g 600 u2.2.2)] := hD
                            have e9 : upd nw8 (nI nx).toNatClampNeg 0 = upd nw8 nx 0 := by rw [nI_clamp (by omega)]
                            rw [e9] at hP hD
                            refine lv_iload hx hb d_Mod_firstFrame_148 (lv_at hl 2 rfl) ?_
                            refine lv_iconst (v := 2) hx hb d_Mod_firstFrame_150 (by decide) ?_
                            refine lv_icmp_ne (tgt := 163) hx hb d_Mod_firstFrame_151 (by decide) (fun h151 => ?_) (fun h151 => ?_)
                            · exact absurd h85 h151
                            · refine lv_aload_n hx hb d_Mod_firstFrame_154 rfl (lv_at hl 5 rfl) ?_
                              refine va_get (D := g.1) (ci := 10) (v := .ref (q 47)) (C := R_Mod) (T := F_Mod) (N := 61) hx hb hts in_Mod hown hK hP 0 rfl rfl 47 (by decide) (hts _ wd_1297) (fun _ h9 => h9) rfl d_Mod_firstFrame_155 ?_
                              refine lv_iload_n hx hb d_Mod_firstFrame_158 rfl (lv_at hl 4 rfl) ?_
                              refine lv_iconst (v := 1) hx hb d_Mod_firstFrame_159 (by decide) ?_
                              refine lv_iadd hx hb d_Mod_firstFrame_160 ?_
                              refine tw_ri (e2 := nI (nx + 1)) (nI_add nx 1) ?_
                              refine lv_iconst (v := 3) hx hb d_Mod_firstFrame_161 (by decide) ?_
                              refine va_iast hx hb hK hP hD hS 12 0 rfl rfl (vp_in_nI (by omega) (by decide)) d_Mod_firstFrame_162 (fun H locs hP hD hS => ?_)
                              have hP : va_P g.1 classes [(h0, .inr (10, mob q rf n mm mb fa fp av ev wi mn tp tc sc nf fd me mp xn mt wh tq u2.1 u2.2.1 ig)), ((q 2), aI g 600 bs), ((q 16), aI g 620 on), ((q 17), aI g 620 tw), ((q 27), aI g 160 fl), ((q 28), aI g 160 pl), ((q 30), aI g 160 ty), ((q 33), aI g 160 lo), ((q 34), aI g 160 bg), ((q 41), aI g 600 dp), ((q 42), aZ g 600 iw), ((q 43), aI g 76800 kd), ((q 47), aI g 128 (upd (upd nw8 nx 0) (nI (nx + 1)).toNatClampNeg 3)), ((q 50), aI g 600 u2.2.2)] H := hP
                              have hD : va_D A [(h0, .inr (10, mob q rf n mm mb fa fp av ev wi mn tp tc sc nf fd me mp xn mt wh tq u2.1 u2.2.1 ig)), ((q 2), aI g 600 bs), ((q 16), aI g 620 on), ((q 17), aI g 620 tw), ((q 27), aI g 160 fl), ((q 28), aI g 160 pl), ((q 30), aI g 160 ty), ((q 33), aI g 160 lo), ((q 34), aI g 160 bg), ((q 41), aI g 600 dp), ((q 42), aZ g 600 iw), ((q 43), aI g 76800 kd), ((q 47), aI g 128 (upd (upd nw8 nx 0) (nI (nx + 1)).toNatClampNeg 3)), ((q 50), aI g 600 u2.2.2)] := hD
                              have e9 : upd (upd nw8 nx 0) (nI (nx + 1)).toNatClampNeg 3 = upd (upd nw8 nx 0) (nx + 1) 3 := by rw [nI_clamp (by omega)]
                              rw [e9] at hP hD
                              refine lv_iload_n hx hb d_Mod_firstFrame_163 rfl (lv_at hl 4 rfl) ?_
                              refine lv_iload hx hb d_Mod_firstFrame_164 (lv_at hl 1 rfl) ?_
                              refine lv_iadd hx hb d_Mod_firstFrame_166 ?_
                              refine tw_ri (e2 := nI (nx + 2)) (nI_add nx 2) ?_
                              refine lv_istore_n hx hb d_Mod_firstFrame_167 rfl hl (by decide) rfl (fun ls hl => ?_)
                              have hl : lv_has ls 7 [(2, .int (nI (nx + 2))), (3, .int 1), (6, .int 2), (5, .int 4), (4, .int (nI qq - 1)), (0, .ref h0), (1, .int (nI mt))] := hl
                              refine lv_iinc (k := 4) (v := nI (qq + 1) - 1) hx hb d_Mod_firstFrame_168 hl rfl (ff_up qq) (by decide) rfl (fun ls hl => ?_)
                              have hl : lv_has ls 7 [(4, .int (nI (qq + 1) - 1)), (2, .int (nI (nx + 2))), (3, .int 1), (6, .int 2), (5, .int 4), (0, .ref h0), (1, .int (nI mt))] := hl
                              refine lv_goto (tgt := 55) hx hb d_Mod_firstFrame_171 (by decide) ?_
                              have hP : va_P g.1 classes [(h0, .inr (10, mob q rf n mm mb fa fp av ev wi mn tp tc sc nf fd me mp xn mt wh tq u2.1 u2.2.1 ig)), ((q 2), aI g 600 bs), ((q 16), aI g 620 on), ((q 17), aI g 620 tw), ((q 27), aI g 160 fl), ((q 28), aI g 160 pl), ((q 30), aI g 160 ty), ((q 33), aI g 160 lo), ((q 34), aI g 160 bg), ((q 41), aI g 600 dp), ((q 42), aZ g 600 iw), ((q 43), aI g 76800 kd), ((q 47), aI g 128 (upd (upd nw8 nx 0) (nx + 1) 3)), ((q 50), aI g 600 u2.2.2)] H := hP.sub [0, 1, 2, 3, 4, 5, 6, 7, 8, 9, 10, 11, 12, 13] rfl
                              have hD : va_D A [(h0, .inr (10, mob q rf n mm mb fa fp av ev wi mn tp tc sc nf fd me mp xn mt wh tq u2.1 u2.2.1 ig)), ((q 2), aI g 600 bs), ((q 16), aI g 620 on), ((q 17), aI g 620 tw), ((q 27), aI g 160 fl), ((q 28), aI g 160 pl), ((q 30), aI g 160 ty), ((q 33), aI g 160 lo), ((q 34), aI g 160 bg), ((q 41), aI g 600 dp), ((q 42), aZ g 600 iw), ((q 43), aI g 76800 kd), ((q 47), aI g 128 (upd (upd nw8 nx 0) (nx + 1) 3)), ((q 50), aI g 600 u2.2.2)] := hD.sub [0, 1, 2, 3, 4, 5, 6, 7, 8, 9, 10, 11, 12, 13] (by decide) rfl
                              exact ih55 _ (by omega) (nx + 2) 1 (qq + 1) (upd (upd nw8 nx 0) (nx + 1) 3) ls _ _ rfl (by omega) (by omega) ((hNW8.put (by decide)).put2 (by omega) (by omega)) (lv_sub hl [0, 2, 1, 5, 6] rfl) hP hD hS
                  · refine lv_iload hx hb d_Mod_firstFrame_88 (lv_at hl 0 rfl) ?_
                    refine lv_bipush (v := 9) hx hb d_Mod_firstFrame_90 (by decide) ?_
                    refine lv_icmp_le (tgt := 99) hx hb d_Mod_firstFrame_92 (by decide) (fun h92 => ?_) (fun h92 => ?_)
                    · refine lv_iconst (v := 1) hx hb d_Mod_firstFrame_99 (by decide) ?_
                      refine lv_istore hx hb d_Mod_firstFrame_100 hl (by decide) rfl (fun ls hl => ?_)
                      have hl : lv_has ls 7 [(6, .int 1), (5, .int 4), (4, .int (nI qq - 1)), (3, .int ft), (2, .int (nI nx)), (0, .ref h0), (1, .int (nI mt))] := hl
                      refine lv_iload_n hx hb d_Mod_firstFrame_102 rfl (lv_at hl 3 rfl) ?_
                      refine lv_if_eq (tgt := 123) hx hb d_Mod_firstFrame_103 (by decide) (fun h103 => ?_) (fun h103 => ?_)
                      · refine lv_iconst (v := 0) hx hb d_Mod_firstFrame_123 (by decide) ?_
                        refine lv_istore_n hx hb d_Mod_firstFrame_124 rfl hl (by decide) rfl (fun ls hl => ?_)
                        have hl : lv_has ls 7 [(3, .int 0), (6, .int 1), (5, .int 4), (4, .int (nI qq - 1)), (2, .int (nI nx)), (0, .ref h0), (1, .int (nI mt))] := hl
                        refine lv_iload_n hx hb d_Mod_firstFrame_125 rfl (lv_at hl 0 rfl) ?_
                        refine lv_if_eq (tgt := 163) hx hb d_Mod_firstFrame_126 (by decide) (fun h126 => ?_) (fun h126 => ?_)
                        · refine lv_iload_n hx hb d_Mod_firstFrame_163 rfl (lv_at hl 4 rfl) ?_
                          refine lv_iload hx hb d_Mod_firstFrame_164 (lv_at hl 1 rfl) ?_
                          refine lv_iadd hx hb d_Mod_firstFrame_166 ?_
                          refine tw_ri (e2 := nI (nx + 1)) (nI_add nx 1) ?_
                          refine lv_istore_n hx hb d_Mod_firstFrame_167 rfl hl (by decide) rfl (fun ls hl => ?_)
                          have hl : lv_has ls 7 [(2, .int (nI (nx + 1))), (3, .int 0), (6, .int 1), (5, .int 4), (4, .int (nI qq - 1)), (0, .ref h0), (1, .int (nI mt))] := hl
                          refine lv_iinc (k := 4) (v := nI (qq + 1) - 1) hx hb d_Mod_firstFrame_168 hl rfl (ff_up qq) (by decide) rfl (fun ls hl => ?_)
                          have hl : lv_has ls 7 [(4, .int (nI (qq + 1) - 1)), (2, .int (nI (nx + 1))), (3, .int 0), (6, .int 1), (5, .int 4), (0, .ref h0), (1, .int (nI mt))] := hl
                          refine lv_goto (tgt := 55) hx hb d_Mod_firstFrame_171 (by decide) ?_
                          have hP : va_P g.1 classes [(h0, .inr (10, mob q rf n mm mb fa fp av ev wi mn tp tc sc nf fd me mp xn mt wh tq u2.1 u2.2.1 ig)), ((q 2), aI g 600 bs), ((q 16), aI g 620 on), ((q 17), aI g 620 tw), ((q 27), aI g 160 fl), ((q 28), aI g 160 pl), ((q 30), aI g 160 ty), ((q 33), aI g 160 lo), ((q 34), aI g 160 bg), ((q 41), aI g 600 dp), ((q 42), aZ g 600 iw), ((q 43), aI g 76800 kd), ((q 47), aI g 128 nw8), ((q 50), aI g 600 u2.2.2)] H := hP.sub [0, 1, 2, 3, 4, 5, 6, 7, 8, 9, 10, 11, 12, 13] rfl
                          have hD : va_D A [(h0, .inr (10, mob q rf n mm mb fa fp av ev wi mn tp tc sc nf fd me mp xn mt wh tq u2.1 u2.2.1 ig)), ((q 2), aI g 600 bs), ((q 16), aI g 620 on), ((q 17), aI g 620 tw), ((q 27), aI g 160 fl), ((q 28), aI g 160 pl), ((q 30), aI g 160 ty), ((q 33), aI g 160 lo), ((q 34), aI g 160 bg), ((q 41), aI g 600 dp), ((q 42), aZ g 600 iw), ((q 43), aI g 76800 kd), ((q 47), aI g 128 nw8), ((q 50), aI g 600 u2.2.2)] := hD.sub [0, 1, 2, 3, 4, 5, 6, 7, 8, 9, 10, 11, 12, 13] (by decide) rfl
                          exact ih55 _ (by omega) (nx + 1) 0 (qq + 1) nw8 ls _ _ rfl (by omega) (by omega) hNW8 (lv_sub hl [0, 2, 1, 5, 6] rfl) hP hD hS
                        · first | exact absurd h126 (by decide) | exact absurd (by decide) h126
                      · refine lv_iload_n hx hb d_Mod_firstFrame_106 rfl (lv_at hl 4 rfl) ?_
                        refine lv_iload hx hb d_Mod_firstFrame_107 (lv_at hl 0 rfl) ?_
                        refine lv_iadd hx hb d_Mod_firstFrame_109 ?_
                        refine tw_ri (e2 := nI (nx + 1)) (nI_add nx 1) ?_
                        refine lv_aload_n hx hb d_Mod_firstFrame_110 rfl (lv_at hl 5 rfl) ?_
                        refine va_get (D := g.1) (ci := 10) (v := .ref (q 33)) (C := R_Mod) (T := F_Mod) (N := 61) hx hb hts in_Mod hown hK hP 0 rfl rfl 33 (by decide) (hts _ wd_1283) (fun _ h9 => h9) rfl d_Mod_firstFrame_111 ?_
                        refine lv_iload_n hx hb d_Mod_firstFrame_114 rfl (lv_at hl 6 rfl) ?_
                        refine va_iald hx hb hK hP 7 0 rfl rfl (vp_in_nI (by omega) (by decide)) d_Mod_firstFrame_115 ?_
                        refine tw_ri (e2 := nI o1) (by rw [nI_clamp (by omega)]; exact hlo) ?_
                        refine lv_icmp_gt (tgt := 123) hx hb d_Mod_firstFrame_116 (by decide) (fun h116 => ?_) (fun h116 => ?_)
                        · refine lv_iconst (v := 0) hx hb d_Mod_firstFrame_123 (by decide) ?_
                          refine lv_istore_n hx hb d_Mod_firstFrame_124 rfl hl (by decide) rfl (fun ls hl => ?_)
                          have hl : lv_has ls 7 [(3, .int 0), (6, .int 1), (5, .int 4), (4, .int (nI qq - 1)), (2, .int (nI nx)), (0, .ref h0), (1, .int (nI mt))] := hl
                          refine lv_iload_n hx hb d_Mod_firstFrame_125 rfl (lv_at hl 0 rfl) ?_
                          refine lv_if_eq (tgt := 163) hx hb d_Mod_firstFrame_126 (by decide) (fun h126 => ?_) (fun h126 => ?_)
                          · refine lv_iload_n hx hb d_Mod_firstFrame_163 rfl (lv_at hl 4 rfl) ?_
                            refine lv_iload hx hb d_Mod_firstFrame_164 (lv_at hl 1 rfl) ?_
                            refine lv_iadd hx hb d_Mod_firstFrame_166 ?_
                            refine tw_ri (e2 := nI (nx + 1)) (nI_add nx 1) ?_
                            refine lv_istore_n hx hb d_Mod_firstFrame_167 rfl hl (by decide) rfl (fun ls hl => ?_)
                            have hl : lv_has ls 7 [(2, .int (nI (nx + 1))), (3, .int 0), (6, .int 1), (5, .int 4), (4, .int (nI qq - 1)), (0, .ref h0), (1, .int (nI mt))] := hl
                            refine lv_iinc (k := 4) (v := nI (qq + 1) - 1) hx hb d_Mod_firstFrame_168 hl rfl (ff_up qq) (by decide) rfl (fun ls hl => ?_)
                            have hl : lv_has ls 7 [(4, .int (nI (qq + 1) - 1)), (2, .int (nI (nx + 1))), (3, .int 0), (6, .int 1), (5, .int 4), (0, .ref h0), (1, .int (nI mt))] := hl
                            refine lv_goto (tgt := 55) hx hb d_Mod_firstFrame_171 (by decide) ?_
                            have hP : va_P g.1 classes [(h0, .inr (10, mob q rf n mm mb fa fp av ev wi mn tp tc sc nf fd me mp xn mt wh tq u2.1 u2.2.1 ig)), ((q 2), aI g 600 bs), ((q 16), aI g 620 on), ((q 17), aI g 620 tw), ((q 27), aI g 160 fl), ((q 28), aI g 160 pl), ((q 30), aI g 160 ty), ((q 33), aI g 160 lo), ((q 34), aI g 160 bg), ((q 41), aI g 600 dp), ((q 42), aZ g 600 iw), ((q 43), aI g 76800 kd), ((q 47), aI g 128 nw8), ((q 50), aI g 600 u2.2.2)] H := hP.sub [0, 1, 2, 3, 4, 5, 6, 7, 8, 9, 10, 11, 12, 13] rfl
                            have hD : va_D A [(h0, .inr (10, mob q rf n mm mb fa fp av ev wi mn tp tc sc nf fd me mp xn mt wh tq u2.1 u2.2.1 ig)), ((q 2), aI g 600 bs), ((q 16), aI g 620 on), ((q 17), aI g 620 tw), ((q 27), aI g 160 fl), ((q 28), aI g 160 pl), ((q 30), aI g 160 ty), ((q 33), aI g 160 lo), ((q 34), aI g 160 bg), ((q 41), aI g 600 dp), ((q 42), aZ g 600 iw), ((q 43), aI g 76800 kd), ((q 47), aI g 128 nw8), ((q 50), aI g 600 u2.2.2)] := hD.sub [0, 1, 2, 3, 4, 5, 6, 7, 8, 9, 10, 11, 12, 13] (by decide) rfl
                            exact ih55 _ (by omega) (nx + 1) 0 (qq + 1) nw8 ls _ _ rfl (by omega) (by omega) hNW8 (lv_sub hl [0, 2, 1, 5, 6] rfl) hP hD hS
                          · first | exact absurd h126 (by decide) | exact absurd (by decide) h126
                        · have h116 := tn_nlt h116 (by omega) (by omega)
                          refine lv_iconst (v := 1) hx hb d_Mod_firstFrame_119 (by decide) ?_
                          refine lv_goto (tgt := 124) hx hb d_Mod_firstFrame_120 (by decide) ?_
                          refine lv_istore_n hx hb d_Mod_firstFrame_124 rfl hl (by decide) rfl (fun ls hl => ?_)
                          have hl : lv_has ls 7 [(3, .int 1), (6, .int 1), (5, .int 4), (4, .int (nI qq - 1)), (2, .int (nI nx)), (0, .ref h0), (1, .int (nI mt))] := hl
                          refine lv_iload_n hx hb d_Mod_firstFrame_125 rfl (lv_at hl 0 rfl) ?_
                          refine lv_if_eq (tgt := 163) hx hb d_Mod_firstFrame_126 (by decide) (fun h126 => ?_) (fun h126 => ?_)
                          · first | exact absurd h126 (by decide) | exact absurd (by decide) h126
                          · refine lv_aload_n hx hb d_Mod_firstFrame_129 rfl (lv_at hl 5 rfl) ?_
                            refine va_get (D := g.1) (ci := 10) (v := .ref (q 47)) (C := R_Mod) (T := F_Mod) (N := 61) hx hb hts in_Mod hown hK hP 0 rfl rfl 47 (by decide) (hts _ wd_1297) (fun _ h9 => h9) rfl d_Mod_firstFrame_130 ?_
                            refine lv_iload_n hx hb d_Mod_firstFrame_133 rfl (lv_at hl 4 rfl) ?_
                            refine lv_iload hx hb d_Mod_firstFrame_134 (lv_at hl 2 rfl) ?_
                            refine lv_bipush (v := 9) hx hb d_Mod_firstFrame_136 (by decide) ?_
                            refine lv_icmp_lt (tgt := 145) hx hb d_Mod_firstFrame_138 (by decide) (fun h138 => ?_) (fun h138 => ?_)
                            · refine lv_iload hx hb d_Mod_firstFrame_145 (lv_at hl 2 rfl) ?_
                              refine va_iast hx hb hK hP hD hS 12 0 rfl rfl (vp_in_nI (by omega) (by decide)) d_Mod_firstFrame_147 (fun H locs hP hD hS => ?_)
                              have hP : va_P g.1 classes [(h0, .inr (10, mob q rf n mm mb fa fp av ev wi mn tp tc sc nf fd me mp xn mt wh tq u2.1 u2.2.1 ig)), ((q 2), aI g 600 bs), ((q 16), aI g 620 on), ((q 17), aI g 620 tw), ((q 27), aI g 160 fl), ((q 28), aI g 160 pl), ((q 30), aI g 160 ty), ((q 33), aI g 160 lo), ((q 34), aI g 160 bg), ((q 41), aI g 600 dp), ((q 42), aZ g 600 iw), ((q 43), aI g 76800 kd), ((q 47), aI g 128 (upd nw8 (nI nx).toNatClampNeg 4)), ((q 50), aI g 600 u2.2.2)] H := hP
                              have hD : va_D A [(h0, .inr (10, mob q rf n mm mb fa fp av ev wi mn tp tc sc nf fd me mp xn mt wh tq u2.1 u2.2.1 ig)), ((q 2), aI g 600 bs), ((q 16), aI g 620 on), ((q 17), aI g 620 tw), ((q 27), aI g 160 fl), ((q 28), aI g 160 pl), ((q 30), aI g 160 ty), ((q 33), aI g 160 lo), ((q 34), aI g 160 bg), ((q 41), aI g 600 dp), ((q 42), aZ g 600 iw), ((q 43), aI g 76800 kd), ((q 47), aI g 128 (upd nw8 (nI nx).toNatClampNeg 4)), ((q 50), aI g 600 u2.2.2)] := hD
                              have e9 : upd nw8 (nI nx).toNatClampNeg 4 = upd nw8 nx 4 := by rw [nI_clamp (by omega)]
                              rw [e9] at hP hD
                              refine lv_iload hx hb d_Mod_firstFrame_148 (lv_at hl 2 rfl) ?_
                              refine lv_iconst (v := 2) hx hb d_Mod_firstFrame_150 (by decide) ?_
                              refine lv_icmp_ne (tgt := 163) hx hb d_Mod_firstFrame_151 (by decide) (fun h151 => ?_) (fun h151 => ?_)
                              · refine lv_iload_n hx hb d_Mod_firstFrame_163 rfl (lv_at hl 4 rfl) ?_
                                refine lv_iload hx hb d_Mod_firstFrame_164 (lv_at hl 1 rfl) ?_
                                refine lv_iadd hx hb d_Mod_firstFrame_166 ?_
                                refine tw_ri (e2 := nI (nx + 1)) (nI_add nx 1) ?_
                                refine lv_istore_n hx hb d_Mod_firstFrame_167 rfl hl (by decide) rfl (fun ls hl => ?_)
                                have hl : lv_has ls 7 [(2, .int (nI (nx + 1))), (3, .int 1), (6, .int 1), (5, .int 4), (4, .int (nI qq - 1)), (0, .ref h0), (1, .int (nI mt))] := hl
                                refine lv_iinc (k := 4) (v := nI (qq + 1) - 1) hx hb d_Mod_firstFrame_168 hl rfl (ff_up qq) (by decide) rfl (fun ls hl => ?_)
                                have hl : lv_has ls 7 [(4, .int (nI (qq + 1) - 1)), (2, .int (nI (nx + 1))), (3, .int 1), (6, .int 1), (5, .int 4), (0, .ref h0), (1, .int (nI mt))] := hl
                                refine lv_goto (tgt := 55) hx hb d_Mod_firstFrame_171 (by decide) ?_
                                have hP : va_P g.1 classes [(h0, .inr (10, mob q rf n mm mb fa fp av ev wi mn tp tc sc nf fd me mp xn mt wh tq u2.1 u2.2.1 ig)), ((q 2), aI g 600 bs), ((q 16), aI g 620 on), ((q 17), aI g 620 tw), ((q 27), aI g 160 fl), ((q 28), aI g 160 pl), ((q 30), aI g 160 ty), ((q 33), aI g 160 lo), ((q 34), aI g 160 bg), ((q 41), aI g 600 dp), ((q 42), aZ g 600 iw), ((q 43), aI g 76800 kd), ((q 47), aI g 128 (upd nw8 nx 4)), ((q 50), aI g 600 u2.2.2)] H := hP.sub [0, 1, 2, 3, 4, 5, 6, 7, 8, 9, 10, 11, 12, 13] rfl
                                have hD : va_D A [(h0, .inr (10, mob q rf n mm mb fa fp av ev wi mn tp tc sc nf fd me mp xn mt wh tq u2.1 u2.2.1 ig)), ((q 2), aI g 600 bs), ((q 16), aI g 620 on), ((q 17), aI g 620 tw), ((q 27), aI g 160 fl), ((q 28), aI g 160 pl), ((q 30), aI g 160 ty), ((q 33), aI g 160 lo), ((q 34), aI g 160 bg), ((q 41), aI g 600 dp), ((q 42), aZ g 600 iw), ((q 43), aI g 76800 kd), ((q 47), aI g 128 (upd nw8 nx 4)), ((q 50), aI g 600 u2.2.2)] := hD.sub [0, 1, 2, 3, 4, 5, 6, 7, 8, 9, 10, 11, 12, 13] (by decide) rfl
                                exact ih55 _ (by omega) (nx + 1) 1 (qq + 1) (upd nw8 nx 4) ls _ _ rfl (by omega) (by omega) (hNW8.put (by decide)) (lv_sub hl [0, 2, 1, 5, 6] rfl) hP hD hS
                              · exact absurd h151 h85
                            · refine lv_iconst (v := 0) hx hb d_Mod_firstFrame_141 (by decide) ?_
                              refine lv_goto (tgt := 147) hx hb d_Mod_firstFrame_142 (by decide) ?_
                              refine va_iast hx hb hK hP hD hS 12 0 rfl rfl (vp_in_nI (by omega) (by decide)) d_Mod_firstFrame_147 (fun H locs hP hD hS => ?_)
                              have hP : va_P g.1 classes [(h0, .inr (10, mob q rf n mm mb fa fp av ev wi mn tp tc sc nf fd me mp xn mt wh tq u2.1 u2.2.1 ig)), ((q 2), aI g 600 bs), ((q 16), aI g 620 on), ((q 17), aI g 620 tw), ((q 27), aI g 160 fl), ((q 28), aI g 160 pl), ((q 30), aI g 160 ty), ((q 33), aI g 160 lo), ((q 34), aI g 160 bg), ((q 41), aI g 600 dp), ((q 42), aZ g 600 iw), ((q 43), aI g 76800 kd), ((q 47), aI g 128 (upd nw8 (nI nx).toNatClampNeg 0)), ((q 50), aI g 600 u2.2.2)] H := hP
                              have hD : va_D A [(h0, .inr (10, mob q rf n mm mb fa fp av ev wi mn tp tc sc nf fd me mp xn mt wh tq u2.1 u2.2.1 ig)), ((q 2), aI g 600 bs), ((q 16), aI g 620 on), ((q 17), aI g 620 tw), ((q 27), aI g 160 fl), ((q 28), aI g 160 pl), ((q 30), aI g 160 ty), ((q 33), aI g 160 lo), ((q 34), aI g 160 bg), ((q 41), aI g 600 dp), ((q 42), aZ g 600 iw), ((q 43), aI g 76800 kd), ((q 47), aI g 128 (upd nw8 (nI nx).toNatClampNeg 0)), ((q 50), aI g 600 u2.2.2)] := hD
                              have e9 : upd nw8 (nI nx).toNatClampNeg 0 = upd nw8 nx 0 := by rw [nI_clamp (by omega)]
                              rw [e9] at hP hD
                              refine lv_iload hx hb d_Mod_firstFrame_148 (lv_at hl 2 rfl) ?_
                              refine lv_iconst (v := 2) hx hb d_Mod_firstFrame_150 (by decide) ?_
                              refine lv_icmp_ne (tgt := 163) hx hb d_Mod_firstFrame_151 (by decide) (fun h151 => ?_) (fun h151 => ?_)
                              · refine lv_iload_n hx hb d_Mod_firstFrame_163 rfl (lv_at hl 4 rfl) ?_
                                refine lv_iload hx hb d_Mod_firstFrame_164 (lv_at hl 1 rfl) ?_
                                refine lv_iadd hx hb d_Mod_firstFrame_166 ?_
                                refine tw_ri (e2 := nI (nx + 1)) (nI_add nx 1) ?_
                                refine lv_istore_n hx hb d_Mod_firstFrame_167 rfl hl (by decide) rfl (fun ls hl => ?_)
                                have hl : lv_has ls 7 [(2, .int (nI (nx + 1))), (3, .int 1), (6, .int 1), (5, .int 4), (4, .int (nI qq - 1)), (0, .ref h0), (1, .int (nI mt))] := hl
                                refine lv_iinc (k := 4) (v := nI (qq + 1) - 1) hx hb d_Mod_firstFrame_168 hl rfl (ff_up qq) (by decide) rfl (fun ls hl => ?_)
                                have hl : lv_has ls 7 [(4, .int (nI (qq + 1) - 1)), (2, .int (nI (nx + 1))), (3, .int 1), (6, .int 1), (5, .int 4), (0, .ref h0), (1, .int (nI mt))] := hl
                                refine lv_goto (tgt := 55) hx hb d_Mod_firstFrame_171 (by decide) ?_
                                have hP : va_P g.1 classes [(h0, .inr (10, mob q rf n mm mb fa fp av ev wi mn tp tc sc nf fd me mp xn mt wh tq u2.1 u2.2.1 ig)), ((q 2), aI g 600 bs), ((q 16), aI g 620 on), ((q 17), aI g 620 tw), ((q 27), aI g 160 fl), ((q 28), aI g 160 pl), ((q 30), aI g 160 ty), ((q 33), aI g 160 lo), ((q 34), aI g 160 bg), ((q 41), aI g 600 dp), ((q 42), aZ g 600 iw), ((q 43), aI g 76800 kd), ((q 47), aI g 128 (upd nw8 nx 0)), ((q 50), aI g 600 u2.2.2)] H := hP.sub [0, 1, 2, 3, 4, 5, 6, 7, 8, 9, 10, 11, 12, 13] rfl
                                have hD : va_D A [(h0, .inr (10, mob q rf n mm mb fa fp av ev wi mn tp tc sc nf fd me mp xn mt wh tq u2.1 u2.2.1 ig)), ((q 2), aI g 600 bs), ((q 16), aI g 620 on), ((q 17), aI g 620 tw), ((q 27), aI g 160 fl), ((q 28), aI g 160 pl), ((q 30), aI g 160 ty), ((q 33), aI g 160 lo), ((q 34), aI g 160 bg), ((q 41), aI g 600 dp), ((q 42), aZ g 600 iw), ((q 43), aI g 76800 kd), ((q 47), aI g 128 (upd nw8 nx 0)), ((q 50), aI g 600 u2.2.2)] := hD.sub [0, 1, 2, 3, 4, 5, 6, 7, 8, 9, 10, 11, 12, 13] (by decide) rfl
                                exact ih55 _ (by omega) (nx + 1) 1 (qq + 1) (upd nw8 nx 0) ls _ _ rfl (by omega) (by omega) (hNW8.put (by decide)) (lv_sub hl [0, 2, 1, 5, 6] rfl) hP hD hS
                              · exact absurd h151 h85
                    · refine lv_iconst (v := 2) hx hb d_Mod_firstFrame_95 (by decide) ?_
                      refine lv_goto (tgt := 100) hx hb d_Mod_firstFrame_96 (by decide) ?_
                      refine lv_istore hx hb d_Mod_firstFrame_100 hl (by decide) rfl (fun ls hl => ?_)
                      have hl : lv_has ls 7 [(6, .int 2), (5, .int 4), (4, .int (nI qq - 1)), (3, .int ft), (2, .int (nI nx)), (0, .ref h0), (1, .int (nI mt))] := hl
                      refine lv_iload_n hx hb d_Mod_firstFrame_102 rfl (lv_at hl 3 rfl) ?_
                      refine lv_if_eq (tgt := 123) hx hb d_Mod_firstFrame_103 (by decide) (fun h103 => ?_) (fun h103 => ?_)
                      · refine lv_iconst (v := 0) hx hb d_Mod_firstFrame_123 (by decide) ?_
                        refine lv_istore_n hx hb d_Mod_firstFrame_124 rfl hl (by decide) rfl (fun ls hl => ?_)
                        have hl : lv_has ls 7 [(3, .int 0), (6, .int 2), (5, .int 4), (4, .int (nI qq - 1)), (2, .int (nI nx)), (0, .ref h0), (1, .int (nI mt))] := hl
                        refine lv_iload_n hx hb d_Mod_firstFrame_125 rfl (lv_at hl 0 rfl) ?_
                        refine lv_if_eq (tgt := 163) hx hb d_Mod_firstFrame_126 (by decide) (fun h126 => ?_) (fun h126 => ?_)
                        · refine lv_iload_n hx hb d_Mod_firstFrame_163 rfl (lv_at hl 4 rfl) ?_
                          refine lv_iload hx hb d_Mod_firstFrame_164 (lv_at hl 1 rfl) ?_
                          refine lv_iadd hx hb d_Mod_firstFrame_166 ?_
                          refine tw_ri (e2 := nI (nx + 2)) (nI_add nx 2) ?_
                          refine lv_istore_n hx hb d_Mod_firstFrame_167 rfl hl (by decide) rfl (fun ls hl => ?_)
                          have hl : lv_has ls 7 [(2, .int (nI (nx + 2))), (3, .int 0), (6, .int 2), (5, .int 4), (4, .int (nI qq - 1)), (0, .ref h0), (1, .int (nI mt))] := hl
                          refine lv_iinc (k := 4) (v := nI (qq + 1) - 1) hx hb d_Mod_firstFrame_168 hl rfl (ff_up qq) (by decide) rfl (fun ls hl => ?_)
                          have hl : lv_has ls 7 [(4, .int (nI (qq + 1) - 1)), (2, .int (nI (nx + 2))), (3, .int 0), (6, .int 2), (5, .int 4), (0, .ref h0), (1, .int (nI mt))] := hl
                          refine lv_goto (tgt := 55) hx hb d_Mod_firstFrame_171 (by decide) ?_
                          have hP : va_P g.1 classes [(h0, .inr (10, mob q rf n mm mb fa fp av ev wi mn tp tc sc nf fd me mp xn mt wh tq u2.1 u2.2.1 ig)), ((q 2), aI g 600 bs), ((q 16), aI g 620 on), ((q 17), aI g 620 tw), ((q 27), aI g 160 fl), ((q 28), aI g 160 pl), ((q 30), aI g 160 ty), ((q 33), aI g 160 lo), ((q 34), aI g 160 bg), ((q 41), aI g 600 dp), ((q 42), aZ g 600 iw), ((q 43), aI g 76800 kd), ((q 47), aI g 128 nw8), ((q 50), aI g 600 u2.2.2)] H := hP.sub [0, 1, 2, 3, 4, 5, 6, 7, 8, 9, 10, 11, 12, 13] rfl
                          have hD : va_D A [(h0, .inr (10, mob q rf n mm mb fa fp av ev wi mn tp tc sc nf fd me mp xn mt wh tq u2.1 u2.2.1 ig)), ((q 2), aI g 600 bs), ((q 16), aI g 620 on), ((q 17), aI g 620 tw), ((q 27), aI g 160 fl), ((q 28), aI g 160 pl), ((q 30), aI g 160 ty), ((q 33), aI g 160 lo), ((q 34), aI g 160 bg), ((q 41), aI g 600 dp), ((q 42), aZ g 600 iw), ((q 43), aI g 76800 kd), ((q 47), aI g 128 nw8), ((q 50), aI g 600 u2.2.2)] := hD.sub [0, 1, 2, 3, 4, 5, 6, 7, 8, 9, 10, 11, 12, 13] (by decide) rfl
                          exact ih55 _ (by omega) (nx + 2) 0 (qq + 1) nw8 ls _ _ rfl (by omega) (by omega) hNW8 (lv_sub hl [0, 2, 1, 5, 6] rfl) hP hD hS
                        · first | exact absurd h126 (by decide) | exact absurd (by decide) h126
                      · refine lv_iload_n hx hb d_Mod_firstFrame_106 rfl (lv_at hl 4 rfl) ?_
                        refine lv_iload hx hb d_Mod_firstFrame_107 (lv_at hl 0 rfl) ?_
                        refine lv_iadd hx hb d_Mod_firstFrame_109 ?_
                        refine tw_ri (e2 := nI (nx + 2)) (nI_add nx 2) ?_
                        refine lv_aload_n hx hb d_Mod_firstFrame_110 rfl (lv_at hl 5 rfl) ?_
                        refine va_get (D := g.1) (ci := 10) (v := .ref (q 33)) (C := R_Mod) (T := F_Mod) (N := 61) hx hb hts in_Mod hown hK hP 0 rfl rfl 33 (by decide) (hts _ wd_1283) (fun _ h9 => h9) rfl d_Mod_firstFrame_111 ?_
                        refine lv_iload_n hx hb d_Mod_firstFrame_114 rfl (lv_at hl 6 rfl) ?_
                        refine va_iald hx hb hK hP 7 0 rfl rfl (vp_in_nI (by omega) (by decide)) d_Mod_firstFrame_115 ?_
                        refine tw_ri (e2 := nI o1) (by rw [nI_clamp (by omega)]; exact hlo) ?_
                        refine lv_icmp_gt (tgt := 123) hx hb d_Mod_firstFrame_116 (by decide) (fun h116 => ?_) (fun h116 => ?_)
                        · refine lv_iconst (v := 0) hx hb d_Mod_firstFrame_123 (by decide) ?_
                          refine lv_istore_n hx hb d_Mod_firstFrame_124 rfl hl (by decide) rfl (fun ls hl => ?_)
                          have hl : lv_has ls 7 [(3, .int 0), (6, .int 2), (5, .int 4), (4, .int (nI qq - 1)), (2, .int (nI nx)), (0, .ref h0), (1, .int (nI mt))] := hl
                          refine lv_iload_n hx hb d_Mod_firstFrame_125 rfl (lv_at hl 0 rfl) ?_
                          refine lv_if_eq (tgt := 163) hx hb d_Mod_firstFrame_126 (by decide) (fun h126 => ?_) (fun h126 => ?_)
                          · refine lv_iload_n hx hb d_Mod_firstFrame_163 rfl (lv_at hl 4 rfl) ?_
                            refine lv_iload hx hb d_Mod_firstFrame_164 (lv_at hl 1 rfl) ?_
                            refine lv_iadd hx hb d_Mod_firstFrame_166 ?_
                            refine tw_ri (e2 := nI (nx + 2)) (nI_add nx 2) ?_
                            refine lv_istore_n hx hb d_Mod_firstFrame_167 rfl hl (by decide) rfl (fun ls hl => ?_)
                            have hl : lv_has ls 7 [(2, .int (nI (nx + 2))), (3, .int 0), (6, .int 2), (5, .int 4), (4, .int (nI qq - 1)), (0, .ref h0), (1, .int (nI mt))] := hl
                            refine lv_iinc (k := 4) (v := nI (qq + 1) - 1) hx hb d_Mod_firstFrame_168 hl rfl (ff_up qq) (by decide) rfl (fun ls hl => ?_)
                            have hl : lv_has ls 7 [(4, .int (nI (qq + 1) - 1)), (2, .int (nI (nx + 2))), (3, .int 0), (6, .int 2), (5, .int 4), (0, .ref h0), (1, .int (nI mt))] := hl
                            refine lv_goto (tgt := 55) hx hb d_Mod_firstFrame_171 (by decide) ?_
                            have hP : va_P g.1 classes [(h0, .inr (10, mob q rf n mm mb fa fp av ev wi mn tp tc sc nf fd me mp xn mt wh tq u2.1 u2.2.1 ig)), ((q 2), aI g 600 bs), ((q 16), aI g 620 on), ((q 17), aI g 620 tw), ((q 27), aI g 160 fl), ((q 28), aI g 160 pl), ((q 30), aI g 160 ty), ((q 33), aI g 160 lo), ((q 34), aI g 160 bg), ((q 41), aI g 600 dp), ((q 42), aZ g 600 iw), ((q 43), aI g 76800 kd), ((q 47), aI g 128 nw8), ((q 50), aI g 600 u2.2.2)] H := hP.sub [0, 1, 2, 3, 4, 5, 6, 7, 8, 9, 10, 11, 12, 13] rfl
                            have hD : va_D A [(h0, .inr (10, mob q rf n mm mb fa fp av ev wi mn tp tc sc nf fd me mp xn mt wh tq u2.1 u2.2.1 ig)), ((q 2), aI g 600 bs), ((q 16), aI g 620 on), ((q 17), aI g 620 tw), ((q 27), aI g 160 fl), ((q 28), aI g 160 pl), ((q 30), aI g 160 ty), ((q 33), aI g 160 lo), ((q 34), aI g 160 bg), ((q 41), aI g 600 dp), ((q 42), aZ g 600 iw), ((q 43), aI g 76800 kd), ((q 47), aI g 128 nw8), ((q 50), aI g 600 u2.2.2)] := hD.sub [0, 1, 2, 3, 4, 5, 6, 7, 8, 9, 10, 11, 12, 13] (by decide) rfl
                            exact ih55 _ (by omega) (nx + 2) 0 (qq + 1) nw8 ls _ _ rfl (by omega) (by omega) hNW8 (lv_sub hl [0, 2, 1, 5, 6] rfl) hP hD hS
                          · first | exact absurd h126 (by decide) | exact absurd (by decide) h126
                        · have h116 := tn_nlt h116 (by omega) (by omega)
                          refine lv_iconst (v := 1) hx hb d_Mod_firstFrame_119 (by decide) ?_
                          refine lv_goto (tgt := 124) hx hb d_Mod_firstFrame_120 (by decide) ?_
                          refine lv_istore_n hx hb d_Mod_firstFrame_124 rfl hl (by decide) rfl (fun ls hl => ?_)
                          have hl : lv_has ls 7 [(3, .int 1), (6, .int 2), (5, .int 4), (4, .int (nI qq - 1)), (2, .int (nI nx)), (0, .ref h0), (1, .int (nI mt))] := hl
                          refine lv_iload_n hx hb d_Mod_firstFrame_125 rfl (lv_at hl 0 rfl) ?_
                          refine lv_if_eq (tgt := 163) hx hb d_Mod_firstFrame_126 (by decide) (fun h126 => ?_) (fun h126 => ?_)
                          · first | exact absurd h126 (by decide) | exact absurd (by decide) h126
                          · refine lv_aload_n hx hb d_Mod_firstFrame_129 rfl (lv_at hl 5 rfl) ?_
                            refine va_get (D := g.1) (ci := 10) (v := .ref (q 47)) (C := R_Mod) (T := F_Mod) (N := 61) hx hb hts in_Mod hown hK hP 0 rfl rfl 47 (by decide) (hts _ wd_1297) (fun _ h9 => h9) rfl d_Mod_firstFrame_130 ?_
                            refine lv_iload_n hx hb d_Mod_firstFrame_133 rfl (lv_at hl 4 rfl) ?_
                            refine lv_iload hx hb d_Mod_firstFrame_134 (lv_at hl 2 rfl) ?_
                            refine lv_bipush (v := 9) hx hb d_Mod_firstFrame_136 (by decide) ?_
                            refine lv_icmp_lt (tgt := 145) hx hb d_Mod_firstFrame_138 (by decide) (fun h138 => ?_) (fun h138 => ?_)
                            · refine lv_iload hx hb d_Mod_firstFrame_145 (lv_at hl 2 rfl) ?_
                              refine va_iast hx hb hK hP hD hS 12 0 rfl rfl (vp_in_nI (by omega) (by decide)) d_Mod_firstFrame_147 (fun H locs hP hD hS => ?_)
                              have hP : va_P g.1 classes [(h0, .inr (10, mob q rf n mm mb fa fp av ev wi mn tp tc sc nf fd me mp xn mt wh tq u2.1 u2.2.1 ig)), ((q 2), aI g 600 bs), ((q 16), aI g 620 on), ((q 17), aI g 620 tw), ((q 27), aI g 160 fl), ((q 28), aI g 160 pl), ((q 30), aI g 160 ty), ((q 33), aI g 160 lo), ((q 34), aI g 160 bg), ((q 41), aI g 600 dp), ((q 42), aZ g 600 iw), ((q 43), aI g 76800 kd), ((q 47), aI g 128 (upd nw8 (nI nx).toNatClampNeg 4)), ((q 50), aI g 600 u2.2.2)] H := hP
                              have hD : va_D A [(h0, .inr (10, mob q rf n mm mb fa fp av ev wi mn tp tc sc nf fd me mp xn mt wh tq u2.1 u2.2.1 ig)), ((q 2), aI g 600 bs), ((q 16), aI g 620 on), ((q 17), aI g 620 tw), ((q 27), aI g 160 fl), ((q 28), aI g 160 pl), ((q 30), aI g 160 ty), ((q 33), aI g 160 lo), ((q 34), aI g 160 bg), ((q 41), aI g 600 dp), ((q 42), aZ g 600 iw), ((q 43), aI g 76800 kd), ((q 47), aI g 128 (upd nw8 (nI nx).toNatClampNeg 4)), ((q 50), aI g 600 u2.2.2)] := hD
                              have e9 : upd nw8 (nI nx).toNatClampNeg 4 = upd nw8 nx 4 := by rw [nI_clamp (by omega)]
                              rw [e9] at hP hD
                              refine lv_iload hx hb d_Mod_firstFrame_148 (lv_at hl 2 rfl) ?_
                              refine lv_iconst (v := 2) hx hb d_Mod_firstFrame_150 (by decide) ?_
                              refine lv_icmp_ne (tgt := 163) hx hb d_Mod_firstFrame_151 (by decide) (fun h151 => ?_) (fun h151 => ?_)
                              · refine lv_iload_n hx hb d_Mod_firstFrame_163 rfl (lv_at hl 4 rfl) ?_
                                refine lv_iload hx hb d_Mod_firstFrame_164 (lv_at hl 1 rfl) ?_
                                refine lv_iadd hx hb d_Mod_firstFrame_166 ?_
                                refine tw_ri (e2 := nI (nx + 2)) (nI_add nx 2) ?_
                                refine lv_istore_n hx hb d_Mod_firstFrame_167 rfl hl (by decide) rfl (fun ls hl => ?_)
                                have hl : lv_has ls 7 [(2, .int (nI (nx + 2))), (3, .int 1), (6, .int 2), (5, .int 4), (4, .int (nI qq - 1)), (0, .ref h0), (1, .int (nI mt))] := hl
                                refine lv_iinc (k := 4) (v := nI (qq + 1) - 1) hx hb d_Mod_firstFrame_168 hl rfl (ff_up qq) (by decide) rfl (fun ls hl => ?_)
                                have hl : lv_has ls 7 [(4, .int (nI (qq + 1) - 1)), (2, .int (nI (nx + 2))), (3, .int 1), (6, .int 2), (5, .int 4), (0, .ref h0), (1, .int (nI mt))] := hl
                                refine lv_goto (tgt := 55) hx hb d_Mod_firstFrame_171 (by decide) ?_
                                have hP : va_P g.1 classes [(h0, .inr (10, mob q rf n mm mb fa fp av ev wi mn tp tc sc nf fd me mp xn mt wh tq u2.1 u2.2.1 ig)), ((q 2), aI g 600 bs), ((q 16), aI g 620 on), ((q 17), aI g 620 tw), ((q 27), aI g 160 fl), ((q 28), aI g 160 pl), ((q 30), aI g 160 ty), ((q 33), aI g 160 lo), ((q 34), aI g 160 bg), ((q 41), aI g 600 dp), ((q 42), aZ g 600 iw), ((q 43), aI g 76800 kd), ((q 47), aI g 128 (upd nw8 nx 4)), ((q 50), aI g 600 u2.2.2)] H := hP.sub [0, 1, 2, 3, 4, 5, 6, 7, 8, 9, 10, 11, 12, 13] rfl
                                have hD : va_D A [(h0, .inr (10, mob q rf n mm mb fa fp av ev wi mn tp tc sc nf fd me mp xn mt wh tq u2.1 u2.2.1 ig)), ((q 2), aI g 600 bs), ((q 16), aI g 620 on), ((q 17), aI g 620 tw), ((q 27), aI g 160 fl), ((q 28), aI g 160 pl), ((q 30), aI g 160 ty), ((q 33), aI g 160 lo), ((q 34), aI g 160 bg), ((q 41), aI g 600 dp), ((q 42), aZ g 600 iw), ((q 43), aI g 76800 kd), ((q 47), aI g 128 (upd nw8 nx 4)), ((q 50), aI g 600 u2.2.2)] := hD.sub [0, 1, 2, 3, 4, 5, 6, 7, 8, 9, 10, 11, 12, 13] (by decide) rfl
                                exact ih55 _ (by omega) (nx + 2) 1 (qq + 1) (upd nw8 nx 4) ls _ _ rfl (by omega) (by omega) (hNW8.put (by decide)) (lv_sub hl [0, 2, 1, 5, 6] rfl) hP hD hS
                              · exact absurd h151 h85
                            · refine lv_iconst (v := 0) hx hb d_Mod_firstFrame_141 (by decide) ?_
                              refine lv_goto (tgt := 147) hx hb d_Mod_firstFrame_142 (by decide) ?_
                              refine va_iast hx hb hK hP hD hS 12 0 rfl rfl (vp_in_nI (by omega) (by decide)) d_Mod_firstFrame_147 (fun H locs hP hD hS => ?_)
                              have hP : va_P g.1 classes [(h0, .inr (10, mob q rf n mm mb fa fp av ev wi mn tp tc sc nf fd me mp xn mt wh tq u2.1 u2.2.1 ig)), ((q 2), aI g 600 bs), ((q 16), aI g 620 on), ((q 17), aI g 620 tw), ((q 27), aI g 160 fl), ((q 28), aI g 160 pl), ((q 30), aI g 160 ty), ((q 33), aI g 160 lo), ((q 34), aI g 160 bg), ((q 41), aI g 600 dp), ((q 42), aZ g 600 iw), ((q 43), aI g 76800 kd), ((q 47), aI g 128 (upd nw8 (nI nx).toNatClampNeg 0)), ((q 50), aI g 600 u2.2.2)] H := hP
                              have hD : va_D A [(h0, .inr (10, mob q rf n mm mb fa fp av ev wi mn tp tc sc nf fd me mp xn mt wh tq u2.1 u2.2.1 ig)), ((q 2), aI g 600 bs), ((q 16), aI g 620 on), ((q 17), aI g 620 tw), ((q 27), aI g 160 fl), ((q 28), aI g 160 pl), ((q 30), aI g 160 ty), ((q 33), aI g 160 lo), ((q 34), aI g 160 bg), ((q 41), aI g 600 dp), ((q 42), aZ g 600 iw), ((q 43), aI g 76800 kd), ((q 47), aI g 128 (upd nw8 (nI nx).toNatClampNeg 0)), ((q 50), aI g 600 u2.2.2)] := hD
                              have e9 : upd nw8 (nI nx).toNatClampNeg 0 = upd nw8 nx 0 := by rw [nI_clamp (by omega)]
                              rw [e9] at hP hD
                              refine lv_iload hx hb d_Mod_firstFrame_148 (lv_at hl 2 rfl) ?_
                              refine lv_iconst (v := 2) hx hb d_Mod_firstFrame_150 (by decide) ?_
                              refine lv_icmp_ne (tgt := 163) hx hb d_Mod_firstFrame_151 (by decide) (fun h151 => ?_) (fun h151 => ?_)
                              · refine lv_iload_n hx hb d_Mod_firstFrame_163 rfl (lv_at hl 4 rfl) ?_
                                refine lv_iload hx hb d_Mod_firstFrame_164 (lv_at hl 1 rfl) ?_
                                refine lv_iadd hx hb d_Mod_firstFrame_166 ?_
                                refine tw_ri (e2 := nI (nx + 2)) (nI_add nx 2) ?_
                                refine lv_istore_n hx hb d_Mod_firstFrame_167 rfl hl (by decide) rfl (fun ls hl => ?_)
                                have hl : lv_has ls 7 [(2, .int (nI (nx + 2))), (3, .int 1), (6, .int 2), (5, .int 4), (4, .int (nI qq - 1)), (0, .ref h0), (1, .int (nI mt))] := hl
                                refine lv_iinc (k := 4) (v := nI (qq + 1) - 1) hx hb d_Mod_firstFrame_168 hl rfl (ff_up qq) (by decide) rfl (fun ls hl => ?_)
                                have hl : lv_has ls 7 [(4, .int (nI (qq + 1) - 1)), (2, .int (nI (nx + 2))), (3, .int 1), (6, .int 2), (5, .int 4), (0, .ref h0), (1, .int (nI mt))] := hl
                                refine lv_goto (tgt := 55) hx hb d_Mod_firstFrame_171 (by decide) ?_
                                have hP : va_P g.1 classes [(h0, .inr (10, mob q rf n mm mb fa fp av ev wi mn tp tc sc nf fd me mp xn mt wh tq u2.1 u2.2.1 ig)), ((q 2), aI g 600 bs), ((q 16), aI g 620 on), ((q 17), aI g 620 tw), ((q 27), aI g 160 fl), ((q 28), aI g 160 pl), ((q 30), aI g 160 ty), ((q 33), aI g 160 lo), ((q 34), aI g 160 bg), ((q 41), aI g 600 dp), ((q 42), aZ g 600 iw), ((q 43), aI g 76800 kd), ((q 47), aI g 128 (upd nw8 nx 0)), ((q 50), aI g 600 u2.2.2)] H := hP.sub [0, 1, 2, 3, 4, 5, 6, 7, 8, 9, 10, 11, 12, 13] rfl
                                have hD : va_D A [(h0, .inr (10, mob q rf n mm mb fa fp av ev wi mn tp tc sc nf fd me mp xn mt wh tq u2.1 u2.2.1 ig)), ((q 2), aI g 600 bs), ((q 16), aI g 620 on), ((q 17), aI g 620 tw), ((q 27), aI g 160 fl), ((q 28), aI g 160 pl), ((q 30), aI g 160 ty), ((q 33), aI g 160 lo), ((q 34), aI g 160 bg), ((q 41), aI g 600 dp), ((q 42), aZ g 600 iw), ((q 43), aI g 76800 kd), ((q 47), aI g 128 (upd nw8 nx 0)), ((q 50), aI g 600 u2.2.2)] := hD.sub [0, 1, 2, 3, 4, 5, 6, 7, 8, 9, 10, 11, 12, 13] (by decide) rfl
                                exact ih55 _ (by omega) (nx + 2) 1 (qq + 1) (upd nw8 nx 0) ls _ _ rfl (by omega) (by omega) (hNW8.put (by decide)) (lv_sub hl [0, 2, 1, 5, 6] rfl) hP hD hS
                              · exact absurd h151 h85
          exact loop55 _ 0 1 1 nw9 ls _ _ rfl (Nat.zero_le _) (by omega) hNW1 (lv_sub hl [0, 1, 2, 3, 4] rfl) hP hD hS
      · have h6 := tn_nle (a := 128) h6 (by decide) (by omega)
        refine lv_aload_n hx hb d_Mod_firstFrame_9 rfl (lv_at hl 1 rfl) ?_
        refine va_get (D := g.1) (ci := 10) (v := .ref (q 47)) (C := R_Mod) (T := F_Mod) (N := 61) hx hb hts in_Mod hown hK hP 0 rfl rfl 47 (by decide) (hts _ wd_1297) (fun _ h9 => h9) rfl d_Mod_firstFrame_10 ?_
        refine lv_iload_n hx hb d_Mod_firstFrame_13 rfl (lv_at hl 0 rfl) ?_
        refine lv_iconst (v := 0) hx hb d_Mod_firstFrame_14 (by decide) ?_
        refine va_iast hx hb hK hP hD hS 12 0 rfl rfl (vp_in_nI (by omega) (by decide)) d_Mod_firstFrame_15 (fun H locs hP hD hS => ?_)
        have hP : va_P g.1 classes [(h0, .inr (10, mob q rf n mm mb fa fp av ev wi mn tp tc sc nf fd me mp xn mt wh tq ag an ig)), ((q 2), aI g 600 bs), ((q 16), aI g 620 on), ((q 17), aI g 620 tw), ((q 27), aI g 160 fl), ((q 28), aI g 160 pl), ((q 30), aI g 160 ty), ((q 33), aI g 160 lo), ((q 34), aI g 160 bg), ((q 41), aI g 600 dp), ((q 42), aZ g 600 iw), ((q 43), aI g 76800 kd), ((q 47), aI g 128 (upd nw9 (nI k).toNatClampNeg 0)), ((q 50), aI g 600 ak)] H := hP
        have hD : va_D A [(h0, .inr (10, mob q rf n mm mb fa fp av ev wi mn tp tc sc nf fd me mp xn mt wh tq ag an ig)), ((q 2), aI g 600 bs), ((q 16), aI g 620 on), ((q 17), aI g 620 tw), ((q 27), aI g 160 fl), ((q 28), aI g 160 pl), ((q 30), aI g 160 ty), ((q 33), aI g 160 lo), ((q 34), aI g 160 bg), ((q 41), aI g 600 dp), ((q 42), aZ g 600 iw), ((q 43), aI g 76800 kd), ((q 47), aI g 128 (upd nw9 (nI k).toNatClampNeg 0)), ((q 50), aI g 600 ak)] := hD
        have e9 : upd nw9 (nI k).toNatClampNeg 0 = upd nw9 k 0 := by rw [nI_clamp (by omega)]
        rw [e9] at hP hD
        refine lv_iinc (k := 0) (v := nI (k + 1)) hx hb d_Mod_firstFrame_16 hl rfl ((nI_succ k).symm) (by decide) rfl (fun ls hl => ?_)
        have hl : lv_has ls 7 [(2, .int (nI (k + 1))), (0, .ref h0), (1, .int (nI mt))] := hl
        refine lv_goto (tgt := 2) hx hb d_Mod_firstFrame_19 (by decide) ?_
        have hP : va_P g.1 classes [(h0, .inr (10, mob q rf n mm mb fa fp av ev wi mn tp tc sc nf fd me mp xn mt wh tq ag an ig)), ((q 2), aI g 600 bs), ((q 16), aI g 620 on), ((q 17), aI g 620 tw), ((q 27), aI g 160 fl), ((q 28), aI g 160 pl), ((q 30), aI g 160 ty), ((q 33), aI g 160 lo), ((q 34), aI g 160 bg), ((q 41), aI g 600 dp), ((q 42), aZ g 600 iw), ((q 43), aI g 76800 kd), ((q 47), aI g 128 (upd nw9 k 0)), ((q 50), aI g 600 ak)] H := hP.sub [0, 1, 2, 3, 4, 5, 6, 7, 8, 9, 10, 11, 12, 13] rfl
        have hD : va_D A [(h0, .inr (10, mob q rf n mm mb fa fp av ev wi mn tp tc sc nf fd me mp xn mt wh tq ag an ig)), ((q 2), aI g 600 bs), ((q 16), aI g 620 on), ((q 17), aI g 620 tw), ((q 27), aI g 160 fl), ((q 28), aI g 160 pl), ((q 30), aI g 160 ty), ((q 33), aI g 160 lo), ((q 34), aI g 160 bg), ((q 41), aI g 600 dp), ((q 42), aZ g 600 iw), ((q 43), aI g 76800 kd), ((q 47), aI g 128 (upd nw9 k 0)), ((q 50), aI g 600 ak)] := hD.sub [0, 1, 2, 3, 4, 5, 6, 7, 8, 9, 10, 11, 12, 13] (by decide) rfl
        exact ih _ (by omega) (k + 1) (upd nw9 k 0) ls _ _ rfl (by omega) (rl_z0 hzr) (lv_sub hl [0, 1, 2] rfl) hP hD hS
  exact loop2 _ 0 nw ls _ _ rfl (Nat.zero_le _) (fun j h => absurd h (Nat.not_lt_zero j)) (hl) hP hD hS
end
section
theorem d_Mod_verify_0 : decode b_Mod_verify 0 = .ok (.aload_n 0, 1) := by decide +kernel
theorem d_Mod_verify_1 : decode b_Mod_verify 1 = .ok (.iload_n 1, 1) := by decide +kernel
theorem d_Mod_verify_2 : decode b_Mod_verify 2 = .ok (.putfield 315, 3) := by decide +kernel
theorem d_Mod_verify_5 : decode b_Mod_verify 5 = .ok (.aload_n 0, 1) := by decide +kernel
theorem d_Mod_verify_6 : decode b_Mod_verify 6 = .ok (.iload_n 1, 1) := by decide +kernel
theorem d_Mod_verify_7 : decode b_Mod_verify 7 = .ok (.invokevirtual 380, 3) := by decide +kernel
theorem d_Mod_verify_10 : decode b_Mod_verify 10 = .ok (.aload_n 0, 1) := by decide +kernel
theorem d_Mod_verify_11 : decode b_Mod_verify 11 = .ok (.iload_n 1, 1) := by decide +kernel
theorem d_Mod_verify_12 : decode b_Mod_verify 12 = .ok (.invokevirtual 383, 3) := by decide +kernel
theorem d_Mod_verify_15 : decode b_Mod_verify 15 = .ok (.aload_n 0, 1) := by decide +kernel
theorem d_Mod_verify_16 : decode b_Mod_verify 16 = .ok (.getfield 147, 3) := by decide +kernel
theorem d_Mod_verify_19 : decode b_Mod_verify 19 = .ok (.ifCond .ne 8, 3) := by decide +kernel
theorem d_Mod_verify_22 : decode b_Mod_verify 22 = .ok (.aload_n 0, 1) := by decide +kernel
theorem d_Mod_verify_23 : decode b_Mod_verify 23 = .ok (.iload_n 1, 1) := by decide +kernel
theorem d_Mod_verify_24 : decode b_Mod_verify 24 = .ok (.invokevirtual 386, 3) := by decide +kernel
theorem d_Mod_verify_27 : decode b_Mod_verify 27 = .ok (.aload_n 0, 1) := by decide +kernel
theorem d_Mod_verify_28 : decode b_Mod_verify 28 = .ok (.getfield 71, 3) := by decide +kernel
theorem d_Mod_verify_31 : decode b_Mod_verify 31 = .ok (.iload_n 1, 1) := by decide +kernel
theorem d_Mod_verify_32 : decode b_Mod_verify 32 = .ok (.iaload, 1) := by decide +kernel
theorem d_Mod_verify_33 : decode b_Mod_verify 33 = .ok (.istore_n 2, 1) := by decide +kernel
theorem d_Mod_verify_34 : decode b_Mod_verify 34 = .ok (.aload_n 0, 1) := by decide +kernel
theorem d_Mod_verify_35 : decode b_Mod_verify 35 = .ok (.getfield 71, 3) := by decide +kernel
theorem d_Mod_verify_38 : decode b_Mod_verify 38 = .ok (.iload_n 1, 1) := by decide +kernel
theorem d_Mod_verify_39 : decode b_Mod_verify 39 = .ok (.iaload, 1) := by decide +kernel
theorem d_Mod_verify_40 : decode b_Mod_verify 40 = .ok (.aload_n 0, 1) := by decide +kernel
theorem d_Mod_verify_41 : decode b_Mod_verify 41 = .ok (.getfield 74, 3) := by decide +kernel
theorem d_Mod_verify_44 : decode b_Mod_verify 44 = .ok (.iload_n 1, 1) := by decide +kernel
theorem d_Mod_verify_45 : decode b_Mod_verify 45 = .ok (.iaload, 1) := by decide +kernel
theorem d_Mod_verify_46 : decode b_Mod_verify 46 = .ok (.iadd, 1) := by decide +kernel
theorem d_Mod_verify_47 : decode b_Mod_verify 47 = .ok (.istore_n 3, 1) := by decide +kernel
theorem d_Mod_verify_48 : decode b_Mod_verify 48 = .ok (.iload_n 2, 1) := by decide +kernel
theorem d_Mod_verify_49 : decode b_Mod_verify 49 = .ok (.iload_n 3, 1) := by decide +kernel
theorem d_Mod_verify_50 : decode b_Mod_verify 50 = .ok (.if_icmp .ge 50, 3) := by decide +kernel
theorem d_Mod_verify_53 : decode b_Mod_verify 53 = .ok (.aload_n 0, 1) := by decide +kernel
theorem d_Mod_verify_54 : decode b_Mod_verify 54 = .ok (.getfield 147, 3) := by decide +kernel
theorem d_Mod_verify_57 : decode b_Mod_verify 57 = .ok (.ifCond .ne 43, 3) := by decide +kernel
theorem d_Mod_verify_60 : decode b_Mod_verify 60 = .ok (.aload_n 0, 1) := by decide +kernel
theorem d_Mod_verify_61 : decode b_Mod_verify 61 = .ok (.getfield 86, 3) := by decide +kernel
theorem d_Mod_verify_64 : decode b_Mod_verify 64 = .ok (.iload_n 2, 1) := by decide +kernel
theorem d_Mod_verify_65 : decode b_Mod_verify 65 = .ok (.baload, 1) := by decide +kernel
theorem d_Mod_verify_66 : decode b_Mod_verify 66 = .ok (.ifCond .eq 28, 3) := by decide +kernel
theorem d_Mod_verify_69 : decode b_Mod_verify 69 = .ok (.aload_n 0, 1) := by decide +kernel
theorem d_Mod_verify_70 : decode b_Mod_verify 70 = .ok (.getfield 93, 3) := by decide +kernel
theorem d_Mod_verify_73 : decode b_Mod_verify 73 = .ok (.iload_n 2, 1) := by decide +kernel
theorem d_Mod_verify_74 : decode b_Mod_verify 74 = .ok (.baload, 1) := by decide +kernel
theorem d_Mod_verify_75 : decode b_Mod_verify 75 = .ok (.ifCond .eq 19, 3) := by decide +kernel
theorem d_Mod_verify_78 : decode b_Mod_verify 78 = .ok (.aload_n 0, 1) := by decide +kernel
theorem d_Mod_verify_79 : decode b_Mod_verify 79 = .ok (.iload_n 1, 1) := by decide +kernel
theorem d_Mod_verify_80 : decode b_Mod_verify 80 = .ok (.iload_n 2, 1) := by decide +kernel
theorem d_Mod_verify_81 : decode b_Mod_verify 81 = .ok (.invokevirtual 389, 3) := by decide +kernel
theorem d_Mod_verify_84 : decode b_Mod_verify 84 = .ok (.aload_n 0, 1) := by decide +kernel
theorem d_Mod_verify_85 : decode b_Mod_verify 85 = .ok (.getfield 71, 3) := by decide +kernel
theorem d_Mod_verify_88 : decode b_Mod_verify 88 = .ok (.iload_n 1, 1) := by decide +kernel
theorem d_Mod_verify_89 : decode b_Mod_verify 89 = .ok (.iaload, 1) := by decide +kernel
theorem d_Mod_verify_90 : decode b_Mod_verify 90 = .ok (.istore_n 2, 1) := by decide +kernel
theorem d_Mod_verify_91 : decode b_Mod_verify 91 = .ok (.goto (-43), 3) := by decide +kernel
theorem d_Mod_verify_94 : decode b_Mod_verify 94 = .ok (.iinc 2 1, 3) := by decide +kernel
theorem d_Mod_verify_97 : decode b_Mod_verify 97 = .ok (.goto (-49), 3) := by decide +kernel
theorem d_Mod_verify_100 : decode b_Mod_verify 100 = .ok (.return_, 1) := by decide +kernel
end
section
set_option maxHeartbeats 4000000 in
set_option maxRecDepth 100000 in
theorem g_Mod_verify (l : Launch) (g : tw_G) (sz : Nat) (h0 : Nat) (q : Nat → Nat) (rf : Int32) (n : Nat) (mm : Int32) (mb : Int32) (av : Nat) (ev : Nat) (wi : Int32) (mn : Nat) (tp : Int32) (tc : Int32) (sc : Int32) (nf : Nat) (fd : Nat) (me : Nat) (mp : Int32) (xn : Nat) (ig : Int32) (bs : Nat → Int32) (tg : Nat → Int32) (on : Nat → Int32) (tw : Nat → Int32) (fl : Nat → Int32) (pl : Nat → Int32) (ty : Nat → Int32) (sk : Nat → Int32) (lo : Nat → Int32) (bg : Nat → Int32) (ln : Nat → Int32) (xf : Nat → Int32) (xt : Nat → Int32) (xp : Nat → Int32) (fa : Int32) (fp : Int32) (mt : Nat) (wh : Nat) (tq : Nat) (ag : Nat) (an : Int32) (is_ : Nat → Int32) (dp : Nat → Int32) (iw : Nat → Int32) (kd : Nat → Int32) (nw : Nat → Int32) (bf : Nat → Int32) (ak : Nat → Int32) (mi : Nat) (b1 l1 x1 y1 s1 o1 jt pt lt1 : Nat) (hmi : mi < 160) (hbg : bg mi = nI b1) (hln : ln mi = nI l1) (hbl : b1 + l1 ≤ 600) (hl0 : 0 < l1) (hxf : xf mi = nI x1) (hxt : xt mi = nI y1) (hx7 : x1 ≤ 75) (hy7 : y1 ≤ 75) (hx1y : x1 ≤ y1) (hxy : y1 ≤ xn) (hxn : xn ≤ 75) (hXP : XPL xp xn) (hsk : sk mi = nI s1) (hs64 : s1 ≤ 64) (hlo : lo mi = nI o1) (ho64 : o1 ≤ 64) (hbs : BYT bs) (hFR : FRG dp iw kd) (hmn : mn ≤ 620) (hTX : TXT tg on tw) (hLCA : LCA mn tg on tw) (hMCA : ∀ j, 0 < j → j < mn → MC1 bs tg on tw j) (hty : ty mi = nI jt) (jt6 : jt < 620) (hj1 : on jt = nI pt) (hj2 : tw jt = nI lt1) (hj3 : pt + lt1 ≤ 600) (hj4 : MTY bs pt (pt + lt1)) : Met l y_Mod_verify [.code y_Mod_verify b_Mod_verify 4 none] ({ frames := 8, cells := 0, slots := 0, locals := 189 }) (tw_P g [.ref h0, .int (nI mi)] [(h0, .inr (10, mob q rf n mm mb fa fp av ev wi mn tp tc sc nf fd me mp xn mt wh tq ag an ig)), ((q 2), aI g 600 bs), ((q 14), aI g 620 tg), ((q 16), aI g 620 on), ((q 17), aI g 620 tw), ((q 27), aI g 160 fl), ((q 28), aI g 160 pl), ((q 30), aI g 160 ty), ((q 32), aI g 160 sk), ((q 33), aI g 160 lo), ((q 34), aI g 160 bg), ((q 35), aI g 160 ln), ((q 36), aI g 160 xf), ((q 37), aI g 160 xt), ((q 39), aI g 160 xp), ((q 40), aZ g 600 is_), ((q 41), aI g 600 dp), ((q 42), aZ g 600 iw), ((q 43), aI g 76800 kd), ((q 47), aI g 128 nw), ((q 48), aI g 64 bf), ((q 50), aI g 600 ak)] sz) (tw_Qv g (fun (u : Int32 × Int32 × Nat × Nat × Nat × Nat × Int32 × (Nat → Int32) × (Nat → Int32) × (Nat → Int32) × (Nat → Int32) × (Nat → Int32) × (Nat → Int32) × (Nat → Int32)) => (u.1 = 0 → fa = 0) ∧ (FRG u.2.2.2.2.2.2.2.2.1 u.2.2.2.2.2.2.2.2.2.1 u.2.2.2.2.2.2.2.2.2.2.1)) (fun u : Int32 × Int32 × Nat × Nat × Nat × Nat × Int32 × (Nat → Int32) × (Nat → Int32) × (Nat → Int32) × (Nat → Int32) × (Nat → Int32) × (Nat → Int32) × (Nat → Int32) => [(h0, .inr (10, mob q rf n mm mb u.1 u.2.1 av ev wi mn tp tc sc nf fd me mp xn u.2.2.1 u.2.2.2.1 u.2.2.2.2.1 u.2.2.2.2.2.1 u.2.2.2.2.2.2.1 ig)), ((q 2), aI g 600 bs), ((q 14), aI g 620 tg), ((q 16), aI g 620 on), ((q 17), aI g 620 tw), ((q 27), aI g 160 fl), ((q 28), aI g 160 pl), ((q 30), aI g 160 ty), ((q 32), aI g 160 sk), ((q 33), aI g 160 lo), ((q 34), aI g 160 bg), ((q 35), aI g 160 ln), ((q 36), aI g 160 xf), ((q 37), aI g 160 xt), ((q 39), aI g 160 xp), ((q 40), aZ g 600 u.2.2.2.2.2.2.2.1), ((q 41), aI g 600 u.2.2.2.2.2.2.2.2.1), ((q 42), aZ g 600 u.2.2.2.2.2.2.2.2.2.1), ((q 43), aI g 76800 u.2.2.2.2.2.2.2.2.2.2.1), ((q 47), aI g 128 u.2.2.2.2.2.2.2.2.2.2.2.1), ((q 48), aI g 64 u.2.2.2.2.2.2.2.2.2.2.2.2.1), ((q 50), aI g 600 u.2.2.2.2.2.2.2.2.2.2.2.2.2)]) (va_A [(h0, .inr (10, mob q rf n mm mb fa fp av ev wi mn tp tc sc nf fd me mp xn mt wh tq ag an ig)), ((q 2), aI g 600 bs), ((q 14), aI g 620 tg), ((q 16), aI g 620 on), ((q 17), aI g 620 tw), ((q 27), aI g 160 fl), ((q 28), aI g 160 pl), ((q 30), aI g 160 ty), ((q 32), aI g 160 sk), ((q 33), aI g 160 lo), ((q 34), aI g 160 bg), ((q 35), aI g 160 ln), ((q 36), aI g 160 xf), ((q 37), aI g 160 xt), ((q 39), aI g 160 xp), ((q 40), aZ g 600 is_), ((q 41), aI g 600 dp), ((q 42), aZ g 600 iw), ((q 43), aI g 76800 kd), ((q 47), aI g 128 nw), ((q 48), aI g 64 bf), ((q 50), aI g 600 ak)] sz)) 0 0 (va_A [(h0, .inr (10, mob q rf n mm mb fa fp av ev wi mn tp tc sc nf fd me mp xn mt wh tq ag an ig)), ((q 2), aI g 600 bs), ((q 14), aI g 620 tg), ((q 16), aI g 620 on), ((q 17), aI g 620 tw), ((q 27), aI g 160 fl), ((q 28), aI g 160 pl), ((q 30), aI g 160 ty), ((q 32), aI g 160 sk), ((q 33), aI g 160 lo), ((q 34), aI g 160 bg), ((q 35), aI g 160 ln), ((q 36), aI g 160 xf), ((q 37), aI g 160 xt), ((q 39), aI g 160 xp), ((q 40), aZ g 600 is_), ((q 41), aI g 600 dp), ((q 42), aZ g 600 iw), ((q 43), aI g 76800 kd), ((q 47), aI g 128 nw), ((q 48), aI g 64 bf), ((q 50), aI g 600 ak)] sz) := by
  refine tw_metW (l := l) (g := g) (y := y_Mod_verify) (cc := b_Mod_verify) (maxL := 4) (ret := none) (rm := { frames := 8, cells := 0, slots := 0, locals := 189 }) (mc := 0) (ms := 0) (av := [.ref h0, .int (nI mi)]) (ws := [(h0, .inr (10, mob q rf n mm mb fa fp av ev wi mn tp tc sc nf fd me mp xn mt wh tq ag an ig)), ((q 2), aI g 600 bs), ((q 14), aI g 620 tg), ((q 16), aI g 620 on), ((q 17), aI g 620 tw), ((q 27), aI g 160 fl), ((q 28), aI g 160 pl), ((q 30), aI g 160 ty), ((q 32), aI g 160 sk), ((q 33), aI g 160 lo), ((q 34), aI g 160 bg), ((q 35), aI g 160 ln), ((q 36), aI g 160 xf), ((q 37), aI g 160 xt), ((q 39), aI g 160 xp), ((q 40), aZ g 600 is_), ((q 41), aI g 600 dp), ((q 42), aZ g 600 iw), ((q 43), aI g 76800 kd), ((q 47), aI g 128 nw), ((q 48), aI g 64 bf), ((q 50), aI g 600 ak)]) (sz := sz) (Qc := fun A => (tw_Qv g (fun (u : Int32 × Int32 × Nat × Nat × Nat × Nat × Int32 × (Nat → Int32) × (Nat → Int32) × (Nat → Int32) × (Nat → Int32) × (Nat → Int32) × (Nat → Int32) × (Nat → Int32)) => (u.1 = 0 → fa = 0) ∧ (FRG u.2.2.2.2.2.2.2.2.1 u.2.2.2.2.2.2.2.2.2.1 u.2.2.2.2.2.2.2.2.2.2.1)) (fun u : Int32 × Int32 × Nat × Nat × Nat × Nat × Int32 × (Nat → Int32) × (Nat → Int32) × (Nat → Int32) × (Nat → Int32) × (Nat → Int32) × (Nat → Int32) × (Nat → Int32) => [(h0, .inr (10, mob q rf n mm mb u.1 u.2.1 av ev wi mn tp tc sc nf fd me mp xn u.2.2.1 u.2.2.2.1 u.2.2.2.2.1 u.2.2.2.2.2.1 u.2.2.2.2.2.2.1 ig)), ((q 2), aI g 600 bs), ((q 14), aI g 620 tg), ((q 16), aI g 620 on), ((q 17), aI g 620 tw), ((q 27), aI g 160 fl), ((q 28), aI g 160 pl), ((q 30), aI g 160 ty), ((q 32), aI g 160 sk), ((q 33), aI g 160 lo), ((q 34), aI g 160 bg), ((q 35), aI g 160 ln), ((q 36), aI g 160 xf), ((q 37), aI g 160 xt), ((q 39), aI g 160 xp), ((q 40), aZ g 600 u.2.2.2.2.2.2.2.1), ((q 41), aI g 600 u.2.2.2.2.2.2.2.2.1), ((q 42), aZ g 600 u.2.2.2.2.2.2.2.2.2.1), ((q 43), aI g 76800 u.2.2.2.2.2.2.2.2.2.2.1), ((q 47), aI g 128 u.2.2.2.2.2.2.2.2.2.2.2.1), ((q 48), aI g 64 u.2.2.2.2.2.2.2.2.2.2.2.2.1), ((q 50), aI g 600 u.2.2.2.2.2.2.2.2.2.2.2.2.2)]) A)) (by decide) (Nat.le_of_ble_eq_true rfl) ?_
  intro p e s m below meth c ls H A E hB hK hZ hP hD hS hA hl
  obtain ⟨hx, hb, hml, hr, hown, hts, hlocks, hin⟩ := id E
  have hl : lv_has ls 4 [(0, .ref h0), (1, .int (nI mi))] := hl
  refine lv_aload_n hx hb d_Mod_verify_0 rfl (lv_at hl 0 rfl) ?_
  refine lv_iload_n hx hb d_Mod_verify_1 rfl (lv_at hl 1 rfl) ?_
  refine va_put (D := g.1) (ci := 10) (v := .int (nI mi)) (ty := .int) (C := R_Mod) (T := F_Mod) (N := 61) hx hb hts in_Mod t_Mod t_Mod_ok n_Mod hown hK hP hD hS 0 rfl rfl 44 (by decide) (hts _ wd_1294) (fun _ h9 => h9) rfl (t_Mod_ok 44 (by decide)) rfl rfl (Nat.le_of_ble_eq_true rfl) d_Mod_verify_2 (fun H locs hP hD hS => ?_)
  have hP : va_P g.1 classes [(h0, .inr (10, mob q rf n mm mb fa fp av ev wi mn tp tc sc nf fd me mp xn mi wh tq ag an ig)), ((q 2), aI g 600 bs), ((q 14), aI g 620 tg), ((q 16), aI g 620 on), ((q 17), aI g 620 tw), ((q 27), aI g 160 fl), ((q 28), aI g 160 pl), ((q 30), aI g 160 ty), ((q 32), aI g 160 sk), ((q 33), aI g 160 lo), ((q 34), aI g 160 bg), ((q 35), aI g 160 ln), ((q 36), aI g 160 xf), ((q 37), aI g 160 xt), ((q 39), aI g 160 xp), ((q 40), aZ g 600 is_), ((q 41), aI g 600 dp), ((q 42), aZ g 600 iw), ((q 43), aI g 76800 kd), ((q 47), aI g 128 nw), ((q 48), aI g 64 bf), ((q 50), aI g 600 ak)] H := hP
  have hD : va_D A [(h0, .inr (10, mob q rf n mm mb fa fp av ev wi mn tp tc sc nf fd me mp xn mi wh tq ag an ig)), ((q 2), aI g 600 bs), ((q 14), aI g 620 tg), ((q 16), aI g 620 on), ((q 17), aI g 620 tw), ((q 27), aI g 160 fl), ((q 28), aI g 160 pl), ((q 30), aI g 160 ty), ((q 32), aI g 160 sk), ((q 33), aI g 160 lo), ((q 34), aI g 160 bg), ((q 35), aI g 160 ln), ((q 36), aI g 160 xf), ((q 37), aI g 160 xt), ((q 39), aI g 160 xp), ((q 40), aZ g 600 is_), ((q 41), aI g 600 dp), ((q 42), aZ g 600 iw), ((q 43), aI g 76800 kd), ((q 47), aI g 128 nw), ((q 48), aI g 64 bf), ((q 50), aI g 600 ak)] := hD
  refine lv_aload_n hx hb d_Mod_verify_5 rfl (lv_at hl 0 rfl) ?_
  refine lv_iload_n hx hb d_Mod_verify_6 rfl (lv_at hl 1 rfl) ?_
  refine tw_wv (wr := [((q 14), aI g 620 tg), ((q 16), aI g 620 on), ((q 17), aI g 620 tw), ((q 27), aI g 160 fl), ((q 28), aI g 160 pl), ((q 30), aI g 160 ty), ((q 32), aI g 160 sk), ((q 33), aI g 160 lo), ((q 36), aI g 160 xf), ((q 37), aI g 160 xt), ((q 39), aI g 160 xp), ((q 47), aI g 128 nw), ((q 48), aI g 64 bf), ((q 50), aI g 600 ak)]) (tw_runV (ws := [(h0, .inr (10, mob q rf n mm mb fa fp av ev wi mn tp tc sc nf fd me mp xn mi wh tq ag an ig)), ((q 2), aI g 600 bs), ((q 14), aI g 620 tg), ((q 16), aI g 620 on), ((q 17), aI g 620 tw), ((q 27), aI g 160 fl), ((q 28), aI g 160 pl), ((q 30), aI g 160 ty), ((q 32), aI g 160 sk), ((q 33), aI g 160 lo), ((q 34), aI g 160 bg), ((q 35), aI g 160 ln), ((q 36), aI g 160 xf), ((q 37), aI g 160 xt), ((q 39), aI g 160 xp), ((q 40), aZ g 600 is_), ((q 41), aI g 600 dp), ((q 42), aZ g 600 iw), ((q 43), aI g 76800 kd), ((q 47), aI g 128 nw), ((q 48), aI g 64 bf), ((q 50), aI g 600 ak)]) (wc := [(h0, .inr (10, mob q rf n mm mb fa fp av ev wi mn tp tc sc nf fd me mp xn mi wh tq ag an ig)), ((q 2), aI g 600 bs), ((q 34), aI g 160 bg), ((q 35), aI g 160 ln), ((q 40), aZ g 600 is_), ((q 41), aI g 600 dp), ((q 42), aZ g 600 iw), ((q 43), aI g 76800 kd)]) (As := [.int (nI mi)]) (rest := []) E hB hK hZ (g_Mod_markInstructions l g H.size h0 q rf n mm mb av ev wi mn tp tc sc nf fd me mp xn mi wh tq ag an ig bs bg ln kd fa fp is_ dp iw mi b1 l1 (by omega) hbg hln (by omega) hFR) mc_Mod_markInstructions mi_Mod_markInstructions me_Mod_markInstructions wd_1599 hP hD hS hA [0, 1, 10, 11, 15, 16, 17, 18] rfl (by decide) 0 rfl rfl rfl rfl rfl (by decide) rfl hl.1 rfl (Nat.le_of_ble_eq_true rfl) (by decide) d_Mod_verify_7) hP hD hS hA [0, 1, 10, 11, 15, 16, 17, 18] [2, 3, 4, 5, 6, 7, 8, 9, 12, 13, 14, 19, 20, 21] rfl rfl (by decide) (by decide) (fun u2 H locs hr1 hP hD hS => ?_)
  try dsimp only at hr1
  have hP : va_P g.1 classes [((q 14), aI g 620 tg), ((q 16), aI g 620 on), ((q 17), aI g 620 tw), ((q 27), aI g 160 fl), ((q 28), aI g 160 pl), ((q 30), aI g 160 ty), ((q 32), aI g 160 sk), ((q 33), aI g 160 lo), ((q 36), aI g 160 xf), ((q 37), aI g 160 xt), ((q 39), aI g 160 xp), ((q 47), aI g 128 nw), ((q 48), aI g 64 bf), ((q 50), aI g 600 ak), (h0, .inr (10, mob q rf n mm mb u2.1 u2.2.1 av ev wi mn tp tc sc nf fd me mp xn mi wh tq ag an ig)), ((q 2), aI g 600 bs), ((q 34), aI g 160 bg), ((q 35), aI g 160 ln), ((q 40), aZ g 600 u2.2.2.1), ((q 41), aI g 600 u2.2.2.2.1), ((q 42), aZ g 600 u2.2.2.2.2), ((q 43), aI g 76800 kd)] H := hP
  have hD : va_D A [((q 14), aI g 620 tg), ((q 16), aI g 620 on), ((q 17), aI g 620 tw), ((q 27), aI g 160 fl), ((q 28), aI g 160 pl), ((q 30), aI g 160 ty), ((q 32), aI g 160 sk), ((q 33), aI g 160 lo), ((q 36), aI g 160 xf), ((q 37), aI g 160 xt), ((q 39), aI g 160 xp), ((q 47), aI g 128 nw), ((q 48), aI g 64 bf), ((q 50), aI g 600 ak), (h0, .inr (10, mob q rf n mm mb u2.1 u2.2.1 av ev wi mn tp tc sc nf fd me mp xn mi wh tq ag an ig)), ((q 2), aI g 600 bs), ((q 34), aI g 160 bg), ((q 35), aI g 160 ln), ((q 40), aZ g 600 u2.2.2.1), ((q 41), aI g 600 u2.2.2.2.1), ((q 42), aZ g 600 u2.2.2.2.2), ((q 43), aI g 76800 kd)] := hD
  have hP : va_P g.1 classes [(h0, .inr (10, mob q rf n mm mb u2.1 u2.2.1 av ev wi mn tp tc sc nf fd me mp xn mi wh tq ag an ig)), ((q 2), aI g 600 bs), ((q 14), aI g 620 tg), ((q 16), aI g 620 on), ((q 17), aI g 620 tw), ((q 27), aI g 160 fl), ((q 28), aI g 160 pl), ((q 30), aI g 160 ty), ((q 32), aI g 160 sk), ((q 33), aI g 160 lo), ((q 34), aI g 160 bg), ((q 35), aI g 160 ln), ((q 36), aI g 160 xf), ((q 37), aI g 160 xt), ((q 39), aI g 160 xp), ((q 40), aZ g 600 u2.2.2.1), ((q 41), aI g 600 u2.2.2.2.1), ((q 42), aZ g 600 u2.2.2.2.2), ((q 43), aI g 76800 kd), ((q 47), aI g 128 nw), ((q 48), aI g 64 bf), ((q 50), aI g 600 ak)] H := hP.sub [14, 15, 0, 1, 2, 3, 4, 5, 6, 7, 16, 17, 8, 9, 10, 18, 19, 20, 21, 11, 12, 13] rfl
  have hD : va_D A [(h0, .inr (10, mob q rf n mm mb u2.1 u2.2.1 av ev wi mn tp tc sc nf fd me mp xn mi wh tq ag an ig)), ((q 2), aI g 600 bs), ((q 14), aI g 620 tg), ((q 16), aI g 620 on), ((q 17), aI g 620 tw), ((q 27), aI g 160 fl), ((q 28), aI g 160 pl), ((q 30), aI g 160 ty), ((q 32), aI g 160 sk), ((q 33), aI g 160 lo), ((q 34), aI g 160 bg), ((q 35), aI g 160 ln), ((q 36), aI g 160 xf), ((q 37), aI g 160 xt), ((q 39), aI g 160 xp), ((q 40), aZ g 600 u2.2.2.1), ((q 41), aI g 600 u2.2.2.2.1), ((q 42), aZ g 600 u2.2.2.2.2), ((q 43), aI g 76800 kd), ((q 47), aI g 128 nw), ((q 48), aI g 64 bf), ((q 50), aI g 600 ak)] := hD.sub [14, 15, 0, 1, 2, 3, 4, 5, 6, 7, 16, 17, 8, 9, 10, 18, 19, 20, 21, 11, 12, 13] (by decide) rfl
  obtain ⟨hp2_0, hp2_1, hp2_2⟩ := hr1
  refine lv_aload_n hx hb d_Mod_verify_10 rfl (lv_at hl 0 rfl) ?_
  refine lv_iload_n hx hb d_Mod_verify_11 rfl (lv_at hl 1 rfl) ?_
  refine tw_wv (wr := [((q 16), aI g 620 on), ((q 17), aI g 620 tw), ((q 27), aI g 160 fl), ((q 28), aI g 160 pl), ((q 30), aI g 160 ty), ((q 32), aI g 160 sk), ((q 33), aI g 160 lo), ((q 41), aI g 600 u2.2.2.2.1), ((q 42), aZ g 600 u2.2.2.2.2), ((q 43), aI g 76800 kd), ((q 47), aI g 128 nw), ((q 48), aI g 64 bf), ((q 50), aI g 600 ak)]) (tw_runV (ws := [(h0, .inr (10, mob q rf n mm mb u2.1 u2.2.1 av ev wi mn tp tc sc nf fd me mp xn mi wh tq ag an ig)), ((q 2), aI g 600 bs), ((q 14), aI g 620 tg), ((q 16), aI g 620 on), ((q 17), aI g 620 tw), ((q 27), aI g 160 fl), ((q 28), aI g 160 pl), ((q 30), aI g 160 ty), ((q 32), aI g 160 sk), ((q 33), aI g 160 lo), ((q 34), aI g 160 bg), ((q 35), aI g 160 ln), ((q 36), aI g 160 xf), ((q 37), aI g 160 xt), ((q 39), aI g 160 xp), ((q 40), aZ g 600 u2.2.2.1), ((q 41), aI g 600 u2.2.2.2.1), ((q 42), aZ g 600 u2.2.2.2.2), ((q 43), aI g 76800 kd), ((q 47), aI g 128 nw), ((q 48), aI g 64 bf), ((q 50), aI g 600 ak)]) (wc := [(h0, .inr (10, mob q rf n mm mb u2.1 u2.2.1 av ev wi mn tp tc sc nf fd me mp xn mi wh tq ag an ig)), ((q 2), aI g 600 bs), ((q 14), aI g 620 tg), ((q 34), aI g 160 bg), ((q 35), aI g 160 ln), ((q 36), aI g 160 xf), ((q 37), aI g 160 xt), ((q 39), aI g 160 xp), ((q 40), aZ g 600 u2.2.2.1)]) (As := [.int (nI mi)]) (rest := []) E hB hK hZ (g_Mod_checkHandlers l g H.size h0 q rf n mm mb av ev wi mn tp tc sc nf fd me mp xn mi wh tq ag an ig bs tg bg ln xf xt xp u2.2.2.1 u2.1 u2.2.1 mi b1 l1 x1 y1 (by omega) hbg hln (by omega) hxf hxt (by omega) (by omega) (by omega) hXP (by omega) hbs) mc_Mod_checkHandlers mi_Mod_checkHandlers me_Mod_checkHandlers wd_1612 hP hD hS hA [0, 1, 2, 10, 11, 12, 13, 14, 15] rfl (by decide) 0 rfl rfl rfl rfl rfl (by decide) rfl hl.1 rfl (Nat.le_of_ble_eq_true rfl) (by decide) d_Mod_verify_12) hP hD hS hA [0, 1, 2, 10, 11, 12, 13, 14, 15] [3, 4, 5, 6, 7, 8, 9, 16, 17, 18, 19, 20, 21] rfl rfl (by decide) (by decide) (fun u4 H locs hr3 hP hD hS => ?_)
  try dsimp only at hr3
  have hP : va_P g.1 classes [((q 16), aI g 620 on), ((q 17), aI g 620 tw), ((q 27), aI g 160 fl), ((q 28), aI g 160 pl), ((q 30), aI g 160 ty), ((q 32), aI g 160 sk), ((q 33), aI g 160 lo), ((q 41), aI g 600 u2.2.2.2.1), ((q 42), aZ g 600 u2.2.2.2.2), ((q 43), aI g 76800 kd), ((q 47), aI g 128 nw), ((q 48), aI g 64 bf), ((q 50), aI g 600 ak), (h0, .inr (10, mob q rf n mm mb u4.1 u4.2 av ev wi mn tp tc sc nf fd me mp xn mi wh tq ag an ig)), ((q 2), aI g 600 bs), ((q 14), aI g 620 tg), ((q 34), aI g 160 bg), ((q 35), aI g 160 ln), ((q 36), aI g 160 xf), ((q 37), aI g 160 xt), ((q 39), aI g 160 xp), ((q 40), aZ g 600 u2.2.2.1)] H := hP
  have hD : va_D A [((q 16), aI g 620 on), ((q 17), aI g 620 tw), ((q 27), aI g 160 fl), ((q 28), aI g 160 pl), ((q 30), aI g 160 ty), ((q 32), aI g 160 sk), ((q 33), aI g 160 lo), ((q 41), aI g 600 u2.2.2.2.1), ((q 42), aZ g 600 u2.2.2.2.2), ((q 43), aI g 76800 kd), ((q 47), aI g 128 nw), ((q 48), aI g 64 bf), ((q 50), aI g 600 ak), (h0, .inr (10, mob q rf n mm mb u4.1 u4.2 av ev wi mn tp tc sc nf fd me mp xn mi wh tq ag an ig)), ((q 2), aI g 600 bs), ((q 14), aI g 620 tg), ((q 34), aI g 160 bg), ((q 35), aI g 160 ln), ((q 36), aI g 160 xf), ((q 37), aI g 160 xt), ((q 39), aI g 160 xp), ((q 40), aZ g 600 u2.2.2.1)] := hD
  have hP : va_P g.1 classes [(h0, .inr (10, mob q rf n mm mb u4.1 u4.2 av ev wi mn tp tc sc nf fd me mp xn mi wh tq ag an ig)), ((q 2), aI g 600 bs), ((q 14), aI g 620 tg), ((q 16), aI g 620 on), ((q 17), aI g 620 tw), ((q 27), aI g 160 fl), ((q 28), aI g 160 pl), ((q 30), aI g 160 ty), ((q 32), aI g 160 sk), ((q 33), aI g 160 lo), ((q 34), aI g 160 bg), ((q 35), aI g 160 ln), ((q 36), aI g 160 xf), ((q 37), aI g 160 xt), ((q 39), aI g 160 xp), ((q 40), aZ g 600 u2.2.2.1), ((q 41), aI g 600 u2.2.2.2.1), ((q 42), aZ g 600 u2.2.2.2.2), ((q 43), aI g 76800 kd), ((q 47), aI g 128 nw), ((q 48), aI g 64 bf), ((q 50), aI g 600 ak)] H := hP.sub [13, 14, 15, 0, 1, 2, 3, 4, 5, 6, 16, 17, 18, 19, 20, 21, 7, 8, 9, 10, 11, 12] rfl
  have hD : va_D A [(h0, .inr (10, mob q rf n mm mb u4.1 u4.2 av ev wi mn tp tc sc nf fd me mp xn mi wh tq ag an ig)), ((q 2), aI g 600 bs), ((q 14), aI g 620 tg), ((q 16), aI g 620 on), ((q 17), aI g 620 tw), ((q 27), aI g 160 fl), ((q 28), aI g 160 pl), ((q 30), aI g 160 ty), ((q 32), aI g 160 sk), ((q 33), aI g 160 lo), ((q 34), aI g 160 bg), ((q 35), aI g 160 ln), ((q 36), aI g 160 xf), ((q 37), aI g 160 xt), ((q 39), aI g 160 xp), ((q 40), aZ g 600 u2.2.2.1), ((q 41), aI g 600 u2.2.2.2.1), ((q 42), aZ g 600 u2.2.2.2.2), ((q 43), aI g 76800 kd), ((q 47), aI g 128 nw), ((q 48), aI g 64 bf), ((q 50), aI g 600 ak)] := hD.sub [13, 14, 15, 0, 1, 2, 3, 4, 5, 6, 16, 17, 18, 19, 20, 21, 7, 8, 9, 10, 11, 12] (by decide) rfl
  obtain ⟨hp4_0, hp4_1⟩ := hr3
  refine lv_aload_n hx hb d_Mod_verify_15 rfl (lv_at hl 0 rfl) ?_
  refine va_get (D := g.1) (ci := 10) (v := .int u4.1) (C := R_Mod) (T := F_Mod) (N := 61) hx hb hts in_Mod hown hK hP 0 rfl rfl 8 (by decide) (hts _ wd_1258) (fun _ h9 => h9) rfl d_Mod_verify_16 ?_
  refine lv_if_ne (tgt := 27) hx hb d_Mod_verify_19 (by decide) (fun h19 => ?_) (fun h19 => ?_)
  · refine lv_aload_n hx hb d_Mod_verify_27 rfl (lv_at hl 0 rfl) ?_
    refine va_get (D := g.1) (ci := 10) (v := .ref (q 34)) (C := R_Mod) (T := F_Mod) (N := 61) hx hb hts in_Mod hown hK hP 0 rfl rfl 34 (by decide) (hts _ wd_1284) (fun _ h9 => h9) rfl d_Mod_verify_28 ?_
    refine lv_iload_n hx hb d_Mod_verify_31 rfl (lv_at hl 1 rfl) ?_
    refine va_iald hx hb hK hP 10 0 rfl rfl (vp_in_nI (by omega) (by decide)) d_Mod_verify_32 ?_
    refine tw_ri (e2 := nI b1) (by rw [nI_clamp (by omega)]; exact hbg) ?_
    refine lv_istore_n hx hb d_Mod_verify_33 rfl hl (by decide) rfl (fun ls hl => ?_)
    have hl : lv_has ls 4 [(2, .int (nI b1)), (0, .ref h0), (1, .int (nI mi))] := hl
    refine lv_aload_n hx hb d_Mod_verify_34 rfl (lv_at hl 1 rfl) ?_
    refine va_get (D := g.1) (ci := 10) (v := .ref (q 34)) (C := R_Mod) (T := F_Mod) (N := 61) hx hb hts in_Mod hown hK hP 0 rfl rfl 34 (by decide) (hts _ wd_1284) (fun _ h9 => h9) rfl d_Mod_verify_35 ?_
    refine lv_iload_n hx hb d_Mod_verify_38 rfl (lv_at hl 2 rfl) ?_
    refine va_iald hx hb hK hP 10 0 rfl rfl (vp_in_nI (by omega) (by decide)) d_Mod_verify_39 ?_
    refine tw_ri (e2 := nI b1) (by rw [nI_clamp (by omega)]; exact hbg) ?_
    refine lv_aload_n hx hb d_Mod_verify_40 rfl (lv_at hl 1 rfl) ?_
    refine va_get (D := g.1) (ci := 10) (v := .ref (q 35)) (C := R_Mod) (T := F_Mod) (N := 61) hx hb hts in_Mod hown hK hP 0 rfl rfl 35 (by decide) (hts _ wd_1285) (fun _ h9 => h9) rfl d_Mod_verify_41 ?_
    refine lv_iload_n hx hb d_Mod_verify_44 rfl (lv_at hl 2 rfl) ?_
    refine va_iald hx hb hK hP 11 0 rfl rfl (vp_in_nI (by omega) (by decide)) d_Mod_verify_45 ?_
    refine tw_ri (e2 := nI l1) (by rw [nI_clamp (by omega)]; exact hln) ?_
    refine lv_iadd hx hb d_Mod_verify_46 ?_
    refine tw_ri (e2 := nI (b1 + l1)) (nI_add _ _) ?_
    refine lv_istore_n hx hb d_Mod_verify_47 rfl hl (by decide) rfl (fun ls hl => ?_)
    have hl : lv_has ls 4 [(3, .int (nI (b1 + l1))), (2, .int (nI b1)), (0, .ref h0), (1, .int (nI mi))] := hl
    have loop48 : ∀ (kq : Nat) (k : Nat) (fa9 : Int32) (fp9 : Int32) (tq9 : Nat) (wh9 : Nat) (ag9 : Nat) (an9 : Int32) (ak9 : Nat → Int32) (bf9 : Nat → Int32) (dp9 : Nat → Int32) (iw9 : Nat → Int32) (kd9 : Nat → Int32) (nw9 : Nat → Int32) (ls : Array Slot) (H : Heap) (locs : List Loc) , MU dp9 iw9 kd9 * 602 + (b1 + l1 - k) = kq → (hc9 : fa9 = 0 → u4.1 = 0) → (hFR9 : FRG dp9 iw9 kd9) → (hk1 : b1 ≤ k) → (hk2 : k ≤ b1 + l1) → lv_has ls 4 [(3, .int (nI (b1 + l1))), (2, .int (nI k)), (0, .ref h0), (1, .int (nI mi))] → va_P g.1 classes [(h0, .inr (10, mob q rf n mm mb fa9 fp9 av ev wi mn tp tc sc nf fd me mp xn mi wh9 tq9 ag9 an9 ig)), ((q 2), aI g 600 bs), ((q 14), aI g 620 tg), ((q 16), aI g 620 on), ((q 17), aI g 620 tw), ((q 27), aI g 160 fl), ((q 28), aI g 160 pl), ((q 30), aI g 160 ty), ((q 32), aI g 160 sk), ((q 33), aI g 160 lo), ((q 34), aI g 160 bg), ((q 35), aI g 160 ln), ((q 36), aI g 160 xf), ((q 37), aI g 160 xt), ((q 39), aI g 160 xp), ((q 40), aZ g 600 u2.2.2.1), ((q 41), aI g 600 dp9), ((q 42), aZ g 600 iw9), ((q 43), aI g 76800 kd9), ((q 47), aI g 128 nw9), ((q 48), aI g 64 bf9), ((q 50), aI g 600 ak9)] H → va_D A [(h0, .inr (10, mob q rf n mm mb fa9 fp9 av ev wi mn tp tc sc nf fd me mp xn mi wh9 tq9 ag9 an9 ig)), ((q 2), aI g 600 bs), ((q 14), aI g 620 tg), ((q 16), aI g 620 on), ((q 17), aI g 620 tw), ((q 27), aI g 160 fl), ((q 28), aI g 160 pl), ((q 30), aI g 160 ty), ((q 32), aI g 160 sk), ((q 33), aI g 160 lo), ((q 34), aI g 160 bg), ((q 35), aI g 160 ln), ((q 36), aI g 160 xf), ((q 37), aI g 160 xt), ((q 39), aI g 160 xp), ((q 40), aZ g 600 u2.2.2.1), ((q 41), aI g 600 dp9), ((q 42), aZ g 600 iw9), ((q 43), aI g 76800 kd9), ((q 47), aI g 128 nw9), ((q 48), aI g 64 bf9), ((q 50), aI g 600 ak9)] → va_S A s.heap H locs → W p l e ({ frames := 8, cells := 0, slots := 0, locals := 189 }) s m [.ref h0, .int (nI mi)].toArray below meth c H locs 0 0 (MQ below (tw_Qv g (fun (u : Int32 × Int32 × Nat × Nat × Nat × Nat × Int32 × (Nat → Int32) × (Nat → Int32) × (Nat → Int32) × (Nat → Int32) × (Nat → Int32) × (Nat → Int32) × (Nat → Int32)) => (u.1 = 0 → fa = 0) ∧ (FRG u.2.2.2.2.2.2.2.2.1 u.2.2.2.2.2.2.2.2.2.1 u.2.2.2.2.2.2.2.2.2.2.1)) (fun u : Int32 × Int32 × Nat × Nat × Nat × Nat × Int32 × (Nat → Int32) × (Nat → Int32) × (Nat → Int32) × (Nat → Int32) × (Nat → Int32) × (Nat → Int32) × (Nat → Int32) => [(h0, .inr (10, mob q rf n mm mb u.1 u.2.1 av ev wi mn tp tc sc nf fd me mp xn u.2.2.1 u.2.2.2.1 u.2.2.2.2.1 u.2.2.2.2.2.1 u.2.2.2.2.2.2.1 ig)), ((q 2), aI g 600 bs), ((q 14), aI g 620 tg), ((q 16), aI g 620 on), ((q 17), aI g 620 tw), ((q 27), aI g 160 fl), ((q 28), aI g 160 pl), ((q 30), aI g 160 ty), ((q 32), aI g 160 sk), ((q 33), aI g 160 lo), ((q 34), aI g 160 bg), ((q 35), aI g 160 ln), ((q 36), aI g 160 xf), ((q 37), aI g 160 xt), ((q 39), aI g 160 xp), ((q 40), aZ g 600 u.2.2.2.2.2.2.2.1), ((q 41), aI g 600 u.2.2.2.2.2.2.2.2.1), ((q 42), aZ g 600 u.2.2.2.2.2.2.2.2.2.1), ((q 43), aI g 76800 u.2.2.2.2.2.2.2.2.2.2.1), ((q 47), aI g 128 u.2.2.2.2.2.2.2.2.2.2.2.1), ((q 48), aI g 64 u.2.2.2.2.2.2.2.2.2.2.2.2.1), ((q 50), aI g 600 u.2.2.2.2.2.2.2.2.2.2.2.2.2)]) A) [.ref h0, .int (nI mi)].toArray s 0 0 A) (F0 m 48 ls []) := by
      intro kq
      induction kq using Nat.strongRecOn with
      | _ kq ih =>
        intro k fa9 fp9 tq9 wh9 ag9 an9 ak9 bf9 dp9 iw9 kd9 nw9 ls H locs hk hc9 hFR9 hk1 hk2 hl hP hD hS
        refine lv_iload_n hx hb d_Mod_verify_48 rfl (lv_at hl 1 rfl) ?_
        refine lv_iload_n hx hb d_Mod_verify_49 rfl (lv_at hl 0 rfl) ?_
        refine lv_icmp_ge (tgt := 100) hx hb d_Mod_verify_50 (by decide) (fun h50 => ?_) (fun h50 => ?_)
        · exact tw_vret E hS (fa9, fp9, mi, wh9, tq9, ag9, an9, u2.2.2.1, dp9, iw9, kd9, nw9, bf9, ak9) (⟨(fun h => absurd h (fun h => h19 (hc9 h))), hFR9⟩) hP hD d_Mod_verify_100
        · have h50 := tn_nle h50 (by omega) (by omega)
          refine lv_aload_n hx hb d_Mod_verify_53 rfl (lv_at hl 2 rfl) ?_
          refine va_get (D := g.1) (ci := 10) (v := .int fa9) (C := R_Mod) (T := F_Mod) (N := 61) hx hb hts in_Mod hown hK hP 0 rfl rfl 8 (by decide) (hts _ wd_1258) (fun _ h9 => h9) rfl d_Mod_verify_54 ?_
          refine lv_if_ne (tgt := 100) hx hb d_Mod_verify_57 (by decide) (fun h57 => ?_) (fun h57 => ?_)
          · exact tw_vret E hS (fa9, fp9, mi, wh9, tq9, ag9, an9, u2.2.2.1, dp9, iw9, kd9, nw9, bf9, ak9) (⟨(fun h => absurd h h57), hFR9⟩) hP hD d_Mod_verify_100
          · exact absurd h57 (fun h => h19 (hc9 h))
    exact loop48 _ b1 u4.1 u4.2 tq wh ag an ak bf u2.2.2.2.1 u2.2.2.2.2 kd nw ls _ _ rfl (fun h => h) hp2_1 (Nat.le_refl _) (by omega) (lv_sub hl [0, 1, 2, 3] rfl) hP hD hS
  · have hz5 := hp4_0 h19
    have hz6 := hp2_0 hz5
    have hz7 := hp2_2 hz5
    have hz8 := hp4_1 h19
    refine lv_aload_n hx hb d_Mod_verify_22 rfl (lv_at hl 0 rfl) ?_
    refine lv_iload_n hx hb d_Mod_verify_23 rfl (lv_at hl 1 rfl) ?_
    refine tw_wv (wr := [((q 14), aI g 620 tg), ((q 32), aI g 160 sk), ((q 35), aI g 160 ln), ((q 36), aI g 160 xf), ((q 37), aI g 160 xt), ((q 39), aI g 160 xp), ((q 40), aZ g 600 u2.2.2.1), ((q 48), aI g 64 bf)]) (tw_runV (ws := [(h0, .inr (10, mob q rf n mm mb u4.1 u4.2 av ev wi mn tp tc sc nf fd me mp xn mi wh tq ag an ig)), ((q 2), aI g 600 bs), ((q 14), aI g 620 tg), ((q 16), aI g 620 on), ((q 17), aI g 620 tw), ((q 27), aI g 160 fl), ((q 28), aI g 160 pl), ((q 30), aI g 160 ty), ((q 32), aI g 160 sk), ((q 33), aI g 160 lo), ((q 34), aI g 160 bg), ((q 35), aI g 160 ln), ((q 36), aI g 160 xf), ((q 37), aI g 160 xt), ((q 39), aI g 160 xp), ((q 40), aZ g 600 u2.2.2.1), ((q 41), aI g 600 u2.2.2.2.1), ((q 42), aZ g 600 u2.2.2.2.2), ((q 43), aI g 76800 kd), ((q 47), aI g 128 nw), ((q 48), aI g 64 bf), ((q 50), aI g 600 ak)]) (wc := [(h0, .inr (10, mob q rf n mm mb u4.1 u4.2 av ev wi mn tp tc sc nf fd me mp xn mi wh tq ag an ig)), ((q 2), aI g 600 bs), ((q 16), aI g 620 on), ((q 17), aI g 620 tw), ((q 27), aI g 160 fl), ((q 28), aI g 160 pl), ((q 30), aI g 160 ty), ((q 33), aI g 160 lo), ((q 34), aI g 160 bg), ((q 41), aI g 600 u2.2.2.2.1), ((q 42), aZ g 600 u2.2.2.2.2), ((q 43), aI g 76800 kd), ((q 47), aI g 128 nw), ((q 50), aI g 600 ak)]) (As := [.int (nI mi)]) (rest := []) E hB hK hZ (g_Mod_firstFrame l g H.size h0 q rf n mm mb av ev wi mn tp tc sc nf fd me mp xn mi wh tq ig bs on tw fl pl ty lo bg u4.1 u4.2 ag an u2.2.2.2.1 u2.2.2.2.2 kd nw ak b1 l1 o1 jt pt lt1 (by omega) hbg (by omega) hlo (by omega) hp2_1 hty (by omega) hj1 hj2 (by omega) hj4) mc_Mod_firstFrame mi_Mod_firstFrame me_Mod_firstFrame wd_1624 hP hD hS hA [0, 1, 3, 4, 5, 6, 7, 9, 10, 16, 17, 18, 19, 21] rfl (by decide) 0 rfl rfl rfl rfl rfl (by decide) rfl hl.1 rfl (Nat.le_of_ble_eq_true rfl) (by decide) d_Mod_verify_24) hP hD hS hA [0, 1, 3, 4, 5, 6, 7, 9, 10, 16, 17, 18, 19, 21] [2, 8, 11, 12, 13, 14, 15, 20] rfl rfl (by decide) (by decide) (fun u10 H locs hr9 hP hD hS => ?_)
    try dsimp only at hr9
    have hP : va_P g.1 classes [((q 14), aI g 620 tg), ((q 32), aI g 160 sk), ((q 35), aI g 160 ln), ((q 36), aI g 160 xf), ((q 37), aI g 160 xt), ((q 39), aI g 160 xp), ((q 40), aZ g 600 u2.2.2.1), ((q 48), aI g 64 bf), (h0, .inr (10, mob q rf n mm mb u10.1 u10.2.1 av ev wi mn tp tc sc nf fd me mp xn mi wh tq u10.2.2.1 u10.2.2.2.1 ig)), ((q 2), aI g 600 bs), ((q 16), aI g 620 on), ((q 17), aI g 620 tw), ((q 27), aI g 160 fl), ((q 28), aI g 160 pl), ((q 30), aI g 160 ty), ((q 33), aI g 160 lo), ((q 34), aI g 160 bg), ((q 41), aI g 600 u10.2.2.2.2.1), ((q 42), aZ g 600 u10.2.2.2.2.2.1), ((q 43), aI g 76800 u10.2.2.2.2.2.2.1), ((q 47), aI g 128 u10.2.2.2.2.2.2.2.1), ((q 50), aI g 600 u10.2.2.2.2.2.2.2.2)] H := hP
    have hD : va_D A [((q 14), aI g 620 tg), ((q 32), aI g 160 sk), ((q 35), aI g 160 ln), ((q 36), aI g 160 xf), ((q 37), aI g 160 xt), ((q 39), aI g 160 xp), ((q 40), aZ g 600 u2.2.2.1), ((q 48), aI g 64 bf), (h0, .inr (10, mob q rf n mm mb u10.1 u10.2.1 av ev wi mn tp tc sc nf fd me mp xn mi wh tq u10.2.2.1 u10.2.2.2.1 ig)), ((q 2), aI g 600 bs), ((q 16), aI g 620 on), ((q 17), aI g 620 tw), ((q 27), aI g 160 fl), ((q 28), aI g 160 pl), ((q 30), aI g 160 ty), ((q 33), aI g 160 lo), ((q 34), aI g 160 bg), ((q 41), aI g 600 u10.2.2.2.2.1), ((q 42), aZ g 600 u10.2.2.2.2.2.1), ((q 43), aI g 76800 u10.2.2.2.2.2.2.1), ((q 47), aI g 128 u10.2.2.2.2.2.2.2.1), ((q 50), aI g 600 u10.2.2.2.2.2.2.2.2)] := hD
    have hP : va_P g.1 classes [(h0, .inr (10, mob q rf n mm mb u10.1 u10.2.1 av ev wi mn tp tc sc nf fd me mp xn mi wh tq u10.2.2.1 u10.2.2.2.1 ig)), ((q 2), aI g 600 bs), ((q 14), aI g 620 tg), ((q 16), aI g 620 on), ((q 17), aI g 620 tw), ((q 27), aI g 160 fl), ((q 28), aI g 160 pl), ((q 30), aI g 160 ty), ((q 32), aI g 160 sk), ((q 33), aI g 160 lo), ((q 34), aI g 160 bg), ((q 35), aI g 160 ln), ((q 36), aI g 160 xf), ((q 37), aI g 160 xt), ((q 39), aI g 160 xp), ((q 40), aZ g 600 u2.2.2.1), ((q 41), aI g 600 u10.2.2.2.2.1), ((q 42), aZ g 600 u10.2.2.2.2.2.1), ((q 43), aI g 76800 u10.2.2.2.2.2.2.1), ((q 47), aI g 128 u10.2.2.2.2.2.2.2.1), ((q 48), aI g 64 bf), ((q 50), aI g 600 u10.2.2.2.2.2.2.2.2)] H := hP.sub [8, 9, 0, 10, 11, 12, 13, 14, 1, 15, 16, 2, 3, 4, 5, 6, 17, 18, 19, 20, 7, 21] rfl
    have hD : va_D A [(h0, .inr (10, mob q rf n mm mb u10.1 u10.2.1 av ev wi mn tp tc sc nf fd me mp xn mi wh tq u10.2.2.1 u10.2.2.2.1 ig)), ((q 2), aI g 600 bs), ((q 14), aI g 620 tg), ((q 16), aI g 620 on), ((q 17), aI g 620 tw), ((q 27), aI g 160 fl), ((q 28), aI g 160 pl), ((q 30), aI g 160 ty), ((q 32), aI g 160 sk), ((q 33), aI g 160 lo), ((q 34), aI g 160 bg), ((q 35), aI g 160 ln), ((q 36), aI g 160 xf), ((q 37), aI g 160 xt), ((q 39), aI g 160 xp), ((q 40), aZ g 600 u2.2.2.1), ((q 41), aI g 600 u10.2.2.2.2.1), ((q 42), aZ g 600 u10.2.2.2.2.2.1), ((q 43), aI g 76800 u10.2.2.2.2.2.2.1), ((q 47), aI g 128 u10.2.2.2.2.2.2.2.1), ((q 48), aI g 64 bf), ((q 50), aI g 600 u10.2.2.2.2.2.2.2.2)] := hD.sub [8, 9, 0, 10, 11, 12, 13, 14, 1, 15, 16, 2, 3, 4, 5, 6, 17, 18, 19, 20, 7, 21] (by decide) rfl
    obtain ⟨hp10_0, hp10_1, hp10_2⟩ := hr9
    refine lv_aload_n hx hb d_Mod_verify_27 rfl (lv_at hl 0 rfl) ?_
    refine va_get (D := g.1) (ci := 10) (v := .ref (q 34)) (C := R_Mod) (T := F_Mod) (N := 61) hx hb hts in_Mod hown hK hP 0 rfl rfl 34 (by decide) (hts _ wd_1284) (fun _ h9 => h9) rfl d_Mod_verify_28 ?_
    refine lv_iload_n hx hb d_Mod_verify_31 rfl (lv_at hl 1 rfl) ?_
    refine va_iald hx hb hK hP 10 0 rfl rfl (vp_in_nI (by omega) (by decide)) d_Mod_verify_32 ?_
    refine tw_ri (e2 := nI b1) (by rw [nI_clamp (by omega)]; exact hbg) ?_
    refine lv_istore_n hx hb d_Mod_verify_33 rfl hl (by decide) rfl (fun ls hl => ?_)
    have hl : lv_has ls 4 [(2, .int (nI b1)), (0, .ref h0), (1, .int (nI mi))] := hl
    refine lv_aload_n hx hb d_Mod_verify_34 rfl (lv_at hl 1 rfl) ?_
    refine va_get (D := g.1) (ci := 10) (v := .ref (q 34)) (C := R_Mod) (T := F_Mod) (N := 61) hx hb hts in_Mod hown hK hP 0 rfl rfl 34 (by decide) (hts _ wd_1284) (fun _ h9 => h9) rfl d_Mod_verify_35 ?_
    refine lv_iload_n hx hb d_Mod_verify_38 rfl (lv_at hl 2 rfl) ?_
    refine va_iald hx hb hK hP 10 0 rfl rfl (vp_in_nI (by omega) (by decide)) d_Mod_verify_39 ?_
    refine tw_ri (e2 := nI b1) (by rw [nI_clamp (by omega)]; exact hbg) ?_
    refine lv_aload_n hx hb d_Mod_verify_40 rfl (lv_at hl 1 rfl) ?_
    refine va_get (D := g.1) (ci := 10) (v := .ref (q 35)) (C := R_Mod) (T := F_Mod) (N := 61) hx hb hts in_Mod hown hK hP 0 rfl rfl 35 (by decide) (hts _ wd_1285) (fun _ h9 => h9) rfl d_Mod_verify_41 ?_
    refine lv_iload_n hx hb d_Mod_verify_44 rfl (lv_at hl 2 rfl) ?_
    refine va_iald hx hb hK hP 11 0 rfl rfl (vp_in_nI (by omega) (by decide)) d_Mod_verify_45 ?_
    refine tw_ri (e2 := nI l1) (by rw [nI_clamp (by omega)]; exact hln) ?_
    refine lv_iadd hx hb d_Mod_verify_46 ?_
    refine tw_ri (e2 := nI (b1 + l1)) (nI_add _ _) ?_
    refine lv_istore_n hx hb d_Mod_verify_47 rfl hl (by decide) rfl (fun ls hl => ?_)
    have hl : lv_has ls 4 [(3, .int (nI (b1 + l1))), (2, .int (nI b1)), (0, .ref h0), (1, .int (nI mi))] := hl
    have loop48 : ∀ (kq : Nat) (k : Nat) (fa9 : Int32) (fp9 : Int32) (tq9 : Nat) (wh9 : Nat) (ag9 : Nat) (an9 : Int32) (ak9 : Nat → Int32) (bf9 : Nat → Int32) (dp9 : Nat → Int32) (iw9 : Nat → Int32) (kd9 : Nat → Int32) (nw9 : Nat → Int32) (ls : Array Slot) (H : Heap) (locs : List Loc) , MU dp9 iw9 kd9 * 602 + (b1 + l1 - k) = kq → (hc9 : fa9 = 0 → u10.1 = 0) → (hFR9 : FRG dp9 iw9 kd9) → (hk1 : b1 ≤ k) → (hk2 : k ≤ b1 + l1) → lv_has ls 4 [(3, .int (nI (b1 + l1))), (2, .int (nI k)), (0, .ref h0), (1, .int (nI mi))] → va_P g.1 classes [(h0, .inr (10, mob q rf n mm mb fa9 fp9 av ev wi mn tp tc sc nf fd me mp xn mi wh9 tq9 ag9 an9 ig)), ((q 2), aI g 600 bs), ((q 14), aI g 620 tg), ((q 16), aI g 620 on), ((q 17), aI g 620 tw), ((q 27), aI g 160 fl), ((q 28), aI g 160 pl), ((q 30), aI g 160 ty), ((q 32), aI g 160 sk), ((q 33), aI g 160 lo), ((q 34), aI g 160 bg), ((q 35), aI g 160 ln), ((q 36), aI g 160 xf), ((q 37), aI g 160 xt), ((q 39), aI g 160 xp), ((q 40), aZ g 600 u2.2.2.1), ((q 41), aI g 600 dp9), ((q 42), aZ g 600 iw9), ((q 43), aI g 76800 kd9), ((q 47), aI g 128 nw9), ((q 48), aI g 64 bf9), ((q 50), aI g 600 ak9)] H → va_D A [(h0, .inr (10, mob q rf n mm mb fa9 fp9 av ev wi mn tp tc sc nf fd me mp xn mi wh9 tq9 ag9 an9 ig)), ((q 2), aI g 600 bs), ((q 14), aI g 620 tg), ((q 16), aI g 620 on), ((q 17), aI g 620 tw), ((q 27), aI g 160 fl), ((q 28), aI g 160 pl), ((q 30), aI g 160 ty), ((q 32), aI g 160 sk), ((q 33), aI g 160 lo), ((q 34), aI g 160 bg), ((q 35), aI g 160 ln), ((q 36), aI g 160 xf), ((q 37), aI g 160 xt), ((q 39), aI g 160 xp), ((q 40), aZ g 600 u2.2.2.1), ((q 41), aI g 600 dp9), ((q 42), aZ g 600 iw9), ((q 43), aI g 76800 kd9), ((q 47), aI g 128 nw9), ((q 48), aI g 64 bf9), ((q 50), aI g 600 ak9)] → va_S A s.heap H locs → W p l e ({ frames := 8, cells := 0, slots := 0, locals := 189 }) s m [.ref h0, .int (nI mi)].toArray below meth c H locs 0 0 (MQ below (tw_Qv g (fun (u : Int32 × Int32 × Nat × Nat × Nat × Nat × Int32 × (Nat → Int32) × (Nat → Int32) × (Nat → Int32) × (Nat → Int32) × (Nat → Int32) × (Nat → Int32) × (Nat → Int32)) => (u.1 = 0 → fa = 0) ∧ (FRG u.2.2.2.2.2.2.2.2.1 u.2.2.2.2.2.2.2.2.2.1 u.2.2.2.2.2.2.2.2.2.2.1)) (fun u : Int32 × Int32 × Nat × Nat × Nat × Nat × Int32 × (Nat → Int32) × (Nat → Int32) × (Nat → Int32) × (Nat → Int32) × (Nat → Int32) × (Nat → Int32) × (Nat → Int32) => [(h0, .inr (10, mob q rf n mm mb u.1 u.2.1 av ev wi mn tp tc sc nf fd me mp xn u.2.2.1 u.2.2.2.1 u.2.2.2.2.1 u.2.2.2.2.2.1 u.2.2.2.2.2.2.1 ig)), ((q 2), aI g 600 bs), ((q 14), aI g 620 tg), ((q 16), aI g 620 on), ((q 17), aI g 620 tw), ((q 27), aI g 160 fl), ((q 28), aI g 160 pl), ((q 30), aI g 160 ty), ((q 32), aI g 160 sk), ((q 33), aI g 160 lo), ((q 34), aI g 160 bg), ((q 35), aI g 160 ln), ((q 36), aI g 160 xf), ((q 37), aI g 160 xt), ((q 39), aI g 160 xp), ((q 40), aZ g 600 u.2.2.2.2.2.2.2.1), ((q 41), aI g 600 u.2.2.2.2.2.2.2.2.1), ((q 42), aZ g 600 u.2.2.2.2.2.2.2.2.2.1), ((q 43), aI g 76800 u.2.2.2.2.2.2.2.2.2.2.1), ((q 47), aI g 128 u.2.2.2.2.2.2.2.2.2.2.2.1), ((q 48), aI g 64 u.2.2.2.2.2.2.2.2.2.2.2.2.1), ((q 50), aI g 600 u.2.2.2.2.2.2.2.2.2.2.2.2.2)]) A) [.ref h0, .int (nI mi)].toArray s 0 0 A) (F0 m 48 ls []) := by
      intro kq
      induction kq using Nat.strongRecOn with
      | _ kq ih =>
        intro k fa9 fp9 tq9 wh9 ag9 an9 ak9 bf9 dp9 iw9 kd9 nw9 ls H locs hk hc9 hFR9 hk1 hk2 hl hP hD hS
        refine lv_iload_n hx hb d_Mod_verify_48 rfl (lv_at hl 1 rfl) ?_
        refine lv_iload_n hx hb d_Mod_verify_49 rfl (lv_at hl 0 rfl) ?_
        refine lv_icmp_ge (tgt := 100) hx hb d_Mod_verify_50 (by decide) (fun h50 => ?_) (fun h50 => ?_)
        · exact tw_vret E hS (fa9, fp9, mi, wh9, tq9, ag9, an9, u2.2.2.1, dp9, iw9, kd9, nw9, bf9, ak9) (⟨(fun _ => hz6), hFR9⟩) hP hD d_Mod_verify_100
        · have h50 := tn_nle h50 (by omega) (by omega)
          refine lv_aload_n hx hb d_Mod_verify_53 rfl (lv_at hl 2 rfl) ?_
          refine va_get (D := g.1) (ci := 10) (v := .int fa9) (C := R_Mod) (T := F_Mod) (N := 61) hx hb hts in_Mod hown hK hP 0 rfl rfl 8 (by decide) (hts _ wd_1258) (fun _ h9 => h9) rfl d_Mod_verify_54 ?_
          refine lv_if_ne (tgt := 100) hx hb d_Mod_verify_57 (by decide) (fun h57 => ?_) (fun h57 => ?_)
          · exact tw_vret E hS (fa9, fp9, mi, wh9, tq9, ag9, an9, u2.2.2.1, dp9, iw9, kd9, nw9, bf9, ak9) (⟨(fun h => absurd h h57), hFR9⟩) hP hD d_Mod_verify_100
          · have hz11 := hc9 h57
            have hz12 := hp10_0 hz11
            have hz13 := hp4_0 hz12
            have hz14 := hp2_0 hz13
            have hz15 := hp2_2 hz13
            have hz16 := hp4_1 hz12
            refine lv_aload_n hx hb d_Mod_verify_60 rfl (lv_at hl 2 rfl) ?_
            refine va_get (D := g.1) (ci := 10) (v := .ref (q 40)) (C := R_Mod) (T := F_Mod) (N := 61) hx hb hts in_Mod hown hK hP 0 rfl rfl 40 (by decide) (hts _ wd_1290) (fun _ h9 => h9) rfl d_Mod_verify_61 ?_
            refine lv_iload_n hx hb d_Mod_verify_64 rfl (lv_at hl 1 rfl) ?_
            refine va_zald hx hb hK hP 15 3 rfl rfl (vp_in_nI (by omega) (by decide)) d_Mod_verify_65 ?_
            refine tw_ri (e2 := u2.2.2.1 k) (by rw [nI_clamp (by omega)]) ?_
            refine lv_if_eq (tgt := 94) hx hb d_Mod_verify_66 (by decide) (fun h66 => ?_) (fun h66 => ?_)
            · refine lv_iinc (k := 1) (v := nI (k + 1)) hx hb d_Mod_verify_94 hl rfl ((nI_succ k).symm) (by decide) rfl (fun ls hl => ?_)
              have hl : lv_has ls 4 [(2, .int (nI (k + 1))), (3, .int (nI (b1 + l1))), (0, .ref h0), (1, .int (nI mi))] := hl
              refine lv_goto (tgt := 48) hx hb d_Mod_verify_97 (by decide) ?_
              have hP : va_P g.1 classes [(h0, .inr (10, mob q rf n mm mb fa9 fp9 av ev wi mn tp tc sc nf fd me mp xn mi wh9 tq9 ag9 an9 ig)), ((q 2), aI g 600 bs), ((q 14), aI g 620 tg), ((q 16), aI g 620 on), ((q 17), aI g 620 tw), ((q 27), aI g 160 fl), ((q 28), aI g 160 pl), ((q 30), aI g 160 ty), ((q 32), aI g 160 sk), ((q 33), aI g 160 lo), ((q 34), aI g 160 bg), ((q 35), aI g 160 ln), ((q 36), aI g 160 xf), ((q 37), aI g 160 xt), ((q 39), aI g 160 xp), ((q 40), aZ g 600 u2.2.2.1), ((q 41), aI g 600 dp9), ((q 42), aZ g 600 iw9), ((q 43), aI g 76800 kd9), ((q 47), aI g 128 nw9), ((q 48), aI g 64 bf9), ((q 50), aI g 600 ak9)] H := hP.sub [0, 1, 2, 3, 4, 5, 6, 7, 8, 9, 10, 11, 12, 13, 14, 15, 16, 17, 18, 19, 20, 21] rfl
              have hD : va_D A [(h0, .inr (10, mob q rf n mm mb fa9 fp9 av ev wi mn tp tc sc nf fd me mp xn mi wh9 tq9 ag9 an9 ig)), ((q 2), aI g 600 bs), ((q 14), aI g 620 tg), ((q 16), aI g 620 on), ((q 17), aI g 620 tw), ((q 27), aI g 160 fl), ((q 28), aI g 160 pl), ((q 30), aI g 160 ty), ((q 32), aI g 160 sk), ((q 33), aI g 160 lo), ((q 34), aI g 160 bg), ((q 35), aI g 160 ln), ((q 36), aI g 160 xf), ((q 37), aI g 160 xt), ((q 39), aI g 160 xp), ((q 40), aZ g 600 u2.2.2.1), ((q 41), aI g 600 dp9), ((q 42), aZ g 600 iw9), ((q 43), aI g 76800 kd9), ((q 47), aI g 128 nw9), ((q 48), aI g 64 bf9), ((q 50), aI g 600 ak9)] := hD.sub [0, 1, 2, 3, 4, 5, 6, 7, 8, 9, 10, 11, 12, 13, 14, 15, 16, 17, 18, 19, 20, 21] (by decide) rfl
              exact ih _ (by omega) (k + 1) fa9 fp9 tq9 wh9 ag9 an9 ak9 bf9 dp9 iw9 kd9 nw9 ls _ _ rfl (fun _ => hz11) hFR9 (by omega) (by omega) (lv_sub hl [1, 0, 2, 3] rfl) hP hD hS
            · refine lv_aload_n hx hb d_Mod_verify_69 rfl (lv_at hl 2 rfl) ?_
              refine va_get (D := g.1) (ci := 10) (v := .ref (q 42)) (C := R_Mod) (T := F_Mod) (N := 61) hx hb hts in_Mod hown hK hP 0 rfl rfl 42 (by decide) (hts _ wd_1292) (fun _ h9 => h9) rfl d_Mod_verify_70 ?_
              refine lv_iload_n hx hb d_Mod_verify_73 rfl (lv_at hl 1 rfl) ?_
              refine va_zald hx hb hK hP 17 3 rfl rfl (vp_in_nI (by omega) (by decide)) d_Mod_verify_74 ?_
              refine tw_ri (e2 := iw9 k) (by rw [nI_clamp (by omega)]) ?_
              refine lv_if_eq (tgt := 94) hx hb d_Mod_verify_75 (by decide) (fun h75 => ?_) (fun h75 => ?_)
              · refine lv_iinc (k := 1) (v := nI (k + 1)) hx hb d_Mod_verify_94 hl rfl ((nI_succ k).symm) (by decide) rfl (fun ls hl => ?_)
                have hl : lv_has ls 4 [(2, .int (nI (k + 1))), (3, .int (nI (b1 + l1))), (0, .ref h0), (1, .int (nI mi))] := hl
                refine lv_goto (tgt := 48) hx hb d_Mod_verify_97 (by decide) ?_
                have hP : va_P g.1 classes [(h0, .inr (10, mob q rf n mm mb fa9 fp9 av ev wi mn tp tc sc nf fd me mp xn mi wh9 tq9 ag9 an9 ig)), ((q 2), aI g 600 bs), ((q 14), aI g 620 tg), ((q 16), aI g 620 on), ((q 17), aI g 620 tw), ((q 27), aI g 160 fl), ((q 28), aI g 160 pl), ((q 30), aI g 160 ty), ((q 32), aI g 160 sk), ((q 33), aI g 160 lo), ((q 34), aI g 160 bg), ((q 35), aI g 160 ln), ((q 36), aI g 160 xf), ((q 37), aI g 160 xt), ((q 39), aI g 160 xp), ((q 40), aZ g 600 u2.2.2.1), ((q 41), aI g 600 dp9), ((q 42), aZ g 600 iw9), ((q 43), aI g 76800 kd9), ((q 47), aI g 128 nw9), ((q 48), aI g 64 bf9), ((q 50), aI g 600 ak9)] H := hP.sub [0, 1, 2, 3, 4, 5, 6, 7, 8, 9, 10, 11, 12, 13, 14, 15, 16, 17, 18, 19, 20, 21] rfl
                have hD : va_D A [(h0, .inr (10, mob q rf n mm mb fa9 fp9 av ev wi mn tp tc sc nf fd me mp xn mi wh9 tq9 ag9 an9 ig)), ((q 2), aI g 600 bs), ((q 14), aI g 620 tg), ((q 16), aI g 620 on), ((q 17), aI g 620 tw), ((q 27), aI g 160 fl), ((q 28), aI g 160 pl), ((q 30), aI g 160 ty), ((q 32), aI g 160 sk), ((q 33), aI g 160 lo), ((q 34), aI g 160 bg), ((q 35), aI g 160 ln), ((q 36), aI g 160 xf), ((q 37), aI g 160 xt), ((q 39), aI g 160 xp), ((q 40), aZ g 600 u2.2.2.1), ((q 41), aI g 600 dp9), ((q 42), aZ g 600 iw9), ((q 43), aI g 76800 kd9), ((q 47), aI g 128 nw9), ((q 48), aI g 64 bf9), ((q 50), aI g 600 ak9)] := hD.sub [0, 1, 2, 3, 4, 5, 6, 7, 8, 9, 10, 11, 12, 13, 14, 15, 16, 17, 18, 19, 20, 21] (by decide) rfl
                exact ih _ (by omega) (k + 1) fa9 fp9 tq9 wh9 ag9 an9 ak9 bf9 dp9 iw9 kd9 nw9 ls _ _ rfl (fun _ => hz11) hFR9 (by omega) (by omega) (lv_sub hl [1, 0, 2, 3] rfl) hP hD hS
              · refine lv_aload_n hx hb d_Mod_verify_78 rfl (lv_at hl 2 rfl) ?_
                refine lv_iload_n hx hb d_Mod_verify_79 rfl (lv_at hl 3 rfl) ?_
                refine lv_iload_n hx hb d_Mod_verify_80 rfl (lv_at hl 1 rfl) ?_
                refine tw_wv (wr := [((q 27), aI g 160 fl), ((q 28), aI g 160 pl)]) (tw_runV (ws := [(h0, .inr (10, mob q rf n mm mb fa9 fp9 av ev wi mn tp tc sc nf fd me mp xn mi wh9 tq9 ag9 an9 ig)), ((q 2), aI g 600 bs), ((q 14), aI g 620 tg), ((q 16), aI g 620 on), ((q 17), aI g 620 tw), ((q 27), aI g 160 fl), ((q 28), aI g 160 pl), ((q 30), aI g 160 ty), ((q 32), aI g 160 sk), ((q 33), aI g 160 lo), ((q 34), aI g 160 bg), ((q 35), aI g 160 ln), ((q 36), aI g 160 xf), ((q 37), aI g 160 xt), ((q 39), aI g 160 xp), ((q 40), aZ g 600 u2.2.2.1), ((q 41), aI g 600 dp9), ((q 42), aZ g 600 iw9), ((q 43), aI g 76800 kd9), ((q 47), aI g 128 nw9), ((q 48), aI g 64 bf9), ((q 50), aI g 600 ak9)]) (wc := [(h0, .inr (10, mob q rf n mm mb fa9 fp9 av ev wi mn tp tc sc nf fd me mp xn mi wh9 tq9 ag9 an9 ig)), ((q 2), aI g 600 bs), ((q 14), aI g 620 tg), ((q 16), aI g 620 on), ((q 17), aI g 620 tw), ((q 30), aI g 160 ty), ((q 32), aI g 160 sk), ((q 33), aI g 160 lo), ((q 34), aI g 160 bg), ((q 35), aI g 160 ln), ((q 36), aI g 160 xf), ((q 37), aI g 160 xt), ((q 39), aI g 160 xp), ((q 40), aZ g 600 u2.2.2.1), ((q 41), aI g 600 dp9), ((q 42), aZ g 600 iw9), ((q 43), aI g 76800 kd9), ((q 47), aI g 128 nw9), ((q 48), aI g 64 bf9), ((q 50), aI g 600 ak9)]) (As := [.int (nI mi), .int (nI k)]) (rest := []) E hB hK hZ (g_Mod_through l g H.size h0 q rf n mm mb av ev wi mn tp tc sc nf fd me mp xn mi ig bs tg on tw ty sk lo bg ln xf xt xp u2.2.2.1 fa9 fp9 wh9 tq9 ag9 an9 dp9 iw9 kd9 nw9 bf9 ak9 k b1 l1 x1 y1 s1 o1 jt pt lt1 (by omega) hbg hln (by omega) (by omega) (by omega) h75 h66 hxf hxt (by omega) (by omega) hsk (by omega) hlo (by omega) hz15 hz16 hbs hFR9 (by omega) hTX hLCA hMCA hty (by omega) hj1 hj2 (by omega) hj4) mc_Mod_through mi_Mod_through me_Mod_through wd_1640 hP hD hS hA [0, 1, 2, 3, 4, 7, 8, 9, 10, 11, 12, 13, 14, 15, 16, 17, 18, 19, 20, 21] rfl (by decide) 0 rfl rfl rfl rfl rfl (by decide) rfl hl.1 rfl (Nat.le_of_ble_eq_true rfl) (by decide) d_Mod_verify_81) hP hD hS hA [0, 1, 2, 3, 4, 7, 8, 9, 10, 11, 12, 13, 14, 15, 16, 17, 18, 19, 20, 21] [5, 6] rfl rfl (by decide) (by decide) (fun u18 H locs hr17 hP hD hS => ?_)
                try dsimp only at hr17
                have hP : va_P g.1 classes [((q 27), aI g 160 fl), ((q 28), aI g 160 pl), (h0, .inr (10, mob q rf n mm mb u18.1 u18.2.1 av ev wi mn tp tc sc nf fd me mp xn mi u18.2.2.1 u18.2.2.2.1 u18.2.2.2.2.1 u18.2.2.2.2.2.1 ig)), ((q 2), aI g 600 bs), ((q 14), aI g 620 tg), ((q 16), aI g 620 on), ((q 17), aI g 620 tw), ((q 30), aI g 160 ty), ((q 32), aI g 160 sk), ((q 33), aI g 160 lo), ((q 34), aI g 160 bg), ((q 35), aI g 160 ln), ((q 36), aI g 160 xf), ((q 37), aI g 160 xt), ((q 39), aI g 160 xp), ((q 40), aZ g 600 u2.2.2.1), ((q 41), aI g 600 u18.2.2.2.2.2.2.1), ((q 42), aZ g 600 u18.2.2.2.2.2.2.2.1), ((q 43), aI g 76800 u18.2.2.2.2.2.2.2.2.1), ((q 47), aI g 128 u18.2.2.2.2.2.2.2.2.2.1), ((q 48), aI g 64 u18.2.2.2.2.2.2.2.2.2.2.1), ((q 50), aI g 600 u18.2.2.2.2.2.2.2.2.2.2.2)] H := hP
                have hD : va_D A [((q 27), aI g 160 fl), ((q 28), aI g 160 pl), (h0, .inr (10, mob q rf n mm mb u18.1 u18.2.1 av ev wi mn tp tc sc nf fd me mp xn mi u18.2.2.1 u18.2.2.2.1 u18.2.2.2.2.1 u18.2.2.2.2.2.1 ig)), ((q 2), aI g 600 bs), ((q 14), aI g 620 tg), ((q 16), aI g 620 on), ((q 17), aI g 620 tw), ((q 30), aI g 160 ty), ((q 32), aI g 160 sk), ((q 33), aI g 160 lo), ((q 34), aI g 160 bg), ((q 35), aI g 160 ln), ((q 36), aI g 160 xf), ((q 37), aI g 160 xt), ((q 39), aI g 160 xp), ((q 40), aZ g 600 u2.2.2.1), ((q 41), aI g 600 u18.2.2.2.2.2.2.1), ((q 42), aZ g 600 u18.2.2.2.2.2.2.2.1), ((q 43), aI g 76800 u18.2.2.2.2.2.2.2.2.1), ((q 47), aI g 128 u18.2.2.2.2.2.2.2.2.2.1), ((q 48), aI g 64 u18.2.2.2.2.2.2.2.2.2.2.1), ((q 50), aI g 600 u18.2.2.2.2.2.2.2.2.2.2.2)] := hD
                have hP : va_P g.1 classes [(h0, .inr (10, mob q rf n mm mb u18.1 u18.2.1 av ev wi mn tp tc sc nf fd me mp xn mi u18.2.2.1 u18.2.2.2.1 u18.2.2.2.2.1 u18.2.2.2.2.2.1 ig)), ((q 2), aI g 600 bs), ((q 14), aI g 620 tg), ((q 16), aI g 620 on), ((q 17), aI g 620 tw), ((q 27), aI g 160 fl), ((q 28), aI g 160 pl), ((q 30), aI g 160 ty), ((q 32), aI g 160 sk), ((q 33), aI g 160 lo), ((q 34), aI g 160 bg), ((q 35), aI g 160 ln), ((q 36), aI g 160 xf), ((q 37), aI g 160 xt), ((q 39), aI g 160 xp), ((q 40), aZ g 600 u2.2.2.1), ((q 41), aI g 600 u18.2.2.2.2.2.2.1), ((q 42), aZ g 600 u18.2.2.2.2.2.2.2.1), ((q 43), aI g 76800 u18.2.2.2.2.2.2.2.2.1), ((q 47), aI g 128 u18.2.2.2.2.2.2.2.2.2.1), ((q 48), aI g 64 u18.2.2.2.2.2.2.2.2.2.2.1), ((q 50), aI g 600 u18.2.2.2.2.2.2.2.2.2.2.2)] H := hP.sub [2, 3, 4, 5, 6, 0, 1, 7, 8, 9, 10, 11, 12, 13, 14, 15, 16, 17, 18, 19, 20, 21] rfl
                have hD : va_D A [(h0, .inr (10, mob q rf n mm mb u18.1 u18.2.1 av ev wi mn tp tc sc nf fd me mp xn mi u18.2.2.1 u18.2.2.2.1 u18.2.2.2.2.1 u18.2.2.2.2.2.1 ig)), ((q 2), aI g 600 bs), ((q 14), aI g 620 tg), ((q 16), aI g 620 on), ((q 17), aI g 620 tw), ((q 27), aI g 160 fl), ((q 28), aI g 160 pl), ((q 30), aI g 160 ty), ((q 32), aI g 160 sk), ((q 33), aI g 160 lo), ((q 34), aI g 160 bg), ((q 35), aI g 160 ln), ((q 36), aI g 160 xf), ((q 37), aI g 160 xt), ((q 39), aI g 160 xp), ((q 40), aZ g 600 u2.2.2.1), ((q 41), aI g 600 u18.2.2.2.2.2.2.1), ((q 42), aZ g 600 u18.2.2.2.2.2.2.2.1), ((q 43), aI g 76800 u18.2.2.2.2.2.2.2.2.1), ((q 47), aI g 128 u18.2.2.2.2.2.2.2.2.2.1), ((q 48), aI g 64 u18.2.2.2.2.2.2.2.2.2.2.1), ((q 50), aI g 600 u18.2.2.2.2.2.2.2.2.2.2.2)] := hD.sub [2, 3, 4, 5, 6, 0, 1, 7, 8, 9, 10, 11, 12, 13, 14, 15, 16, 17, 18, 19, 20, 21] (by decide) rfl
                obtain ⟨hp18_0, hp18_1, hp18_2⟩ := hr17
                refine lv_aload_n hx hb d_Mod_verify_84 rfl (lv_at hl 2 rfl) ?_
                refine va_get (D := g.1) (ci := 10) (v := .ref (q 34)) (C := R_Mod) (T := F_Mod) (N := 61) hx hb hts in_Mod hown hK hP 0 rfl rfl 34 (by decide) (hts _ wd_1284) (fun _ h9 => h9) rfl d_Mod_verify_85 ?_
                refine lv_iload_n hx hb d_Mod_verify_88 rfl (lv_at hl 3 rfl) ?_
                refine va_iald hx hb hK hP 10 0 rfl rfl (vp_in_nI (by omega) (by decide)) d_Mod_verify_89 ?_
                refine tw_ri (e2 := nI b1) (by rw [nI_clamp (by omega)]; exact hbg) ?_
                refine lv_istore_n hx hb d_Mod_verify_90 rfl hl (by decide) rfl (fun ls hl => ?_)
                have hl : lv_has ls 4 [(2, .int (nI b1)), (3, .int (nI (b1 + l1))), (0, .ref h0), (1, .int (nI mi))] := hl
                refine lv_goto (tgt := 48) hx hb d_Mod_verify_91 (by decide) ?_
                have hP : va_P g.1 classes [(h0, .inr (10, mob q rf n mm mb u18.1 u18.2.1 av ev wi mn tp tc sc nf fd me mp xn mi u18.2.2.1 u18.2.2.2.1 u18.2.2.2.2.1 u18.2.2.2.2.2.1 ig)), ((q 2), aI g 600 bs), ((q 14), aI g 620 tg), ((q 16), aI g 620 on), ((q 17), aI g 620 tw), ((q 27), aI g 160 fl), ((q 28), aI g 160 pl), ((q 30), aI g 160 ty), ((q 32), aI g 160 sk), ((q 33), aI g 160 lo), ((q 34), aI g 160 bg), ((q 35), aI g 160 ln), ((q 36), aI g 160 xf), ((q 37), aI g 160 xt), ((q 39), aI g 160 xp), ((q 40), aZ g 600 u2.2.2.1), ((q 41), aI g 600 u18.2.2.2.2.2.2.1), ((q 42), aZ g 600 u18.2.2.2.2.2.2.2.1), ((q 43), aI g 76800 u18.2.2.2.2.2.2.2.2.1), ((q 47), aI g 128 u18.2.2.2.2.2.2.2.2.2.1), ((q 48), aI g 64 u18.2.2.2.2.2.2.2.2.2.2.1), ((q 50), aI g 600 u18.2.2.2.2.2.2.2.2.2.2.2)] H := hP.sub [0, 1, 2, 3, 4, 5, 6, 7, 8, 9, 10, 11, 12, 13, 14, 15, 16, 17, 18, 19, 20, 21] rfl
                have hD : va_D A [(h0, .inr (10, mob q rf n mm mb u18.1 u18.2.1 av ev wi mn tp tc sc nf fd me mp xn mi u18.2.2.1 u18.2.2.2.1 u18.2.2.2.2.1 u18.2.2.2.2.2.1 ig)), ((q 2), aI g 600 bs), ((q 14), aI g 620 tg), ((q 16), aI g 620 on), ((q 17), aI g 620 tw), ((q 27), aI g 160 fl), ((q 28), aI g 160 pl), ((q 30), aI g 160 ty), ((q 32), aI g 160 sk), ((q 33), aI g 160 lo), ((q 34), aI g 160 bg), ((q 35), aI g 160 ln), ((q 36), aI g 160 xf), ((q 37), aI g 160 xt), ((q 39), aI g 160 xp), ((q 40), aZ g 600 u2.2.2.1), ((q 41), aI g 600 u18.2.2.2.2.2.2.1), ((q 42), aZ g 600 u18.2.2.2.2.2.2.2.1), ((q 43), aI g 76800 u18.2.2.2.2.2.2.2.2.1), ((q 47), aI g 128 u18.2.2.2.2.2.2.2.2.2.1), ((q 48), aI g 64 u18.2.2.2.2.2.2.2.2.2.2.1), ((q 50), aI g 600 u18.2.2.2.2.2.2.2.2.2.2.2)] := hD.sub [0, 1, 2, 3, 4, 5, 6, 7, 8, 9, 10, 11, 12, 13, 14, 15, 16, 17, 18, 19, 20, 21] (by decide) rfl
                exact ih _ (by omega) b1 u18.1 u18.2.1 u18.2.2.2.1 u18.2.2.1 u18.2.2.2.2.1 u18.2.2.2.2.2.1 u18.2.2.2.2.2.2.2.2.2.2.2 u18.2.2.2.2.2.2.2.2.2.2.1 u18.2.2.2.2.2.2.1 u18.2.2.2.2.2.2.2.1 u18.2.2.2.2.2.2.2.2.1 u18.2.2.2.2.2.2.2.2.2.1 ls _ _ rfl (fun _ => hz11) hp18_1 (by omega) (by omega) (lv_sub hl [1, 0, 2, 3] rfl) hP hD hS
    exact loop48 _ b1 u10.1 u10.2.1 tq wh u10.2.2.1 u10.2.2.2.1 u10.2.2.2.2.2.2.2.2 bf u10.2.2.2.2.1 u10.2.2.2.2.2.1 u10.2.2.2.2.2.2.1 u10.2.2.2.2.2.2.2.1 ls _ _ rfl (fun h => h) hp10_1 (Nat.le_refl _) (by omega) (lv_sub hl [0, 1, 2, 3] rfl) hP hD hS
end
section
/-! What is kept of a good class file. -/
def TXG (gt : Nat → Int32) (t : Nat) : Prop := ∃ p l, gt t = nI p ∧ gt (t + 1) = nI l ∧ p + l ≤ 600
theorem txg_new {gt gt' : Nat → Int32} {t p l : Nat} (h : p + l ≤ 600) (e : gt' = upd (upd gt t (nI p)) (t + 1) (nI l)) : TXG gt' t := by
  subst e
  refine ⟨p, l, ?_, if_pos rfl, h⟩
  exact (if_neg (by omega)).trans (if_pos rfl)
theorem txg_put {gt gt' : Nat → Int32} {t s p l : Nat} (h : TXG gt s) (hd : s + 2 ≤ t ∨ t + 2 ≤ s) (e : gt' = upd (upd gt t (nI p)) (t + 1) (nI l)) : TXG gt' s := by
  subst e
  obtain ⟨a, b, h1, h2, h3⟩ := h
  refine ⟨a, b, ?_, ?_, h3⟩
  · exact (if_neg (by omega)).trans ((if_neg (by omega)).trans h1)
  · exact (if_neg (by omega)).trans ((if_neg (by omega)).trans h2)
theorem txg_mem {gt gt' gu : Nat → Int32} {i p l p2 l2 : Nat} (h : ∀ j, j < i → TXG gt (4 + 4 * j) ∧ TXG gt (6 + 4 * j)) (e1 : gt' = upd (upd gt (4 + 4 * i) (nI p)) (4 + 4 * i + 1) (nI l)) (e2 : gu = upd (upd gt' (6 + 4 * i) (nI p2)) (6 + 4 * i + 1) (nI l2)) (h1 : p + l ≤ 600) (h2 : p2 + l2 ≤ 600) : ∀ j, j < i + 1 → TXG gu (4 + 4 * j) ∧ TXG gu (6 + 4 * j) := by
  intro j hj
  by_cases e : j = i
  · subst e
    exact ⟨txg_put (txg_new h1 e1) (by omega) e2, txg_new h2 e2⟩
  · have hh := h j (by omega)
    exact ⟨txg_put (txg_put hh.1 (by omega) e1) (by omega) e2, txg_put (txg_put hh.2 (by omega) e1) (by omega) e2⟩
theorem txg_fac {gt gt' : Nat → Int32} {i p l : Nat} (h : ∀ j, j < i → TXG gt (400 + 2 * j)) (e1 : gt' = upd (upd gt (400 + 2 * i) (nI p)) (400 + 2 * i + 1) (nI l)) (h1 : p + l ≤ 600) : ∀ j, j < i + 1 → TXG gt' (400 + 2 * j) := by
  intro j hj
  by_cases e : j = i
  · subst e; exact txg_new h1 e1
  · exact txg_put (h j (by omega)) (by omega) e1
def T3 (to : Nat → Int32) (a b c : Nat) : Prop := to 1 = nI a ∧ to 2 = nI b ∧ to 3 = nI c
theorem t3_put {to : Nat → Int32} {a b c i : Nat} {x : Int32} (h : T3 to a b c) (hi : 4 ≤ i) : T3 (upd to i x) a b c := ⟨(if_neg (by omega)).trans h.1, (if_neg (by omega)).trans h.2.1, (if_neg (by omega)).trans h.2.2⟩
theorem t3_same {to to' : Nat → Int32} {a b c : Nat} (h : T3 to a b c) (e : ∀ j, j < 4 → to' j = to j) : T3 to' a b c := ⟨(e 1 (by decide)).trans h.1, (e 2 (by decide)).trans h.2.1, (e 3 (by decide)).trans h.2.2⟩
def GME (gbg gl glo : Nat → Int32) (k : Nat) : Prop := gl k = 0 ∨ ∃ b l o, gbg k = nI b ∧ gl k = nI l ∧ b + l ≤ 600 ∧ glo k = nI o ∧ o ≤ 64
theorem gme_put {gbg gl glo : Nat → Int32} {i f : Nat} {x y z : Int32} (h : ∀ j, j < i - f → GME gbg gl glo j) (hf : f ≤ i) (hn : GME (upd gbg (i - f) x) (upd gl (i - f) y) (upd glo (i - f) z) (i - f)) : ∀ j, j < i + 1 - f → GME (upd gbg (i - f) x) (upd gl (i - f) y) (upd glo (i - f) z) j := by
  intro j hj
  by_cases e : j = i - f
  · rw [e]; exact hn
  · unfold GME
    simp only [upd, if_neg e]
    exact h j (by omega)
def GDD (gd : Nat → Int32) : Prop := ∀ p, p < 600 → gd p = -1 ∨ ∃ d, d ≤ 64 ∧ gd p = nI d
theorem gd_put {gd : Nat → Int32} {k : Nat} (h : ∀ j, j < k → gd j = -1) : ∀ j, j < k + 1 → upd gd k (-1) j = -1 := by
  intro j hj
  by_cases e : j = k
  · exact if_pos e
  · exact (if_neg e).trans (h j (by omega))
theorem gdd_put {gd gd' dp iw kd : Nat → Int32} {p : Nat} (h : GDD gd) (hF : FRG dp iw kd) (hp : p < 600) (e : gd' = upd gd p (dp p)) : GDD gd' := by
  subst e
  intro j hj
  by_cases e : j = p
  · subst e; simp only [upd, if_true]; exact hF.1 j hj
  · simp only [upd, if_neg e]; exact h j hj
theorem kp_z (x : Int32) : x + 0 ≤ x := by rw [Int32.add_zero]; exact Int32.le_refl _
def GOK (to gt gbg gl glo gd : Nat → Int32) : Prop := ∃ c1 c2 c3, c1 ≤ 300 ∧ c2 + c3 ≤ 75 ∧ T3 to c1 c2 c3 ∧ TXG gt 0 ∧ TXG gt 2 ∧ (∀ j, j < c2 + c3 → TXG gt (4 + 4 * j) ∧ TXG gt (6 + 4 * j)) ∧ (∀ j, j < c1 → TXG gt (400 + 2 * j)) ∧ (∀ j, j < c3 → GME gbg gl glo j) ∧ GDD gd
end
section
theorem d_Mod_keepFrame_0 : decode b_Mod_keepFrame 0 = .ok (.aload_n 0, 1) := by decide +kernel
theorem d_Mod_keepFrame_1 : decode b_Mod_keepFrame 1 = .ok (.getfield 127, 3) := by decide +kernel
theorem d_Mod_keepFrame_4 : decode b_Mod_keepFrame 4 = .ok (.iload_n 1, 1) := by decide +kernel
theorem d_Mod_keepFrame_5 : decode b_Mod_keepFrame 5 = .ok (.aload_n 0, 1) := by decide +kernel
theorem d_Mod_keepFrame_6 : decode b_Mod_keepFrame 6 = .ok (.getfield 90, 3) := by decide +kernel
theorem d_Mod_keepFrame_9 : decode b_Mod_keepFrame 9 = .ok (.iload_n 1, 1) := by decide +kernel
theorem d_Mod_keepFrame_10 : decode b_Mod_keepFrame 10 = .ok (.iaload, 1) := by decide +kernel
theorem d_Mod_keepFrame_11 : decode b_Mod_keepFrame 11 = .ok (.iastore, 1) := by decide +kernel
theorem d_Mod_keepFrame_12 : decode b_Mod_keepFrame 12 = .ok (.aload_n 0, 1) := by decide +kernel
theorem d_Mod_keepFrame_13 : decode b_Mod_keepFrame 13 = .ok (.getfield 90, 3) := by decide +kernel
theorem d_Mod_keepFrame_16 : decode b_Mod_keepFrame 16 = .ok (.iload_n 1, 1) := by decide +kernel
theorem d_Mod_keepFrame_17 : decode b_Mod_keepFrame 17 = .ok (.iaload, 1) := by decide +kernel
theorem d_Mod_keepFrame_18 : decode b_Mod_keepFrame 18 = .ok (.ifCond .ge 4, 3) := by decide +kernel
theorem d_Mod_keepFrame_21 : decode b_Mod_keepFrame 21 = .ok (.return_, 1) := by decide +kernel
theorem d_Mod_keepFrame_22 : decode b_Mod_keepFrame 22 = .ok (.aload_n 0, 1) := by decide +kernel
theorem d_Mod_keepFrame_23 : decode b_Mod_keepFrame 23 = .ok (.getfield 112, 3) := by decide +kernel
theorem d_Mod_keepFrame_26 : decode b_Mod_keepFrame 26 = .ok (.iconst 5, 1) := by decide +kernel
theorem d_Mod_keepFrame_27 : decode b_Mod_keepFrame 27 = .ok (.dup2, 1) := by decide +kernel
theorem d_Mod_keepFrame_28 : decode b_Mod_keepFrame 28 = .ok (.iaload, 1) := by decide +kernel
theorem d_Mod_keepFrame_29 : decode b_Mod_keepFrame 29 = .ok (.iconst 1, 1) := by decide +kernel
theorem d_Mod_keepFrame_30 : decode b_Mod_keepFrame 30 = .ok (.iadd, 1) := by decide +kernel
theorem d_Mod_keepFrame_31 : decode b_Mod_keepFrame 31 = .ok (.iastore, 1) := by decide +kernel
theorem d_Mod_keepFrame_32 : decode b_Mod_keepFrame 32 = .ok (.aload_n 0, 1) := by decide +kernel
theorem d_Mod_keepFrame_33 : decode b_Mod_keepFrame 33 = .ok (.getfield 112, 3) := by decide +kernel
theorem d_Mod_keepFrame_36 : decode b_Mod_keepFrame 36 = .ok (.bipush 6, 2) := by decide +kernel
theorem d_Mod_keepFrame_38 : decode b_Mod_keepFrame 38 = .ok (.aload_n 0, 1) := by decide +kernel
theorem d_Mod_keepFrame_39 : decode b_Mod_keepFrame 39 = .ok (.getfield 90, 3) := by decide +kernel
theorem d_Mod_keepFrame_42 : decode b_Mod_keepFrame 42 = .ok (.iload_n 1, 1) := by decide +kernel
theorem d_Mod_keepFrame_43 : decode b_Mod_keepFrame 43 = .ok (.iaload, 1) := by decide +kernel
theorem d_Mod_keepFrame_44 : decode b_Mod_keepFrame 44 = .ok (.aload_n 0, 1) := by decide +kernel
theorem d_Mod_keepFrame_45 : decode b_Mod_keepFrame 45 = .ok (.getfield 112, 3) := by decide +kernel
theorem d_Mod_keepFrame_48 : decode b_Mod_keepFrame 48 = .ok (.bipush 6, 2) := by decide +kernel
theorem d_Mod_keepFrame_50 : decode b_Mod_keepFrame 50 = .ok (.iaload, 1) := by decide +kernel
theorem d_Mod_keepFrame_51 : decode b_Mod_keepFrame 51 = .ok (.if_icmp .le 12, 3) := by decide +kernel
theorem d_Mod_keepFrame_54 : decode b_Mod_keepFrame 54 = .ok (.aload_n 0, 1) := by decide +kernel
theorem d_Mod_keepFrame_55 : decode b_Mod_keepFrame 55 = .ok (.getfield 90, 3) := by decide +kernel
theorem d_Mod_keepFrame_58 : decode b_Mod_keepFrame 58 = .ok (.iload_n 1, 1) := by decide +kernel
theorem d_Mod_keepFrame_59 : decode b_Mod_keepFrame 59 = .ok (.iaload, 1) := by decide +kernel
theorem d_Mod_keepFrame_60 : decode b_Mod_keepFrame 60 = .ok (.goto 10, 3) := by decide +kernel
theorem d_Mod_keepFrame_63 : decode b_Mod_keepFrame 63 = .ok (.aload_n 0, 1) := by decide +kernel
theorem d_Mod_keepFrame_64 : decode b_Mod_keepFrame 64 = .ok (.getfield 112, 3) := by decide +kernel
theorem d_Mod_keepFrame_67 : decode b_Mod_keepFrame 67 = .ok (.bipush 6, 2) := by decide +kernel
theorem d_Mod_keepFrame_69 : decode b_Mod_keepFrame 69 = .ok (.iaload, 1) := by decide +kernel
theorem d_Mod_keepFrame_70 : decode b_Mod_keepFrame 70 = .ok (.iastore, 1) := by decide +kernel
theorem d_Mod_keepFrame_71 : decode b_Mod_keepFrame 71 = .ok (.iconst 0, 1) := by decide +kernel
theorem d_Mod_keepFrame_72 : decode b_Mod_keepFrame 72 = .ok (.istore_n 2, 1) := by decide +kernel
theorem d_Mod_keepFrame_73 : decode b_Mod_keepFrame 73 = .ok (.iload_n 2, 1) := by decide +kernel
theorem d_Mod_keepFrame_74 : decode b_Mod_keepFrame 74 = .ok (.sipush 128, 3) := by decide +kernel
theorem d_Mod_keepFrame_77 : decode b_Mod_keepFrame 77 = .ok (.if_icmp .ge 33, 3) := by decide +kernel
theorem d_Mod_keepFrame_80 : decode b_Mod_keepFrame 80 = .ok (.aload_n 0, 1) := by decide +kernel
theorem d_Mod_keepFrame_81 : decode b_Mod_keepFrame 81 = .ok (.getfield 130, 3) := by decide +kernel
theorem d_Mod_keepFrame_84 : decode b_Mod_keepFrame 84 = .ok (.sipush 128, 3) := by decide +kernel
theorem d_Mod_keepFrame_87 : decode b_Mod_keepFrame 87 = .ok (.iload_n 1, 1) := by decide +kernel
theorem d_Mod_keepFrame_88 : decode b_Mod_keepFrame 88 = .ok (.imul, 1) := by decide +kernel
theorem d_Mod_keepFrame_89 : decode b_Mod_keepFrame 89 = .ok (.iload_n 2, 1) := by decide +kernel
theorem d_Mod_keepFrame_90 : decode b_Mod_keepFrame 90 = .ok (.iadd, 1) := by decide +kernel
theorem d_Mod_keepFrame_91 : decode b_Mod_keepFrame 91 = .ok (.aload_n 0, 1) := by decide +kernel
theorem d_Mod_keepFrame_92 : decode b_Mod_keepFrame 92 = .ok (.getfield 97, 3) := by decide +kernel
theorem d_Mod_keepFrame_95 : decode b_Mod_keepFrame 95 = .ok (.sipush 128, 3) := by decide +kernel
theorem d_Mod_keepFrame_98 : decode b_Mod_keepFrame 98 = .ok (.iload_n 1, 1) := by decide +kernel
theorem d_Mod_keepFrame_99 : decode b_Mod_keepFrame 99 = .ok (.imul, 1) := by decide +kernel
theorem d_Mod_keepFrame_100 : decode b_Mod_keepFrame 100 = .ok (.iload_n 2, 1) := by decide +kernel
theorem d_Mod_keepFrame_101 : decode b_Mod_keepFrame 101 = .ok (.iadd, 1) := by decide +kernel
theorem d_Mod_keepFrame_102 : decode b_Mod_keepFrame 102 = .ok (.iaload, 1) := by decide +kernel
theorem d_Mod_keepFrame_103 : decode b_Mod_keepFrame 103 = .ok (.iastore, 1) := by decide +kernel
theorem d_Mod_keepFrame_104 : decode b_Mod_keepFrame 104 = .ok (.iinc 2 1, 3) := by decide +kernel
theorem d_Mod_keepFrame_107 : decode b_Mod_keepFrame 107 = .ok (.goto (-34), 3) := by decide +kernel
theorem d_Mod_keepFrame_110 : decode b_Mod_keepFrame 110 = .ok (.return_, 1) := by decide +kernel
theorem d_Mod_keepText_0 : decode b_Mod_keepText 0 = .ok (.aload_n 0, 1) := by decide +kernel
theorem d_Mod_keepText_1 : decode b_Mod_keepText 1 = .ok (.getfield 115, 3) := by decide +kernel
theorem d_Mod_keepText_4 : decode b_Mod_keepText 4 = .ok (.iload_n 1, 1) := by decide +kernel
theorem d_Mod_keepText_5 : decode b_Mod_keepText 5 = .ok (.aload_n 0, 1) := by decide +kernel
theorem d_Mod_keepText_6 : decode b_Mod_keepText 6 = .ok (.getfield 38, 3) := by decide +kernel
theorem d_Mod_keepText_9 : decode b_Mod_keepText 9 = .ok (.iload_n 2, 1) := by decide +kernel
theorem d_Mod_keepText_10 : decode b_Mod_keepText 10 = .ok (.iaload, 1) := by decide +kernel
theorem d_Mod_keepText_11 : decode b_Mod_keepText 11 = .ok (.iastore, 1) := by decide +kernel
theorem d_Mod_keepText_12 : decode b_Mod_keepText 12 = .ok (.aload_n 0, 1) := by decide +kernel
theorem d_Mod_keepText_13 : decode b_Mod_keepText 13 = .ok (.getfield 115, 3) := by decide +kernel
theorem d_Mod_keepText_16 : decode b_Mod_keepText 16 = .ok (.iload_n 1, 1) := by decide +kernel
theorem d_Mod_keepText_17 : decode b_Mod_keepText 17 = .ok (.iconst 1, 1) := by decide +kernel
theorem d_Mod_keepText_18 : decode b_Mod_keepText 18 = .ok (.iadd, 1) := by decide +kernel
theorem d_Mod_keepText_19 : decode b_Mod_keepText 19 = .ok (.aload_n 0, 1) := by decide +kernel
theorem d_Mod_keepText_20 : decode b_Mod_keepText 20 = .ok (.getfield 41, 3) := by decide +kernel
theorem d_Mod_keepText_23 : decode b_Mod_keepText 23 = .ok (.iload_n 2, 1) := by decide +kernel
theorem d_Mod_keepText_24 : decode b_Mod_keepText 24 = .ok (.iaload, 1) := by decide +kernel
theorem d_Mod_keepText_25 : decode b_Mod_keepText 25 = .ok (.iastore, 1) := by decide +kernel
theorem d_Mod_keepText_26 : decode b_Mod_keepText 26 = .ok (.return_, 1) := by decide +kernel
end
section
set_option maxHeartbeats 4000000 in
set_option maxRecDepth 100000 in
theorem g_Mod_keepText (l : Launch) (g : tw_G) (sz : Nat) (h0 : Nat) (q : Nat → Nat) (rf : Int32) (n : Nat) (mm : Int32) (mb : Int32) (fa : Int32) (fp : Int32) (av : Nat) (ev : Nat) (wi : Int32) (mn : Nat) (tp : Int32) (tc : Int32) (sc : Int32) (nf : Nat) (fd : Nat) (me : Nat) (mp : Int32) (xn : Nat) (mt : Nat) (wh : Nat) (tq : Nat) (ag : Nat) (an : Int32) (ig : Int32) (on : Nat → Int32) (tw : Nat → Int32) (gt : Nat → Int32) (tt : Nat) (k : Nat) (p1 l1 : Nat) (ht11 : tt + 1 < 1100) (k6k : k < 620) (q1k : on k = nI p1) (q2k : tw k = nI l1) (q3k : p1 + l1 ≤ 600) : Met l y_Mod_keepText [.code y_Mod_keepText b_Mod_keepText 3 none] ({ frames := 0, cells := 0, slots := 0, locals := 0 }) (tw_P g [.ref h0, .int (nI tt), .int (nI k)] [(h0, .inr (10, mob q rf n mm mb fa fp av ev wi mn tp tc sc nf fd me mp xn mt wh tq ag an ig)), ((q 16), aI g 620 on), ((q 17), aI g 620 tw), ((q 55), aI g 1100 gt)] sz) (tw_Qv g (fun (u : (Nat → Int32)) => (u = upd (upd gt tt (nI p1)) (tt + 1) (nI l1))) (fun u : (Nat → Int32) => [(h0, .inr (10, mob q rf n mm mb fa fp av ev wi mn tp tc sc nf fd me mp xn mt wh tq ag an ig)), ((q 16), aI g 620 on), ((q 17), aI g 620 tw), ((q 55), aI g 1100 u)]) (va_A [(h0, .inr (10, mob q rf n mm mb fa fp av ev wi mn tp tc sc nf fd me mp xn mt wh tq ag an ig)), ((q 16), aI g 620 on), ((q 17), aI g 620 tw), ((q 55), aI g 1100 gt)] sz)) 0 0 (va_A [(h0, .inr (10, mob q rf n mm mb fa fp av ev wi mn tp tc sc nf fd me mp xn mt wh tq ag an ig)), ((q 16), aI g 620 on), ((q 17), aI g 620 tw), ((q 55), aI g 1100 gt)] sz) := by
  refine tw_metW (l := l) (g := g) (y := y_Mod_keepText) (cc := b_Mod_keepText) (maxL := 3) (ret := none) (rm := { frames := 0, cells := 0, slots := 0, locals := 0 }) (mc := 0) (ms := 0) (av := [.ref h0, .int (nI tt), .int (nI k)]) (ws := [(h0, .inr (10, mob q rf n mm mb fa fp av ev wi mn tp tc sc nf fd me mp xn mt wh tq ag an ig)), ((q 16), aI g 620 on), ((q 17), aI g 620 tw), ((q 55), aI g 1100 gt)]) (sz := sz) (Qc := fun A => (tw_Qv g (fun (u : (Nat → Int32)) => (u = upd (upd gt tt (nI p1)) (tt + 1) (nI l1))) (fun u : (Nat → Int32) => [(h0, .inr (10, mob q rf n mm mb fa fp av ev wi mn tp tc sc nf fd me mp xn mt wh tq ag an ig)), ((q 16), aI g 620 on), ((q 17), aI g 620 tw), ((q 55), aI g 1100 u)]) A)) (by decide) (Nat.le_of_ble_eq_true rfl) ?_
  intro p e s m below meth c ls H A E hB hK hZ hP hD hS hA hl
  obtain ⟨hx, hb, hml, hr, hown, hts, hlocks, hin⟩ := id E
  have hl : lv_has ls 3 [(0, .ref h0), (1, .int (nI tt)), (2, .int (nI k))] := hl
  refine lv_aload_n hx hb d_Mod_keepText_0 rfl (lv_at hl 0 rfl) ?_
  refine va_get (D := g.1) (ci := 10) (v := .ref (q 55)) (C := R_Mod) (T := F_Mod) (N := 61) hx hb hts in_Mod hown hK hP 0 rfl rfl 55 (by decide) (hts _ wd_1305) (fun _ h9 => h9) rfl d_Mod_keepText_1 ?_
  refine lv_iload_n hx hb d_Mod_keepText_4 rfl (lv_at hl 1 rfl) ?_
  refine lv_aload_n hx hb d_Mod_keepText_5 rfl (lv_at hl 0 rfl) ?_
  refine va_get (D := g.1) (ci := 10) (v := .ref (q 16)) (C := R_Mod) (T := F_Mod) (N := 61) hx hb hts in_Mod hown hK hP 0 rfl rfl 16 (by decide) (hts _ wd_1266) (fun _ h9 => h9) rfl d_Mod_keepText_6 ?_
  refine lv_iload_n hx hb d_Mod_keepText_9 rfl (lv_at hl 2 rfl) ?_
  refine va_iald hx hb hK hP 1 0 rfl rfl (vp_in_nI (by omega) (by decide)) d_Mod_keepText_10 ?_
  refine tw_ri (e2 := nI p1) (by rw [nI_clamp (by omega)]; exact q1k) ?_
  refine va_iast hx hb hK hP hD hS 3 0 rfl rfl (vp_in_nI (by omega) (by decide)) d_Mod_keepText_11 (fun H locs hP hD hS => ?_)
  have hP : va_P g.1 classes [(h0, .inr (10, mob q rf n mm mb fa fp av ev wi mn tp tc sc nf fd me mp xn mt wh tq ag an ig)), ((q 16), aI g 620 on), ((q 17), aI g 620 tw), ((q 55), aI g 1100 (upd gt (nI tt).toNatClampNeg (nI p1)))] H := hP
  have hD : va_D A [(h0, .inr (10, mob q rf n mm mb fa fp av ev wi mn tp tc sc nf fd me mp xn mt wh tq ag an ig)), ((q 16), aI g 620 on), ((q 17), aI g 620 tw), ((q 55), aI g 1100 (upd gt (nI tt).toNatClampNeg (nI p1)))] := hD
  have e9 : upd gt (nI tt).toNatClampNeg (nI p1) = upd gt tt (nI p1) := by rw [nI_clamp (by omega)]
  rw [e9] at hP hD
  refine lv_aload_n hx hb d_Mod_keepText_12 rfl (lv_at hl 0 rfl) ?_
  refine va_get (D := g.1) (ci := 10) (v := .ref (q 55)) (C := R_Mod) (T := F_Mod) (N := 61) hx hb hts in_Mod hown hK hP 0 rfl rfl 55 (by decide) (hts _ wd_1305) (fun _ h9 => h9) rfl d_Mod_keepText_13 ?_
  refine lv_iload_n hx hb d_Mod_keepText_16 rfl (lv_at hl 1 rfl) ?_
  refine lv_iconst (v := 1) hx hb d_Mod_keepText_17 (by decide) ?_
  refine lv_iadd hx hb d_Mod_keepText_18 ?_
  refine tw_ri (e2 := nI (tt + 1)) (nI_add tt 1) ?_
  refine lv_aload_n hx hb d_Mod_keepText_19 rfl (lv_at hl 0 rfl) ?_
  refine va_get (D := g.1) (ci := 10) (v := .ref (q 17)) (C := R_Mod) (T := F_Mod) (N := 61) hx hb hts in_Mod hown hK hP 0 rfl rfl 17 (by decide) (hts _ wd_1267) (fun _ h9 => h9) rfl d_Mod_keepText_20 ?_
  refine lv_iload_n hx hb d_Mod_keepText_23 rfl (lv_at hl 2 rfl) ?_
  refine va_iald hx hb hK hP 2 0 rfl rfl (vp_in_nI (by omega) (by decide)) d_Mod_keepText_24 ?_
  refine tw_ri (e2 := nI l1) (by rw [nI_clamp (by omega)]; exact q2k) ?_
  refine va_iast hx hb hK hP hD hS 3 0 rfl rfl (vp_in_nI (by omega) (by decide)) d_Mod_keepText_25 (fun H locs hP hD hS => ?_)
  have hP : va_P g.1 classes [(h0, .inr (10, mob q rf n mm mb fa fp av ev wi mn tp tc sc nf fd me mp xn mt wh tq ag an ig)), ((q 16), aI g 620 on), ((q 17), aI g 620 tw), ((q 55), aI g 1100 (upd (upd gt tt (nI p1)) (nI (tt + 1)).toNatClampNeg (nI l1)))] H := hP
  have hD : va_D A [(h0, .inr (10, mob q rf n mm mb fa fp av ev wi mn tp tc sc nf fd me mp xn mt wh tq ag an ig)), ((q 16), aI g 620 on), ((q 17), aI g 620 tw), ((q 55), aI g 1100 (upd (upd gt tt (nI p1)) (nI (tt + 1)).toNatClampNeg (nI l1)))] := hD
  have e9 : upd (upd gt tt (nI p1)) (nI (tt + 1)).toNatClampNeg (nI l1) = upd (upd gt tt (nI p1)) (tt + 1) (nI l1) := by rw [nI_clamp (by omega)]
  rw [e9] at hP hD
  exact tw_vret E hS (upd (upd gt tt (nI p1)) (tt + 1) (nI l1)) rfl hP hD d_Mod_keepText_26
set_option maxHeartbeats 4000000 in
set_option maxRecDepth 100000 in
theorem g_Mod_keepFrame (l : Launch) (g : tw_G) (sz : Nat) (h0 : Nat) (q : Nat → Nat) (rf : Int32) (n : Nat) (mm : Int32) (mb : Int32) (fa : Int32) (fp : Int32) (av : Nat) (ev : Nat) (wi : Int32) (mn : Nat) (tp : Int32) (tc : Int32) (sc : Int32) (nf : Nat) (fd : Nat) (me : Nat) (mp : Int32) (xn : Nat) (mt : Nat) (wh : Nat) (tq : Nat) (ag : Nat) (an : Int32) (ig : Int32) (dp : Nat → Int32) (kd : Nat → Int32) (to : Nat → Int32) (gd : Nat → Int32) (gk : Nat → Int32) (pp : Nat) (hp6 : pp < 600) : Met l y_Mod_keepFrame [.code y_Mod_keepFrame b_Mod_keepFrame 3 none] ({ frames := 0, cells := 0, slots := 0, locals := 0 }) (tw_P g [.ref h0, .int (nI pp)] [(h0, .inr (10, mob q rf n mm mb fa fp av ev wi mn tp tc sc nf fd me mp xn mt wh tq ag an ig)), ((q 41), aI g 600 dp), ((q 43), aI g 76800 kd), ((q 54), aI g 8 to), ((q 59), aI g 600 gd), ((q 60), aI g 76800 gk)] sz) (tw_Qv g (fun (u : (Nat → Int32) × (Nat → Int32) × (Nat → Int32)) => (u.2.1 = upd gd pp (dp pp)) ∧ (∀ j, j < 4 → u.1 j = to j)) (fun u : (Nat → Int32) × (Nat → Int32) × (Nat → Int32) => [(h0, .inr (10, mob q rf n mm mb fa fp av ev wi mn tp tc sc nf fd me mp xn mt wh tq ag an ig)), ((q 41), aI g 600 dp), ((q 43), aI g 76800 kd), ((q 54), aI g 8 u.1), ((q 59), aI g 600 u.2.1), ((q 60), aI g 76800 u.2.2)]) (va_A [(h0, .inr (10, mob q rf n mm mb fa fp av ev wi mn tp tc sc nf fd me mp xn mt wh tq ag an ig)), ((q 41), aI g 600 dp), ((q 43), aI g 76800 kd), ((q 54), aI g 8 to), ((q 59), aI g 600 gd), ((q 60), aI g 76800 gk)] sz)) 0 0 (va_A [(h0, .inr (10, mob q rf n mm mb fa fp av ev wi mn tp tc sc nf fd me mp xn mt wh tq ag an ig)), ((q 41), aI g 600 dp), ((q 43), aI g 76800 kd), ((q 54), aI g 8 to), ((q 59), aI g 600 gd), ((q 60), aI g 76800 gk)] sz) := by
  refine tw_metW (l := l) (g := g) (y := y_Mod_keepFrame) (cc := b_Mod_keepFrame) (maxL := 3) (ret := none) (rm := { frames := 0, cells := 0, slots := 0, locals := 0 }) (mc := 0) (ms := 0) (av := [.ref h0, .int (nI pp)]) (ws := [(h0, .inr (10, mob q rf n mm mb fa fp av ev wi mn tp tc sc nf fd me mp xn mt wh tq ag an ig)), ((q 41), aI g 600 dp), ((q 43), aI g 76800 kd), ((q 54), aI g 8 to), ((q 59), aI g 600 gd), ((q 60), aI g 76800 gk)]) (sz := sz) (Qc := fun A => (tw_Qv g (fun (u : (Nat → Int32) × (Nat → Int32) × (Nat → Int32)) => (u.2.1 = upd gd pp (dp pp)) ∧ (∀ j, j < 4 → u.1 j = to j)) (fun u : (Nat → Int32) × (Nat → Int32) × (Nat → Int32) => [(h0, .inr (10, mob q rf n mm mb fa fp av ev wi mn tp tc sc nf fd me mp xn mt wh tq ag an ig)), ((q 41), aI g 600 dp), ((q 43), aI g 76800 kd), ((q 54), aI g 8 u.1), ((q 59), aI g 600 u.2.1), ((q 60), aI g 76800 u.2.2)]) A)) (by decide) (Nat.le_of_ble_eq_true rfl) ?_
  intro p e s m below meth c ls H A E hB hK hZ hP hD hS hA hl
  obtain ⟨hx, hb, hml, hr, hown, hts, hlocks, hin⟩ := id E
  have hl : lv_has ls 3 [(0, .ref h0), (1, .int (nI pp))] := hl
  refine lv_aload_n hx hb d_Mod_keepFrame_0 rfl (lv_at hl 0 rfl) ?_
  refine va_get (D := g.1) (ci := 10) (v := .ref (q 59)) (C := R_Mod) (T := F_Mod) (N := 61) hx hb hts in_Mod hown hK hP 0 rfl rfl 59 (by decide) (hts _ wd_1309) (fun _ h9 => h9) rfl d_Mod_keepFrame_1 ?_
  refine lv_iload_n hx hb d_Mod_keepFrame_4 rfl (lv_at hl 1 rfl) ?_
  refine lv_aload_n hx hb d_Mod_keepFrame_5 rfl (lv_at hl 0 rfl) ?_
  refine va_get (D := g.1) (ci := 10) (v := .ref (q 41)) (C := R_Mod) (T := F_Mod) (N := 61) hx hb hts in_Mod hown hK hP 0 rfl rfl 41 (by decide) (hts _ wd_1291) (fun _ h9 => h9) rfl d_Mod_keepFrame_6 ?_
  refine lv_iload_n hx hb d_Mod_keepFrame_9 rfl (lv_at hl 1 rfl) ?_
  refine va_iald hx hb hK hP 1 0 rfl rfl (vp_in_nI (by omega) (by decide)) d_Mod_keepFrame_10 ?_
  refine tw_ri (e2 := dp pp) (by rw [nI_clamp (by omega)]) ?_
  refine va_iast hx hb hK hP hD hS 4 0 rfl rfl (vp_in_nI (by omega) (by decide)) d_Mod_keepFrame_11 (fun H locs hP hD hS => ?_)
  have hP : va_P g.1 classes [(h0, .inr (10, mob q rf n mm mb fa fp av ev wi mn tp tc sc nf fd me mp xn mt wh tq ag an ig)), ((q 41), aI g 600 dp), ((q 43), aI g 76800 kd), ((q 54), aI g 8 to), ((q 59), aI g 600 (upd gd (nI pp).toNatClampNeg (dp pp))), ((q 60), aI g 76800 gk)] H := hP
  have hD : va_D A [(h0, .inr (10, mob q rf n mm mb fa fp av ev wi mn tp tc sc nf fd me mp xn mt wh tq ag an ig)), ((q 41), aI g 600 dp), ((q 43), aI g 76800 kd), ((q 54), aI g 8 to), ((q 59), aI g 600 (upd gd (nI pp).toNatClampNeg (dp pp))), ((q 60), aI g 76800 gk)] := hD
  have e9 : upd gd (nI pp).toNatClampNeg (dp pp) = upd gd pp (dp pp) := by rw [nI_clamp (by omega)]
  rw [e9] at hP hD
  refine lv_aload_n hx hb d_Mod_keepFrame_12 rfl (lv_at hl 0 rfl) ?_
  refine va_get (D := g.1) (ci := 10) (v := .ref (q 41)) (C := R_Mod) (T := F_Mod) (N := 61) hx hb hts in_Mod hown hK hP 0 rfl rfl 41 (by decide) (hts _ wd_1291) (fun _ h9 => h9) rfl d_Mod_keepFrame_13 ?_
  refine lv_iload_n hx hb d_Mod_keepFrame_16 rfl (lv_at hl 1 rfl) ?_
  refine va_iald hx hb hK hP 1 0 rfl rfl (vp_in_nI (by omega) (by decide)) d_Mod_keepFrame_17 ?_
  obtain ⟨x1, ex1⟩ : ∃ z : Int32, dp ((nI pp).toNatClampNeg) = z := ⟨_, rfl⟩
  refine tw_ri (e2 := x1) ex1 ?_
  refine lv_if_ge (tgt := 22) hx hb d_Mod_keepFrame_18 (by decide) (fun h18 => ?_) (fun h18 => ?_)
  · refine lv_aload_n hx hb d_Mod_keepFrame_22 rfl (lv_at hl 0 rfl) ?_
    refine va_get (D := g.1) (ci := 10) (v := .ref (q 54)) (C := R_Mod) (T := F_Mod) (N := 61) hx hb hts in_Mod hown hK hP 0 rfl rfl 54 (by decide) (hts _ wd_1304) (fun _ h9 => h9) rfl d_Mod_keepFrame_23 ?_
    refine lv_iconst (v := 5) hx hb d_Mod_keepFrame_26 (by decide) ?_
    refine lv_dup2_11 hx hb d_Mod_keepFrame_27 rfl rfl ?_
    refine va_iald hx hb hK hP 3 0 rfl rfl (vp_in_nI (n := 5) (by decide) (by decide)) d_Mod_keepFrame_28 ?_
    obtain ⟨x2, ex2⟩ : ∃ z : Int32, to ((5 : Int32).toNatClampNeg) = z := ⟨_, rfl⟩
    refine tw_ri (e2 := x2) ex2 ?_
    refine lv_iconst (v := 1) hx hb d_Mod_keepFrame_29 (by decide) ?_
    refine lv_iadd hx hb d_Mod_keepFrame_30 ?_
    obtain ⟨x3, ex3⟩ : ∃ z : Int32, x2 + 1 = z := ⟨_, rfl⟩
    refine tw_ri (e2 := x3) ex3 ?_
    refine va_iast hx hb hK hP hD hS 3 0 rfl rfl (vp_in_nI (n := 5) (by decide) (by decide)) d_Mod_keepFrame_31 (fun H locs hP hD hS => ?_)
    have hP : va_P g.1 classes [(h0, .inr (10, mob q rf n mm mb fa fp av ev wi mn tp tc sc nf fd me mp xn mt wh tq ag an ig)), ((q 41), aI g 600 dp), ((q 43), aI g 76800 kd), ((q 54), aI g 8 (upd to (5 : Int32).toNatClampNeg x3)), ((q 59), aI g 600 (upd gd pp (dp pp))), ((q 60), aI g 76800 gk)] H := hP
    have hD : va_D A [(h0, .inr (10, mob q rf n mm mb fa fp av ev wi mn tp tc sc nf fd me mp xn mt wh tq ag an ig)), ((q 41), aI g 600 dp), ((q 43), aI g 76800 kd), ((q 54), aI g 8 (upd to (5 : Int32).toNatClampNeg x3)), ((q 59), aI g 600 (upd gd pp (dp pp))), ((q 60), aI g 76800 gk)] := hD
    have e9 : upd to (5 : Int32).toNatClampNeg x3 = upd to 5 x3 := rfl
    rw [e9] at hP hD
    refine lv_aload_n hx hb d_Mod_keepFrame_32 rfl (lv_at hl 0 rfl) ?_
    refine va_get (D := g.1) (ci := 10) (v := .ref (q 54)) (C := R_Mod) (T := F_Mod) (N := 61) hx hb hts in_Mod hown hK hP 0 rfl rfl 54 (by decide) (hts _ wd_1304) (fun _ h9 => h9) rfl d_Mod_keepFrame_33 ?_
    refine lv_bipush (v := 6) hx hb d_Mod_keepFrame_36 (by decide) ?_
    refine lv_aload_n hx hb d_Mod_keepFrame_38 rfl (lv_at hl 0 rfl) ?_
    refine va_get (D := g.1) (ci := 10) (v := .ref (q 41)) (C := R_Mod) (T := F_Mod) (N := 61) hx hb hts in_Mod hown hK hP 0 rfl rfl 41 (by decide) (hts _ wd_1291) (fun _ h9 => h9) rfl d_Mod_keepFrame_39 ?_
    refine lv_iload_n hx hb d_Mod_keepFrame_42 rfl (lv_at hl 1 rfl) ?_
    refine va_iald hx hb hK hP 1 0 rfl rfl (vp_in_nI (by omega) (by decide)) d_Mod_keepFrame_43 ?_
    obtain ⟨x4, ex4⟩ : ∃ z : Int32, dp ((nI pp).toNatClampNeg) = z := ⟨_, rfl⟩
    refine tw_ri (e2 := x4) ex4 ?_
    refine lv_aload_n hx hb d_Mod_keepFrame_44 rfl (lv_at hl 0 rfl) ?_
    refine va_get (D := g.1) (ci := 10) (v := .ref (q 54)) (C := R_Mod) (T := F_Mod) (N := 61) hx hb hts in_Mod hown hK hP 0 rfl rfl 54 (by decide) (hts _ wd_1304) (fun _ h9 => h9) rfl d_Mod_keepFrame_45 ?_
    refine lv_bipush (v := 6) hx hb d_Mod_keepFrame_48 (by decide) ?_
    refine va_iald hx hb hK hP 3 0 rfl rfl (vp_in_nI (n := 6) (by decide) (by decide)) d_Mod_keepFrame_50 ?_
    obtain ⟨x5, ex5⟩ : ∃ z : Int32, (upd to 5 x3) ((6 : Int32).toNatClampNeg) = z := ⟨_, rfl⟩
    refine tw_ri (e2 := x5) ex5 ?_
    refine lv_icmp_le (tgt := 63) hx hb d_Mod_keepFrame_51 (by decide) (fun h51 => ?_) (fun h51 => ?_)
    · refine lv_aload_n hx hb d_Mod_keepFrame_63 rfl (lv_at hl 0 rfl) ?_
      refine va_get (D := g.1) (ci := 10) (v := .ref (q 54)) (C := R_Mod) (T := F_Mod) (N := 61) hx hb hts in_Mod hown hK hP 0 rfl rfl 54 (by decide) (hts _ wd_1304) (fun _ h9 => h9) rfl d_Mod_keepFrame_64 ?_
      refine lv_bipush (v := 6) hx hb d_Mod_keepFrame_67 (by decide) ?_
      refine va_iald hx hb hK hP 3 0 rfl rfl (vp_in_nI (n := 6) (by decide) (by decide)) d_Mod_keepFrame_69 ?_
      obtain ⟨x6, ex6⟩ : ∃ z : Int32, (upd to 5 x3) ((6 : Int32).toNatClampNeg) = z := ⟨_, rfl⟩
      refine tw_ri (e2 := x6) ex6 ?_
      refine va_iast hx hb hK hP hD hS 3 0 rfl rfl (vp_in_nI (n := 6) (by decide) (by decide)) d_Mod_keepFrame_70 (fun H locs hP hD hS => ?_)
      have hP : va_P g.1 classes [(h0, .inr (10, mob q rf n mm mb fa fp av ev wi mn tp tc sc nf fd me mp xn mt wh tq ag an ig)), ((q 41), aI g 600 dp), ((q 43), aI g 76800 kd), ((q 54), aI g 8 (upd (upd to 5 x3) (6 : Int32).toNatClampNeg x6)), ((q 59), aI g 600 (upd gd pp (dp pp))), ((q 60), aI g 76800 gk)] H := hP
      have hD : va_D A [(h0, .inr (10, mob q rf n mm mb fa fp av ev wi mn tp tc sc nf fd me mp xn mt wh tq ag an ig)), ((q 41), aI g 600 dp), ((q 43), aI g 76800 kd), ((q 54), aI g 8 (upd (upd to 5 x3) (6 : Int32).toNatClampNeg x6)), ((q 59), aI g 600 (upd gd pp (dp pp))), ((q 60), aI g 76800 gk)] := hD
      have e9 : upd (upd to 5 x3) (6 : Int32).toNatClampNeg x6 = upd (upd to 5 x3) 6 x6 := rfl
      rw [e9] at hP hD
      refine lv_iconst (v := 0) hx hb d_Mod_keepFrame_71 (by decide) ?_
      refine lv_istore_n hx hb d_Mod_keepFrame_72 rfl hl (by decide) rfl (fun ls hl => ?_)
      have hl : lv_has ls 3 [(2, .int 0), (0, .ref h0), (1, .int (nI pp))] := hl
      have loop73 : ∀ (kq : Nat) (k : Nat) (gk9 : Nat → Int32) (ls : Array Slot) (H : Heap) (locs : List Loc) , 128 - k = kq → (hk4 : k ≤ 128) → lv_has ls 3 [(2, .int (nI k)), (0, .ref h0), (1, .int (nI pp))] → va_P g.1 classes [(h0, .inr (10, mob q rf n mm mb fa fp av ev wi mn tp tc sc nf fd me mp xn mt wh tq ag an ig)), ((q 41), aI g 600 dp), ((q 43), aI g 76800 kd), ((q 54), aI g 8 (upd (upd to 5 x3) 6 x6)), ((q 59), aI g 600 (upd gd pp (dp pp))), ((q 60), aI g 76800 gk9)] H → va_D A [(h0, .inr (10, mob q rf n mm mb fa fp av ev wi mn tp tc sc nf fd me mp xn mt wh tq ag an ig)), ((q 41), aI g 600 dp), ((q 43), aI g 76800 kd), ((q 54), aI g 8 (upd (upd to 5 x3) 6 x6)), ((q 59), aI g 600 (upd gd pp (dp pp))), ((q 60), aI g 76800 gk9)] → va_S A s.heap H locs → W p l e ({ frames := 0, cells := 0, slots := 0, locals := 0 }) s m [.ref h0, .int (nI pp)].toArray below meth c H locs 0 0 (MQ below (tw_Qv g (fun (u : (Nat → Int32) × (Nat → Int32) × (Nat → Int32)) => (u.2.1 = upd gd pp (dp pp)) ∧ (∀ j, j < 4 → u.1 j = to j)) (fun u : (Nat → Int32) × (Nat → Int32) × (Nat → Int32) => [(h0, .inr (10, mob q rf n mm mb fa fp av ev wi mn tp tc sc nf fd me mp xn mt wh tq ag an ig)), ((q 41), aI g 600 dp), ((q 43), aI g 76800 kd), ((q 54), aI g 8 u.1), ((q 59), aI g 600 u.2.1), ((q 60), aI g 76800 u.2.2)]) A) [.ref h0, .int (nI pp)].toArray s 0 0 A) (F0 m 73 ls []) := by
        intro kq
        induction kq using Nat.strongRecOn with
        | _ kq ih =>
          intro k gk9 ls H locs hk hk4 hl hP hD hS
          refine lv_iload_n hx hb d_Mod_keepFrame_73 rfl (lv_at hl 0 rfl) ?_
          refine lv_sipush (v := 128) hx hb d_Mod_keepFrame_74 (by decide) ?_
          refine lv_icmp_ge (tgt := 110) hx hb d_Mod_keepFrame_77 (by decide) (fun h77 => ?_) (fun h77 => ?_)
          · exact tw_vret E hS (upd (upd to 5 x3) 6 x6, upd gd pp (dp pp), gk9) (⟨rfl, (fun j hj => (if_neg (by omega)).trans (if_neg (by omega)))⟩) hP hD d_Mod_keepFrame_110
          · have h77 := tn_nle (a := 128) h77 (by decide) (by omega)
            refine lv_aload_n hx hb d_Mod_keepFrame_80 rfl (lv_at hl 1 rfl) ?_
            refine va_get (D := g.1) (ci := 10) (v := .ref (q 60)) (C := R_Mod) (T := F_Mod) (N := 61) hx hb hts in_Mod hown hK hP 0 rfl rfl 60 (by decide) (hts _ wd_1310) (fun _ h9 => h9) rfl d_Mod_keepFrame_81 ?_
            refine lv_sipush (v := 128) hx hb d_Mod_keepFrame_84 (by decide) ?_
            refine lv_iload_n hx hb d_Mod_keepFrame_87 rfl (lv_at hl 2 rfl) ?_
            refine lv_imul hx hb d_Mod_keepFrame_88 ?_
            refine tw_ri (e2 := nI (128 * pp)) (pk_mul 128 pp) ?_
            refine lv_iload_n hx hb d_Mod_keepFrame_89 rfl (lv_at hl 0 rfl) ?_
            refine lv_iadd hx hb d_Mod_keepFrame_90 ?_
            refine tw_ri (e2 := nI (128 * pp + k)) (nI_add _ _) ?_
            refine lv_aload_n hx hb d_Mod_keepFrame_91 rfl (lv_at hl 1 rfl) ?_
            refine va_get (D := g.1) (ci := 10) (v := .ref (q 43)) (C := R_Mod) (T := F_Mod) (N := 61) hx hb hts in_Mod hown hK hP 0 rfl rfl 43 (by decide) (hts _ wd_1293) (fun _ h9 => h9) rfl d_Mod_keepFrame_92 ?_
            refine lv_sipush (v := 128) hx hb d_Mod_keepFrame_95 (by decide) ?_
            refine lv_iload_n hx hb d_Mod_keepFrame_98 rfl (lv_at hl 2 rfl) ?_
            refine lv_imul hx hb d_Mod_keepFrame_99 ?_
            refine tw_ri (e2 := nI (128 * pp)) (pk_mul 128 pp) ?_
            refine lv_iload_n hx hb d_Mod_keepFrame_100 rfl (lv_at hl 0 rfl) ?_
            refine lv_iadd hx hb d_Mod_keepFrame_101 ?_
            refine tw_ri (e2 := nI (128 * pp + k)) (nI_add _ _) ?_
            refine va_iald hx hb hK hP 2 0 rfl rfl (vp_in_nI (by omega) (by decide)) d_Mod_keepFrame_102 ?_
            obtain ⟨x7, ex7⟩ : ∃ z : Int32, kd ((nI (128 * pp + k)).toNatClampNeg) = z := ⟨_, rfl⟩
            refine tw_ri (e2 := x7) ex7 ?_
            refine va_iast hx hb hK hP hD hS 5 0 rfl rfl (vp_in_nI (by omega) (by decide)) d_Mod_keepFrame_103 (fun H locs hP hD hS => ?_)
            have hP : va_P g.1 classes [(h0, .inr (10, mob q rf n mm mb fa fp av ev wi mn tp tc sc nf fd me mp xn mt wh tq ag an ig)), ((q 41), aI g 600 dp), ((q 43), aI g 76800 kd), ((q 54), aI g 8 (upd (upd to 5 x3) 6 x6)), ((q 59), aI g 600 (upd gd pp (dp pp))), ((q 60), aI g 76800 (upd gk9 (nI (128 * pp + k)).toNatClampNeg x7))] H := hP
            have hD : va_D A [(h0, .inr (10, mob q rf n mm mb fa fp av ev wi mn tp tc sc nf fd me mp xn mt wh tq ag an ig)), ((q 41), aI g 600 dp), ((q 43), aI g 76800 kd), ((q 54), aI g 8 (upd (upd to 5 x3) 6 x6)), ((q 59), aI g 600 (upd gd pp (dp pp))), ((q 60), aI g 76800 (upd gk9 (nI (128 * pp + k)).toNatClampNeg x7))] := hD
            refine lv_iinc (k := 0) (v := nI (k + 1)) hx hb d_Mod_keepFrame_104 hl rfl ((nI_succ k).symm) (by decide) rfl (fun ls hl => ?_)
            have hl : lv_has ls 3 [(2, .int (nI (k + 1))), (0, .ref h0), (1, .int (nI pp))] := hl
            refine lv_goto (tgt := 73) hx hb d_Mod_keepFrame_107 (by decide) ?_
            have hP : va_P g.1 classes [(h0, .inr (10, mob q rf n mm mb fa fp av ev wi mn tp tc sc nf fd me mp xn mt wh tq ag an ig)), ((q 41), aI g 600 dp), ((q 43), aI g 76800 kd), ((q 54), aI g 8 (upd (upd to 5 x3) 6 x6)), ((q 59), aI g 600 (upd gd pp (dp pp))), ((q 60), aI g 76800 (upd gk9 (nI (128 * pp + k)).toNatClampNeg x7))] H := hP.sub [0, 1, 2, 3, 4, 5] rfl
            have hD : va_D A [(h0, .inr (10, mob q rf n mm mb fa fp av ev wi mn tp tc sc nf fd me mp xn mt wh tq ag an ig)), ((q 41), aI g 600 dp), ((q 43), aI g 76800 kd), ((q 54), aI g 8 (upd (upd to 5 x3) 6 x6)), ((q 59), aI g 600 (upd gd pp (dp pp))), ((q 60), aI g 76800 (upd gk9 (nI (128 * pp + k)).toNatClampNeg x7))] := hD.sub [0, 1, 2, 3, 4, 5] (by decide) rfl
            exact ih _ (by omega) (k + 1) (upd gk9 (nI (128 * pp + k)).toNatClampNeg x7) ls _ _ rfl (by omega) (lv_sub hl [0, 1, 2] rfl) hP hD hS
      exact loop73 _ 0 gk ls _ _ rfl (Nat.zero_le _) (hl) hP hD hS
    · refine lv_aload_n hx hb d_Mod_keepFrame_54 rfl (lv_at hl 0 rfl) ?_
      refine va_get (D := g.1) (ci := 10) (v := .ref (q 41)) (C := R_Mod) (T := F_Mod) (N := 61) hx hb hts in_Mod hown hK hP 0 rfl rfl 41 (by decide) (hts _ wd_1291) (fun _ h9 => h9) rfl d_Mod_keepFrame_55 ?_
      refine lv_iload_n hx hb d_Mod_keepFrame_58 rfl (lv_at hl 1 rfl) ?_
      refine va_iald hx hb hK hP 1 0 rfl rfl (vp_in_nI (by omega) (by decide)) d_Mod_keepFrame_59 ?_
      obtain ⟨x8, ex8⟩ : ∃ z : Int32, dp ((nI pp).toNatClampNeg) = z := ⟨_, rfl⟩
      refine tw_ri (e2 := x8) ex8 ?_
      refine lv_goto (tgt := 70) hx hb d_Mod_keepFrame_60 (by decide) ?_
      refine va_iast hx hb hK hP hD hS 3 0 rfl rfl (vp_in_nI (n := 6) (by decide) (by decide)) d_Mod_keepFrame_70 (fun H locs hP hD hS => ?_)
      have hP : va_P g.1 classes [(h0, .inr (10, mob q rf n mm mb fa fp av ev wi mn tp tc sc nf fd me mp xn mt wh tq ag an ig)), ((q 41), aI g 600 dp), ((q 43), aI g 76800 kd), ((q 54), aI g 8 (upd (upd to 5 x3) (6 : Int32).toNatClampNeg x8)), ((q 59), aI g 600 (upd gd pp (dp pp))), ((q 60), aI g 76800 gk)] H := hP
      have hD : va_D A [(h0, .inr (10, mob q rf n mm mb fa fp av ev wi mn tp tc sc nf fd me mp xn mt wh tq ag an ig)), ((q 41), aI g 600 dp), ((q 43), aI g 76800 kd), ((q 54), aI g 8 (upd (upd to 5 x3) (6 : Int32).toNatClampNeg x8)), ((q 59), aI g 600 (upd gd pp (dp pp))), ((q 60), aI g 76800 gk)] := hD
      have e9 : upd (upd to 5 x3) (6 : Int32).toNatClampNeg x8 = upd (upd to 5 x3) 6 x8 := rfl
      rw [e9] at hP hD
      refine lv_iconst (v := 0) hx hb d_Mod_keepFrame_71 (by decide) ?_
      refine lv_istore_n hx hb d_Mod_keepFrame_72 rfl hl (by decide) rfl (fun ls hl => ?_)
      have hl : lv_has ls 3 [(2, .int 0), (0, .ref h0), (1, .int (nI pp))] := hl
      have loop73 : ∀ (kq : Nat) (k : Nat) (gk9 : Nat → Int32) (ls : Array Slot) (H : Heap) (locs : List Loc) , 128 - k = kq → (hk4 : k ≤ 128) → lv_has ls 3 [(2, .int (nI k)), (0, .ref h0), (1, .int (nI pp))] → va_P g.1 classes [(h0, .inr (10, mob q rf n mm mb fa fp av ev wi mn tp tc sc nf fd me mp xn mt wh tq ag an ig)), ((q 41), aI g 600 dp), ((q 43), aI g 76800 kd), ((q 54), aI g 8 (upd (upd to 5 x3) 6 x8)), ((q 59), aI g 600 (upd gd pp (dp pp))), ((q 60), aI g 76800 gk9)] H → va_D A [(h0, .inr (10, mob q rf n mm mb fa fp av ev wi mn tp tc sc nf fd me mp xn mt wh tq ag an ig)), ((q 41), aI g 600 dp), ((q 43), aI g 76800 kd), ((q 54), aI g 8 (upd (upd to 5 x3) 6 x8)), ((q 59), aI g 600 (upd gd pp (dp pp))), ((q 60), aI g 76800 gk9)] → va_S A s.heap H locs → W p l e ({ frames := 0, cells := 0, slots := 0, locals := 0 }) s m [.ref h0, .int (nI pp)].toArray below meth c H locs 0 0 (MQ below (tw_Qv g (fun (u : (Nat → Int32) × (Nat → Int32) × (Nat → Int32)) => (u.2.1 = upd gd pp (dp pp)) ∧ (∀ j, j < 4 → u.1 j = to j)) (fun u : (Nat → Int32) × (Nat → Int32) × (Nat → Int32) => [(h0, .inr (10, mob q rf n mm mb fa fp av ev wi mn tp tc sc nf fd me mp xn mt wh tq ag an ig)), ((q 41), aI g 600 dp), ((q 43), aI g 76800 kd), ((q 54), aI g 8 u.1), ((q 59), aI g 600 u.2.1), ((q 60), aI g 76800 u.2.2)]) A) [.ref h0, .int (nI pp)].toArray s 0 0 A) (F0 m 73 ls []) := by
        intro kq
        induction kq using Nat.strongRecOn with
        | _ kq ih =>
          intro k gk9 ls H locs hk hk4 hl hP hD hS
          refine lv_iload_n hx hb d_Mod_keepFrame_73 rfl (lv_at hl 0 rfl) ?_
          refine lv_sipush (v := 128) hx hb d_Mod_keepFrame_74 (by decide) ?_
          refine lv_icmp_ge (tgt := 110) hx hb d_Mod_keepFrame_77 (by decide) (fun h77 => ?_) (fun h77 => ?_)
          · exact tw_vret E hS (upd (upd to 5 x3) 6 x8, upd gd pp (dp pp), gk9) (⟨rfl, (fun j hj => (if_neg (by omega)).trans (if_neg (by omega)))⟩) hP hD d_Mod_keepFrame_110
          · have h77 := tn_nle (a := 128) h77 (by decide) (by omega)
            refine lv_aload_n hx hb d_Mod_keepFrame_80 rfl (lv_at hl 1 rfl) ?_
            refine va_get (D := g.1) (ci := 10) (v := .ref (q 60)) (C := R_Mod) (T := F_Mod) (N := 61) hx hb hts in_Mod hown hK hP 0 rfl rfl 60 (by decide) (hts _ wd_1310) (fun _ h9 => h9) rfl d_Mod_keepFrame_81 ?_
            refine lv_sipush (v := 128) hx hb d_Mod_keepFrame_84 (by decide) ?_
            refine lv_iload_n hx hb d_Mod_keepFrame_87 rfl (lv_at hl 2 rfl) ?_
            refine lv_imul hx hb d_Mod_keepFrame_88 ?_
            refine tw_ri (e2 := nI (128 * pp)) (pk_mul 128 pp) ?_
            refine lv_iload_n hx hb d_Mod_keepFrame_89 rfl (lv_at hl 0 rfl) ?_
            refine lv_iadd hx hb d_Mod_keepFrame_90 ?_
            refine tw_ri (e2 := nI (128 * pp + k)) (nI_add _ _) ?_
            refine lv_aload_n hx hb d_Mod_keepFrame_91 rfl (lv_at hl 1 rfl) ?_
            refine va_get (D := g.1) (ci := 10) (v := .ref (q 43)) (C := R_Mod) (T := F_Mod) (N := 61) hx hb hts in_Mod hown hK hP 0 rfl rfl 43 (by decide) (hts _ wd_1293) (fun _ h9 => h9) rfl d_Mod_keepFrame_92 ?_
            refine lv_sipush (v := 128) hx hb d_Mod_keepFrame_95 (by decide) ?_
            refine lv_iload_n hx hb d_Mod_keepFrame_98 rfl (lv_at hl 2 rfl) ?_
            refine lv_imul hx hb d_Mod_keepFrame_99 ?_
            refine tw_ri (e2 := nI (128 * pp)) (pk_mul 128 pp) ?_
            refine lv_iload_n hx hb d_Mod_keepFrame_100 rfl (lv_at hl 0 rfl) ?_
            refine lv_iadd hx hb d_Mod_keepFrame_101 ?_
            refine tw_ri (e2 := nI (128 * pp + k)) (nI_add _ _) ?_
            refine va_iald hx hb hK hP 2 0 rfl rfl (vp_in_nI (by omega) (by decide)) d_Mod_keepFrame_102 ?_
            obtain ⟨x9, ex9⟩ : ∃ z : Int32, kd ((nI (128 * pp + k)).toNatClampNeg) = z := ⟨_, rfl⟩
            refine tw_ri (e2 := x9) ex9 ?_
            refine va_iast hx hb hK hP hD hS 5 0 rfl rfl (vp_in_nI (by omega) (by decide)) d_Mod_keepFrame_103 (fun H locs hP hD hS => ?_)
            have hP : va_P g.1 classes [(h0, .inr (10, mob q rf n mm mb fa fp av ev wi mn tp tc sc nf fd me mp xn mt wh tq ag an ig)), ((q 41), aI g 600 dp), ((q 43), aI g 76800 kd), ((q 54), aI g 8 (upd (upd to 5 x3) 6 x8)), ((q 59), aI g 600 (upd gd pp (dp pp))), ((q 60), aI g 76800 (upd gk9 (nI (128 * pp + k)).toNatClampNeg x9))] H := hP
            have hD : va_D A [(h0, .inr (10, mob q rf n mm mb fa fp av ev wi mn tp tc sc nf fd me mp xn mt wh tq ag an ig)), ((q 41), aI g 600 dp), ((q 43), aI g 76800 kd), ((q 54), aI g 8 (upd (upd to 5 x3) 6 x8)), ((q 59), aI g 600 (upd gd pp (dp pp))), ((q 60), aI g 76800 (upd gk9 (nI (128 * pp + k)).toNatClampNeg x9))] := hD
            refine lv_iinc (k := 0) (v := nI (k + 1)) hx hb d_Mod_keepFrame_104 hl rfl ((nI_succ k).symm) (by decide) rfl (fun ls hl => ?_)
            have hl : lv_has ls 3 [(2, .int (nI (k + 1))), (0, .ref h0), (1, .int (nI pp))] := hl
            refine lv_goto (tgt := 73) hx hb d_Mod_keepFrame_107 (by decide) ?_
            have hP : va_P g.1 classes [(h0, .inr (10, mob q rf n mm mb fa fp av ev wi mn tp tc sc nf fd me mp xn mt wh tq ag an ig)), ((q 41), aI g 600 dp), ((q 43), aI g 76800 kd), ((q 54), aI g 8 (upd (upd to 5 x3) 6 x8)), ((q 59), aI g 600 (upd gd pp (dp pp))), ((q 60), aI g 76800 (upd gk9 (nI (128 * pp + k)).toNatClampNeg x9))] H := hP.sub [0, 1, 2, 3, 4, 5] rfl
            have hD : va_D A [(h0, .inr (10, mob q rf n mm mb fa fp av ev wi mn tp tc sc nf fd me mp xn mt wh tq ag an ig)), ((q 41), aI g 600 dp), ((q 43), aI g 76800 kd), ((q 54), aI g 8 (upd (upd to 5 x3) 6 x8)), ((q 59), aI g 600 (upd gd pp (dp pp))), ((q 60), aI g 76800 (upd gk9 (nI (128 * pp + k)).toNatClampNeg x9))] := hD.sub [0, 1, 2, 3, 4, 5] (by decide) rfl
            exact ih _ (by omega) (k + 1) (upd gk9 (nI (128 * pp + k)).toNatClampNeg x9) ls _ _ rfl (by omega) (lv_sub hl [0, 1, 2] rfl) hP hD hS
      exact loop73 _ 0 gk ls _ _ rfl (Nat.zero_le _) (hl) hP hD hS
  · exact tw_vret E hS (to, upd gd pp (dp pp), gk) (⟨rfl, (fun j hj => rfl)⟩) hP hD d_Mod_keepFrame_21
end
section
theorem d_Mod_keep_0 : decode b_Mod_keep 0 = .ok (.aload_n 0, 1) := by decide +kernel
theorem d_Mod_keep_1 : decode b_Mod_keep 1 = .ok (.iconst 1, 1) := by decide +kernel
theorem d_Mod_keep_2 : decode b_Mod_keep 2 = .ok (.putfield 407, 3) := by decide +kernel
theorem d_Mod_keep_5 : decode b_Mod_keep 5 = .ok (.iconst 0, 1) := by decide +kernel
theorem d_Mod_keep_6 : decode b_Mod_keep 6 = .ok (.istore_n 1, 1) := by decide +kernel
theorem d_Mod_keep_7 : decode b_Mod_keep 7 = .ok (.iload_n 1, 1) := by decide +kernel
theorem d_Mod_keep_8 : decode b_Mod_keep 8 = .ok (.sipush 600, 3) := by decide +kernel
theorem d_Mod_keep_11 : decode b_Mod_keep 11 = .ok (.if_icmp .ge 28, 3) := by decide +kernel
theorem d_Mod_keep_14 : decode b_Mod_keep 14 = .ok (.aload_n 0, 1) := by decide +kernel
theorem d_Mod_keep_15 : decode b_Mod_keep 15 = .ok (.getfield 109, 3) := by decide +kernel
theorem d_Mod_keep_18 : decode b_Mod_keep 18 = .ok (.iload_n 1, 1) := by decide +kernel
theorem d_Mod_keep_19 : decode b_Mod_keep 19 = .ok (.aload_n 0, 1) := by decide +kernel
theorem d_Mod_keep_20 : decode b_Mod_keep 20 = .ok (.getfield 7, 3) := by decide +kernel
theorem d_Mod_keep_23 : decode b_Mod_keep 23 = .ok (.iload_n 1, 1) := by decide +kernel
theorem d_Mod_keep_24 : decode b_Mod_keep 24 = .ok (.iaload, 1) := by decide +kernel
theorem d_Mod_keep_25 : decode b_Mod_keep 25 = .ok (.iastore, 1) := by decide +kernel
theorem d_Mod_keep_26 : decode b_Mod_keep 26 = .ok (.aload_n 0, 1) := by decide +kernel
theorem d_Mod_keep_27 : decode b_Mod_keep 27 = .ok (.getfield 127, 3) := by decide +kernel
theorem d_Mod_keep_30 : decode b_Mod_keep 30 = .ok (.iload_n 1, 1) := by decide +kernel
theorem d_Mod_keep_31 : decode b_Mod_keep 31 = .ok (.iconst (-1), 1) := by decide +kernel
theorem d_Mod_keep_32 : decode b_Mod_keep 32 = .ok (.iastore, 1) := by decide +kernel
theorem d_Mod_keep_33 : decode b_Mod_keep 33 = .ok (.iinc 1 1, 3) := by decide +kernel
theorem d_Mod_keep_36 : decode b_Mod_keep 36 = .ok (.goto (-29), 3) := by decide +kernel
theorem d_Mod_keep_39 : decode b_Mod_keep 39 = .ok (.aload_n 0, 1) := by decide +kernel
theorem d_Mod_keep_40 : decode b_Mod_keep 40 = .ok (.getfield 112, 3) := by decide +kernel
theorem d_Mod_keep_43 : decode b_Mod_keep 43 = .ok (.iconst 0, 1) := by decide +kernel
theorem d_Mod_keep_44 : decode b_Mod_keep 44 = .ok (.aload_n 0, 1) := by decide +kernel
theorem d_Mod_keep_45 : decode b_Mod_keep 45 = .ok (.getfield 169, 3) := by decide +kernel
theorem d_Mod_keep_48 : decode b_Mod_keep 48 = .ok (.ifCond .ne 7, 3) := by decide +kernel
theorem d_Mod_keep_51 : decode b_Mod_keep 51 = .ok (.iconst 0, 1) := by decide +kernel
theorem d_Mod_keep_52 : decode b_Mod_keep 52 = .ok (.goto 9, 3) := by decide +kernel
theorem d_Mod_keep_55 : decode b_Mod_keep 55 = .ok (.aload_n 0, 1) := by decide +kernel
theorem d_Mod_keep_56 : decode b_Mod_keep 56 = .ok (.getfield 169, 3) := by decide +kernel
theorem d_Mod_keep_59 : decode b_Mod_keep 59 = .ok (.iconst 1, 1) := by decide +kernel
theorem d_Mod_keep_60 : decode b_Mod_keep 60 = .ok (.isub, 1) := by decide +kernel
theorem d_Mod_keep_61 : decode b_Mod_keep 61 = .ok (.iastore, 1) := by decide +kernel
theorem d_Mod_keep_62 : decode b_Mod_keep 62 = .ok (.aload_n 0, 1) := by decide +kernel
theorem d_Mod_keep_63 : decode b_Mod_keep 63 = .ok (.getfield 112, 3) := by decide +kernel
theorem d_Mod_keep_66 : decode b_Mod_keep 66 = .ok (.iconst 1, 1) := by decide +kernel
theorem d_Mod_keep_67 : decode b_Mod_keep 67 = .ok (.aload_n 0, 1) := by decide +kernel
theorem d_Mod_keep_68 : decode b_Mod_keep 68 = .ok (.getfield 225, 3) := by decide +kernel
theorem d_Mod_keep_71 : decode b_Mod_keep 71 = .ok (.iastore, 1) := by decide +kernel
theorem d_Mod_keep_72 : decode b_Mod_keep 72 = .ok (.aload_n 0, 1) := by decide +kernel
theorem d_Mod_keep_73 : decode b_Mod_keep 73 = .ok (.getfield 112, 3) := by decide +kernel
theorem d_Mod_keep_76 : decode b_Mod_keep 76 = .ok (.iconst 2, 1) := by decide +kernel
theorem d_Mod_keep_77 : decode b_Mod_keep 77 = .ok (.aload_n 0, 1) := by decide +kernel
theorem d_Mod_keep_78 : decode b_Mod_keep 78 = .ok (.getfield 232, 3) := by decide +kernel
theorem d_Mod_keep_81 : decode b_Mod_keep 81 = .ok (.iastore, 1) := by decide +kernel
theorem d_Mod_keep_82 : decode b_Mod_keep 82 = .ok (.aload_n 0, 1) := by decide +kernel
theorem d_Mod_keep_83 : decode b_Mod_keep 83 = .ok (.getfield 112, 3) := by decide +kernel
theorem d_Mod_keep_86 : decode b_Mod_keep 86 = .ok (.iconst 3, 1) := by decide +kernel
theorem d_Mod_keep_87 : decode b_Mod_keep 87 = .ok (.aload_n 0, 1) := by decide +kernel
theorem d_Mod_keep_88 : decode b_Mod_keep 88 = .ok (.getfield 205, 3) := by decide +kernel
theorem d_Mod_keep_91 : decode b_Mod_keep 91 = .ok (.aload_n 0, 1) := by decide +kernel
theorem d_Mod_keep_92 : decode b_Mod_keep 92 = .ok (.getfield 232, 3) := by decide +kernel
theorem d_Mod_keep_95 : decode b_Mod_keep 95 = .ok (.isub, 1) := by decide +kernel
theorem d_Mod_keep_96 : decode b_Mod_keep 96 = .ok (.iastore, 1) := by decide +kernel
theorem d_Mod_keep_97 : decode b_Mod_keep 97 = .ok (.aload_n 0, 1) := by decide +kernel
theorem d_Mod_keep_98 : decode b_Mod_keep 98 = .ok (.getfield 112, 3) := by decide +kernel
theorem d_Mod_keep_101 : decode b_Mod_keep 101 = .ok (.iconst 4, 1) := by decide +kernel
theorem d_Mod_keep_102 : decode b_Mod_keep 102 = .ok (.iconst 0, 1) := by decide +kernel
theorem d_Mod_keep_103 : decode b_Mod_keep 103 = .ok (.iastore, 1) := by decide +kernel
theorem d_Mod_keep_104 : decode b_Mod_keep 104 = .ok (.aload_n 0, 1) := by decide +kernel
theorem d_Mod_keep_105 : decode b_Mod_keep 105 = .ok (.getfield 112, 3) := by decide +kernel
theorem d_Mod_keep_108 : decode b_Mod_keep 108 = .ok (.iconst 5, 1) := by decide +kernel
theorem d_Mod_keep_109 : decode b_Mod_keep 109 = .ok (.iconst 0, 1) := by decide +kernel
theorem d_Mod_keep_110 : decode b_Mod_keep 110 = .ok (.iastore, 1) := by decide +kernel
theorem d_Mod_keep_111 : decode b_Mod_keep 111 = .ok (.aload_n 0, 1) := by decide +kernel
theorem d_Mod_keep_112 : decode b_Mod_keep 112 = .ok (.getfield 112, 3) := by decide +kernel
theorem d_Mod_keep_115 : decode b_Mod_keep 115 = .ok (.bipush 6, 2) := by decide +kernel
theorem d_Mod_keep_117 : decode b_Mod_keep 117 = .ok (.iconst 0, 1) := by decide +kernel
theorem d_Mod_keep_118 : decode b_Mod_keep 118 = .ok (.iastore, 1) := by decide +kernel
theorem d_Mod_keep_119 : decode b_Mod_keep 119 = .ok (.aload_n 0, 1) := by decide +kernel
theorem d_Mod_keep_120 : decode b_Mod_keep 120 = .ok (.iconst 0, 1) := by decide +kernel
theorem d_Mod_keep_121 : decode b_Mod_keep 121 = .ok (.aload_n 0, 1) := by decide +kernel
theorem d_Mod_keep_122 : decode b_Mod_keep 122 = .ok (.getfield 38, 3) := by decide +kernel
theorem d_Mod_keep_125 : decode b_Mod_keep 125 = .ok (.aload_n 0, 1) := by decide +kernel
theorem d_Mod_keep_126 : decode b_Mod_keep 126 = .ok (.getfield 219, 3) := by decide +kernel
theorem d_Mod_keep_129 : decode b_Mod_keep 129 = .ok (.iaload, 1) := by decide +kernel
theorem d_Mod_keep_130 : decode b_Mod_keep 130 = .ok (.invokevirtual 411, 3) := by decide +kernel
theorem d_Mod_keep_133 : decode b_Mod_keep 133 = .ok (.aload_n 0, 1) := by decide +kernel
theorem d_Mod_keep_134 : decode b_Mod_keep 134 = .ok (.iconst 2, 1) := by decide +kernel
theorem d_Mod_keep_135 : decode b_Mod_keep 135 = .ok (.aload_n 0, 1) := by decide +kernel
theorem d_Mod_keep_136 : decode b_Mod_keep 136 = .ok (.getfield 38, 3) := by decide +kernel
theorem d_Mod_keep_139 : decode b_Mod_keep 139 = .ok (.aload_n 0, 1) := by decide +kernel
theorem d_Mod_keep_140 : decode b_Mod_keep 140 = .ok (.getfield 222, 3) := by decide +kernel
theorem d_Mod_keep_143 : decode b_Mod_keep 143 = .ok (.iaload, 1) := by decide +kernel
theorem d_Mod_keep_144 : decode b_Mod_keep 144 = .ok (.invokevirtual 411, 3) := by decide +kernel
theorem d_Mod_keep_147 : decode b_Mod_keep 147 = .ok (.iconst 0, 1) := by decide +kernel
theorem d_Mod_keep_148 : decode b_Mod_keep 148 = .ok (.istore_n 1, 1) := by decide +kernel
theorem d_Mod_keep_149 : decode b_Mod_keep 149 = .ok (.iload_n 1, 1) := by decide +kernel
theorem d_Mod_keep_150 : decode b_Mod_keep 150 = .ok (.aload_n 0, 1) := by decide +kernel
theorem d_Mod_keep_151 : decode b_Mod_keep 151 = .ok (.getfield 205, 3) := by decide +kernel
theorem d_Mod_keep_154 : decode b_Mod_keep 154 = .ok (.if_icmp .ge 40, 3) := by decide +kernel
theorem d_Mod_keep_157 : decode b_Mod_keep 157 = .ok (.aload_n 0, 1) := by decide +kernel
theorem d_Mod_keep_158 : decode b_Mod_keep 158 = .ok (.iconst 4, 1) := by decide +kernel
theorem d_Mod_keep_159 : decode b_Mod_keep 159 = .ok (.iconst 4, 1) := by decide +kernel
theorem d_Mod_keep_160 : decode b_Mod_keep 160 = .ok (.iload_n 1, 1) := by decide +kernel
theorem d_Mod_keep_161 : decode b_Mod_keep 161 = .ok (.imul, 1) := by decide +kernel
theorem d_Mod_keep_162 : decode b_Mod_keep 162 = .ok (.iadd, 1) := by decide +kernel
theorem d_Mod_keep_163 : decode b_Mod_keep 163 = .ok (.aload_n 0, 1) := by decide +kernel
theorem d_Mod_keep_164 : decode b_Mod_keep 164 = .ok (.getfield 56, 3) := by decide +kernel
theorem d_Mod_keep_167 : decode b_Mod_keep 167 = .ok (.iload_n 1, 1) := by decide +kernel
theorem d_Mod_keep_168 : decode b_Mod_keep 168 = .ok (.iaload, 1) := by decide +kernel
theorem d_Mod_keep_169 : decode b_Mod_keep 169 = .ok (.invokevirtual 411, 3) := by decide +kernel
theorem d_Mod_keep_172 : decode b_Mod_keep 172 = .ok (.aload_n 0, 1) := by decide +kernel
theorem d_Mod_keep_173 : decode b_Mod_keep 173 = .ok (.bipush 6, 2) := by decide +kernel
theorem d_Mod_keep_175 : decode b_Mod_keep 175 = .ok (.iconst 4, 1) := by decide +kernel
theorem d_Mod_keep_176 : decode b_Mod_keep 176 = .ok (.iload_n 1, 1) := by decide +kernel
theorem d_Mod_keep_177 : decode b_Mod_keep 177 = .ok (.imul, 1) := by decide +kernel
theorem d_Mod_keep_178 : decode b_Mod_keep 178 = .ok (.iadd, 1) := by decide +kernel
theorem d_Mod_keep_179 : decode b_Mod_keep 179 = .ok (.aload_n 0, 1) := by decide +kernel
theorem d_Mod_keep_180 : decode b_Mod_keep 180 = .ok (.getfield 59, 3) := by decide +kernel
theorem d_Mod_keep_183 : decode b_Mod_keep 183 = .ok (.iload_n 1, 1) := by decide +kernel
theorem d_Mod_keep_184 : decode b_Mod_keep 184 = .ok (.iaload, 1) := by decide +kernel
theorem d_Mod_keep_185 : decode b_Mod_keep 185 = .ok (.invokevirtual 411, 3) := by decide +kernel
theorem d_Mod_keep_188 : decode b_Mod_keep 188 = .ok (.iinc 1 1, 3) := by decide +kernel
theorem d_Mod_keep_191 : decode b_Mod_keep 191 = .ok (.goto (-42), 3) := by decide +kernel
theorem d_Mod_keep_194 : decode b_Mod_keep 194 = .ok (.iconst 0, 1) := by decide +kernel
theorem d_Mod_keep_195 : decode b_Mod_keep 195 = .ok (.istore_n 1, 1) := by decide +kernel
theorem d_Mod_keep_196 : decode b_Mod_keep 196 = .ok (.iload_n 1, 1) := by decide +kernel
theorem d_Mod_keep_197 : decode b_Mod_keep 197 = .ok (.aload_n 0, 1) := by decide +kernel
theorem d_Mod_keep_198 : decode b_Mod_keep 198 = .ok (.getfield 225, 3) := by decide +kernel
theorem d_Mod_keep_201 : decode b_Mod_keep 201 = .ok (.if_icmp .ge 31, 3) := by decide +kernel
theorem d_Mod_keep_204 : decode b_Mod_keep 204 = .ok (.aload_n 0, 1) := by decide +kernel
theorem d_Mod_keep_205 : decode b_Mod_keep 205 = .ok (.sipush 400, 3) := by decide +kernel
theorem d_Mod_keep_208 : decode b_Mod_keep 208 = .ok (.iconst 2, 1) := by decide +kernel
theorem d_Mod_keep_209 : decode b_Mod_keep 209 = .ok (.iload_n 1, 1) := by decide +kernel
theorem d_Mod_keep_210 : decode b_Mod_keep 210 = .ok (.imul, 1) := by decide +kernel
theorem d_Mod_keep_211 : decode b_Mod_keep 211 = .ok (.iadd, 1) := by decide +kernel
theorem d_Mod_keep_212 : decode b_Mod_keep 212 = .ok (.aload_n 0, 1) := by decide +kernel
theorem d_Mod_keep_213 : decode b_Mod_keep 213 = .ok (.getfield 38, 3) := by decide +kernel
theorem d_Mod_keep_216 : decode b_Mod_keep 216 = .ok (.aload_n 0, 1) := by decide +kernel
theorem d_Mod_keep_217 : decode b_Mod_keep 217 = .ok (.getfield 44, 3) := by decide +kernel
theorem d_Mod_keep_220 : decode b_Mod_keep 220 = .ok (.iload_n 1, 1) := by decide +kernel
theorem d_Mod_keep_221 : decode b_Mod_keep 221 = .ok (.iaload, 1) := by decide +kernel
theorem d_Mod_keep_222 : decode b_Mod_keep 222 = .ok (.iaload, 1) := by decide +kernel
theorem d_Mod_keep_223 : decode b_Mod_keep 223 = .ok (.invokevirtual 411, 3) := by decide +kernel
theorem d_Mod_keep_226 : decode b_Mod_keep 226 = .ok (.iinc 1 1, 3) := by decide +kernel
theorem d_Mod_keep_229 : decode b_Mod_keep 229 = .ok (.goto (-33), 3) := by decide +kernel
theorem d_Mod_keep_232 : decode b_Mod_keep 232 = .ok (.aload_n 0, 1) := by decide +kernel
theorem d_Mod_keep_233 : decode b_Mod_keep 233 = .ok (.getfield 232, 3) := by decide +kernel
theorem d_Mod_keep_236 : decode b_Mod_keep 236 = .ok (.istore_n 1, 1) := by decide +kernel
theorem d_Mod_keep_237 : decode b_Mod_keep 237 = .ok (.iload_n 1, 1) := by decide +kernel
theorem d_Mod_keep_238 : decode b_Mod_keep 238 = .ok (.aload_n 0, 1) := by decide +kernel
theorem d_Mod_keep_239 : decode b_Mod_keep 239 = .ok (.getfield 205, 3) := by decide +kernel
theorem d_Mod_keep_242 : decode b_Mod_keep 242 = .ok (.if_icmp .ge 119, 3) := by decide +kernel
theorem d_Mod_keep_245 : decode b_Mod_keep 245 = .ok (.iload_n 1, 1) := by decide +kernel
theorem d_Mod_keep_246 : decode b_Mod_keep 246 = .ok (.aload_n 0, 1) := by decide +kernel
theorem d_Mod_keep_247 : decode b_Mod_keep 247 = .ok (.getfield 232, 3) := by decide +kernel
theorem d_Mod_keep_250 : decode b_Mod_keep 250 = .ok (.isub, 1) := by decide +kernel
theorem d_Mod_keep_251 : decode b_Mod_keep 251 = .ok (.istore_n 2, 1) := by decide +kernel
theorem d_Mod_keep_252 : decode b_Mod_keep 252 = .ok (.aload_n 0, 1) := by decide +kernel
theorem d_Mod_keep_253 : decode b_Mod_keep 253 = .ok (.getfield 118, 3) := by decide +kernel
theorem d_Mod_keep_256 : decode b_Mod_keep 256 = .ok (.iload_n 2, 1) := by decide +kernel
theorem d_Mod_keep_257 : decode b_Mod_keep 257 = .ok (.aload_n 0, 1) := by decide +kernel
theorem d_Mod_keep_258 : decode b_Mod_keep 258 = .ok (.getfield 71, 3) := by decide +kernel
theorem d_Mod_keep_261 : decode b_Mod_keep 261 = .ok (.iload_n 1, 1) := by decide +kernel
theorem d_Mod_keep_262 : decode b_Mod_keep 262 = .ok (.iaload, 1) := by decide +kernel
theorem d_Mod_keep_263 : decode b_Mod_keep 263 = .ok (.iastore, 1) := by decide +kernel
theorem d_Mod_keep_264 : decode b_Mod_keep 264 = .ok (.aload_n 0, 1) := by decide +kernel
theorem d_Mod_keep_265 : decode b_Mod_keep 265 = .ok (.getfield 121, 3) := by decide +kernel
theorem d_Mod_keep_268 : decode b_Mod_keep 268 = .ok (.iload_n 2, 1) := by decide +kernel
theorem d_Mod_keep_269 : decode b_Mod_keep 269 = .ok (.aload_n 0, 1) := by decide +kernel
theorem d_Mod_keep_270 : decode b_Mod_keep 270 = .ok (.getfield 62, 3) := by decide +kernel
theorem d_Mod_keep_273 : decode b_Mod_keep 273 = .ok (.iload_n 1, 1) := by decide +kernel
theorem d_Mod_keep_274 : decode b_Mod_keep 274 = .ok (.iaload, 1) := by decide +kernel
theorem d_Mod_keep_275 : decode b_Mod_keep 275 = .ok (.ifCond .le 12, 3) := by decide +kernel
theorem d_Mod_keep_278 : decode b_Mod_keep 278 = .ok (.aload_n 0, 1) := by decide +kernel
theorem d_Mod_keep_279 : decode b_Mod_keep 279 = .ok (.getfield 74, 3) := by decide +kernel
theorem d_Mod_keep_282 : decode b_Mod_keep 282 = .ok (.iload_n 1, 1) := by decide +kernel
theorem d_Mod_keep_283 : decode b_Mod_keep 283 = .ok (.iaload, 1) := by decide +kernel
theorem d_Mod_keep_284 : decode b_Mod_keep 284 = .ok (.goto 4, 3) := by decide +kernel
theorem d_Mod_keep_287 : decode b_Mod_keep 287 = .ok (.iconst 0, 1) := by decide +kernel
theorem d_Mod_keep_288 : decode b_Mod_keep 288 = .ok (.iastore, 1) := by decide +kernel
theorem d_Mod_keep_289 : decode b_Mod_keep 289 = .ok (.aload_n 0, 1) := by decide +kernel
theorem d_Mod_keep_290 : decode b_Mod_keep 290 = .ok (.getfield 124, 3) := by decide +kernel
theorem d_Mod_keep_293 : decode b_Mod_keep 293 = .ok (.iload_n 2, 1) := by decide +kernel
theorem d_Mod_keep_294 : decode b_Mod_keep 294 = .ok (.aload_n 0, 1) := by decide +kernel
theorem d_Mod_keep_295 : decode b_Mod_keep 295 = .ok (.getfield 68, 3) := by decide +kernel
theorem d_Mod_keep_298 : decode b_Mod_keep 298 = .ok (.iload_n 1, 1) := by decide +kernel
theorem d_Mod_keep_299 : decode b_Mod_keep 299 = .ok (.iaload, 1) := by decide +kernel
theorem d_Mod_keep_300 : decode b_Mod_keep 300 = .ok (.iastore, 1) := by decide +kernel
theorem d_Mod_keep_301 : decode b_Mod_keep 301 = .ok (.aload_n 0, 1) := by decide +kernel
theorem d_Mod_keep_302 : decode b_Mod_keep 302 = .ok (.getfield 112, 3) := by decide +kernel
theorem d_Mod_keep_305 : decode b_Mod_keep 305 = .ok (.iconst 4, 1) := by decide +kernel
theorem d_Mod_keep_306 : decode b_Mod_keep 306 = .ok (.aload_n 0, 1) := by decide +kernel
theorem d_Mod_keep_307 : decode b_Mod_keep 307 = .ok (.getfield 112, 3) := by decide +kernel
theorem d_Mod_keep_310 : decode b_Mod_keep 310 = .ok (.iconst 4, 1) := by decide +kernel
theorem d_Mod_keep_311 : decode b_Mod_keep 311 = .ok (.iaload, 1) := by decide +kernel
theorem d_Mod_keep_312 : decode b_Mod_keep 312 = .ok (.aload_n 0, 1) := by decide +kernel
theorem d_Mod_keep_313 : decode b_Mod_keep 313 = .ok (.getfield 121, 3) := by decide +kernel
theorem d_Mod_keep_316 : decode b_Mod_keep 316 = .ok (.iload_n 2, 1) := by decide +kernel
theorem d_Mod_keep_317 : decode b_Mod_keep 317 = .ok (.iaload, 1) := by decide +kernel
theorem d_Mod_keep_318 : decode b_Mod_keep 318 = .ok (.iadd, 1) := by decide +kernel
theorem d_Mod_keep_319 : decode b_Mod_keep 319 = .ok (.iastore, 1) := by decide +kernel
theorem d_Mod_keep_320 : decode b_Mod_keep 320 = .ok (.aload_n 0, 1) := by decide +kernel
theorem d_Mod_keep_321 : decode b_Mod_keep 321 = .ok (.getfield 71, 3) := by decide +kernel
theorem d_Mod_keep_324 : decode b_Mod_keep 324 = .ok (.iload_n 1, 1) := by decide +kernel
theorem d_Mod_keep_325 : decode b_Mod_keep 325 = .ok (.iaload, 1) := by decide +kernel
theorem d_Mod_keep_326 : decode b_Mod_keep 326 = .ok (.istore_n 3, 1) := by decide +kernel
theorem d_Mod_keep_327 : decode b_Mod_keep 327 = .ok (.iload_n 3, 1) := by decide +kernel
theorem d_Mod_keep_328 : decode b_Mod_keep 328 = .ok (.aload_n 0, 1) := by decide +kernel
theorem d_Mod_keep_329 : decode b_Mod_keep 329 = .ok (.getfield 71, 3) := by decide +kernel
theorem d_Mod_keep_332 : decode b_Mod_keep 332 = .ok (.iload_n 1, 1) := by decide +kernel
theorem d_Mod_keep_333 : decode b_Mod_keep 333 = .ok (.iaload, 1) := by decide +kernel
theorem d_Mod_keep_334 : decode b_Mod_keep 334 = .ok (.aload_n 0, 1) := by decide +kernel
theorem d_Mod_keep_335 : decode b_Mod_keep 335 = .ok (.getfield 121, 3) := by decide +kernel
theorem d_Mod_keep_338 : decode b_Mod_keep 338 = .ok (.iload_n 2, 1) := by decide +kernel
theorem d_Mod_keep_339 : decode b_Mod_keep 339 = .ok (.iaload, 1) := by decide +kernel
theorem d_Mod_keep_340 : decode b_Mod_keep 340 = .ok (.iadd, 1) := by decide +kernel
theorem d_Mod_keep_341 : decode b_Mod_keep 341 = .ok (.if_icmp .ge 14, 3) := by decide +kernel
theorem d_Mod_keep_344 : decode b_Mod_keep 344 = .ok (.aload_n 0, 1) := by decide +kernel
theorem d_Mod_keep_345 : decode b_Mod_keep 345 = .ok (.iload_n 3, 1) := by decide +kernel
theorem d_Mod_keep_346 : decode b_Mod_keep 346 = .ok (.invokevirtual 414, 3) := by decide +kernel
theorem d_Mod_keep_349 : decode b_Mod_keep 349 = .ok (.iinc 3 1, 3) := by decide +kernel
theorem d_Mod_keep_352 : decode b_Mod_keep 352 = .ok (.goto (-25), 3) := by decide +kernel
theorem d_Mod_keep_355 : decode b_Mod_keep 355 = .ok (.iinc 1 1, 3) := by decide +kernel
theorem d_Mod_keep_358 : decode b_Mod_keep 358 = .ok (.goto (-121), 3) := by decide +kernel
theorem d_Mod_keep_361 : decode b_Mod_keep 361 = .ok (.return_, 1) := by decide +kernel
end
