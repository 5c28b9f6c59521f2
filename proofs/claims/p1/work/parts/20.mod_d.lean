def mo (q : Nat → Nat) (v : Nat → Int32) : List Value := [.int (v 0), .int (v 1), .ref (q 2), .ref (q 3), .ref (q 4), .ref (q 5), .int (v 6), .int (v 7), .int (v 8), .int (v 9), .int (v 10), .int (v 11), .int (v 12), .int (v 13), .ref (q 14), .ref (q 15), .ref (q 16), .ref (q 17), .int (v 18), .int (v 19), .int (v 20), .int (v 21), .ref (q 22), .ref (q 23), .int (v 24), .int (v 25), .int (v 26), .ref (q 27), .ref (q 28), .ref (q 29), .ref (q 30), .ref (q 31), .ref (q 32), .ref (q 33), .ref (q 34), .ref (q 35), .ref (q 36), .ref (q 37), .int (v 38), .ref (q 39), .ref (q 40), .ref (q 41), .ref (q 42), .ref (q 43), .int (v 44), .int (v 45), .int (v 46), .ref (q 47), .ref (q 48), .int (v 49), .ref (q 50), .int (v 51), .int (v 52), .ref (q 53), .ref (q 54), .ref (q 55), .ref (q 56), .ref (q 57), .ref (q 58), .ref (q 59), .ref (q 60)]
def is_in (x lo hi : Int32) : Int32 := if x < lo ∨ hi < x then 0 else 1
theorem is_in0 {x lo hi : Int32} (h : x < lo ∨ hi < x) : is_in x lo hi = 0 := if_pos h
theorem is_in1 {x lo hi : Int32} (h1 : ¬ x < lo) (h2 : ¬ hi < x) : is_in x lo hi = 1 := if_neg (fun h => h.elim h1 h2)
theorem is_inZ {x lo hi : Int32} (h : is_in x lo hi = 0) : x < lo ∨ hi < x := by
  unfold is_in at h
  split at h
  · assumption
  · exact absurd h (by decide)
theorem is_inN {x lo hi : Int32} (h : ¬ is_in x lo hi = 0) : ¬ x < lo ∧ ¬ hi < x := ⟨fun h1 => h (is_in0 (Or.inl h1)), fun h1 => h (is_in0 (Or.inr h1))⟩
theorem tn_isubN {pl : Int32} {n : Nat} (h1 : ¬ pl < 0) (h2 : ¬ nI n - 1 < pl) (hn : n ≤ 600) : pl < nI n := by
  obtain ⟨j, hj, rfl⟩ := nI_of h1
  have e := pk_sub_toInt (a := n) (b := 1) (by omega) (by omega)
  have e : (nI n - 1).toInt = (n : Int) - 1 := e
  rw [Int32.lt_iff_toInt_lt, e, nI_toInt hj] at h2
  exact nI_lt (by omega) (by omega)
theorem tn_isubZ {pl : Int32} {n : Nat} (h : pl < 0 ∨ nI n - 1 < pl) (hn : n ≤ 600) : pl < 0 ∨ nI n ≤ pl := by
  by_cases h1 : pl < 0
  · exact Or.inl h1
  · rcases h with h | h
    · exact absurd h h1
    · obtain ⟨j, hj, rfl⟩ := nI_of h1
      have e := pk_sub_toInt (a := n) (b := 1) (by omega) (by omega)
      have e : (nI n - 1).toInt = (n : Int) - 1 := e
      rw [Int32.lt_iff_toInt_lt, e, nI_toInt hj] at h
      exact Or.inr (nI_le (by omega) (by omega))
def mf_v (w : Int32) (k : Nat) : Int32 := (w >>> ((24 - 8 * (nI k - nI k / 4 * 4)) &&& 31)) &&& 255
def mf_f (f : Nat → Int32) (n : Nat) (a b c d : Int32) : Nat → (Nat → Int32)
  | 0 => f
  | k + 1 => upd (mf_f f n a b c d k) (n + k) (mf_v (fd_w a b c d k) k)
theorem d_Mod_audit_0 : decode b_Mod_audit 0 = .ok (.aload_n 0, 1) := by decide +kernel
theorem d_Mod_audit_1 : decode b_Mod_audit 1 = .ok (.iconst 0, 1) := by decide +kernel
theorem d_Mod_audit_2 : decode b_Mod_audit 2 = .ok (.putfield 133, 3) := by decide +kernel
theorem d_Mod_audit_5 : decode b_Mod_audit 5 = .ok (.aload_n 0, 1) := by decide +kernel
theorem d_Mod_audit_6 : decode b_Mod_audit 6 = .ok (.iconst 0, 1) := by decide +kernel
theorem d_Mod_audit_7 : decode b_Mod_audit 7 = .ok (.putfield 147, 3) := by decide +kernel
theorem d_Mod_audit_10 : decode b_Mod_audit 10 = .ok (.aload_n 0, 1) := by decide +kernel
theorem d_Mod_audit_11 : decode b_Mod_audit 11 = .ok (.iconst (-1), 1) := by decide +kernel
theorem d_Mod_audit_12 : decode b_Mod_audit 12 = .ok (.putfield 29, 3) := by decide +kernel
theorem d_Mod_audit_15 : decode b_Mod_audit 15 = .ok (.aload_n 0, 1) := by decide +kernel
theorem d_Mod_audit_16 : decode b_Mod_audit 16 = .ok (.invokevirtual 392, 3) := by decide +kernel
theorem d_Mod_audit_19 : decode b_Mod_audit 19 = .ok (.aload_n 0, 1) := by decide +kernel
theorem d_Mod_audit_20 : decode b_Mod_audit 20 = .ok (.getfield 147, 3) := by decide +kernel
theorem d_Mod_audit_23 : decode b_Mod_audit 23 = .ok (.ifCond .ne 7, 3) := by decide +kernel
theorem d_Mod_audit_30 : decode b_Mod_audit 30 = .ok (.aload_n 0, 1) := by decide +kernel
theorem d_Mod_audit_31 : decode b_Mod_audit 31 = .ok (.getfield 147, 3) := by decide +kernel
theorem d_Mod_audit_34 : decode b_Mod_audit 34 = .ok (.ifCond .ne 7, 3) := by decide +kernel
theorem d_Mod_audit_41 : decode b_Mod_audit 41 = .ok (.aload_n 0, 1) := by decide +kernel
theorem d_Mod_audit_42 : decode b_Mod_audit 42 = .ok (.getfield 232, 3) := by decide +kernel
theorem d_Mod_audit_45 : decode b_Mod_audit 45 = .ok (.istore_n 1, 1) := by decide +kernel
theorem d_Mod_audit_46 : decode b_Mod_audit 46 = .ok (.aload_n 0, 1) := by decide +kernel
theorem d_Mod_audit_47 : decode b_Mod_audit 47 = .ok (.getfield 147, 3) := by decide +kernel
theorem d_Mod_audit_50 : decode b_Mod_audit 50 = .ok (.ifCond .ne 31, 3) := by decide +kernel
theorem d_Mod_audit_81 : decode b_Mod_audit 81 = .ok (.aload_n 0, 1) := by decide +kernel
theorem d_Mod_audit_82 : decode b_Mod_audit 82 = .ok (.getfield 147, 3) := by decide +kernel
theorem d_Mod_audit_85 : decode b_Mod_audit 85 = .ok (.ifCond .ne 7, 3) := by decide +kernel
theorem d_Mod_audit_92 : decode b_Mod_audit 92 = .ok (.aload_n 0, 1) := by decide +kernel
theorem d_Mod_audit_93 : decode b_Mod_audit 93 = .ok (.getfield 147, 3) := by decide +kernel
theorem d_Mod_audit_96 : decode b_Mod_audit 96 = .ok (.ireturn, 1) := by decide +kernel
theorem d_Mod_count_0 : decode b_Mod_count 0 = .ok (.aload_n 0, 1) := by decide +kernel
theorem d_Mod_count_1 : decode b_Mod_count 1 = .ok (.aload_n 0, 1) := by decide +kernel
theorem d_Mod_count_2 : decode b_Mod_count 2 = .ok (.getfield 407, 3) := by decide +kernel
theorem d_Mod_count_5 : decode b_Mod_count 5 = .ok (.ifCond .ne 7, 3) := by decide +kernel
theorem d_Mod_count_8 : decode b_Mod_count 8 = .ok (.iconst 1, 1) := by decide +kernel
theorem d_Mod_count_9 : decode b_Mod_count 9 = .ok (.goto 18, 3) := by decide +kernel
theorem d_Mod_count_27 : decode b_Mod_count 27 = .ok (.invokevirtual 143, 3) := by decide +kernel
theorem d_Mod_count_30 : decode b_Mod_count 30 = .ok (.ifCond .eq 7, 3) := by decide +kernel
theorem d_Mod_count_33 : decode b_Mod_count 33 = .ok (.iconst 0, 1) := by decide +kernel
theorem d_Mod_count_34 : decode b_Mod_count 34 = .ok (.goto 9, 3) := by decide +kernel
theorem d_Mod_count_43 : decode b_Mod_count 43 = .ok (.ireturn, 1) := by decide +kernel
theorem d_Mod_cut_0 : decode b_Mod_cut 0 = .ok (.aload_n 0, 1) := by decide +kernel
theorem d_Mod_cut_1 : decode b_Mod_cut 1 = .ok (.iload_n 1, 1) := by decide +kernel
theorem d_Mod_cut_2 : decode b_Mod_cut 2 = .ok (.iconst 0, 1) := by decide +kernel
theorem d_Mod_cut_3 : decode b_Mod_cut 3 = .ok (.aload_n 0, 1) := by decide +kernel
theorem d_Mod_cut_4 : decode b_Mod_cut 4 = .ok (.getfield 140, 3) := by decide +kernel
theorem d_Mod_cut_7 : decode b_Mod_cut 7 = .ok (.invokestatic 136, 3) := by decide +kernel
theorem d_Mod_cut_10 : decode b_Mod_cut 10 = .ok (.ifCond .eq 7, 3) := by decide +kernel
theorem d_Mod_cut_13 : decode b_Mod_cut 13 = .ok (.iconst 0, 1) := by decide +kernel
theorem d_Mod_cut_14 : decode b_Mod_cut 14 = .ok (.goto 4, 3) := by decide +kernel
theorem d_Mod_cut_17 : decode b_Mod_cut 17 = .ok (.iconst 1, 1) := by decide +kernel
theorem d_Mod_cut_18 : decode b_Mod_cut 18 = .ok (.invokevirtual 143, 3) := by decide +kernel
theorem d_Mod_cut_21 : decode b_Mod_cut 21 = .ok (.ifCond .eq 5, 3) := by decide +kernel
theorem d_Mod_cut_24 : decode b_Mod_cut 24 = .ok (.iconst 0, 1) := by decide +kernel
theorem d_Mod_cut_25 : decode b_Mod_cut 25 = .ok (.ireturn, 1) := by decide +kernel
theorem d_Mod_cut_26 : decode b_Mod_cut 26 = .ok (.aload_n 0, 1) := by decide +kernel
theorem d_Mod_cut_27 : decode b_Mod_cut 27 = .ok (.getfield 140, 3) := by decide +kernel
theorem d_Mod_cut_30 : decode b_Mod_cut 30 = .ok (.iload_n 1, 1) := by decide +kernel
theorem d_Mod_cut_31 : decode b_Mod_cut 31 = .ok (.isub, 1) := by decide +kernel
theorem d_Mod_cut_32 : decode b_Mod_cut 32 = .ok (.istore_n 2, 1) := by decide +kernel
theorem d_Mod_cut_33 : decode b_Mod_cut 33 = .ok (.aload_n 0, 1) := by decide +kernel
theorem d_Mod_cut_34 : decode b_Mod_cut 34 = .ok (.iload_n 1, 1) := by decide +kernel
theorem d_Mod_cut_35 : decode b_Mod_cut 35 = .ok (.putfield 140, 3) := by decide +kernel
theorem d_Mod_cut_38 : decode b_Mod_cut 38 = .ok (.iload_n 2, 1) := by decide +kernel
theorem d_Mod_cut_39 : decode b_Mod_cut 39 = .ok (.ireturn, 1) := by decide +kernel
theorem d_Mod_depth_0 : decode b_Mod_depth 0 = .ok (.aload_n 0, 1) := by decide +kernel
theorem d_Mod_depth_1 : decode b_Mod_depth 1 = .ok (.aload_n 0, 1) := by decide +kernel
theorem d_Mod_depth_2 : decode b_Mod_depth 2 = .ok (.getfield 407, 3) := by decide +kernel
theorem d_Mod_depth_5 : decode b_Mod_depth 5 = .ok (.ifCond .eq 7, 3) := by decide +kernel
theorem d_Mod_depth_12 : decode b_Mod_depth 12 = .ok (.iconst 1, 1) := by decide +kernel
theorem d_Mod_depth_13 : decode b_Mod_depth 13 = .ok (.invokevirtual 143, 3) := by decide +kernel
theorem d_Mod_depth_16 : decode b_Mod_depth 16 = .ok (.ifCond .eq 5, 3) := by decide +kernel
theorem d_Mod_depth_19 : decode b_Mod_depth 19 = .ok (.iconst 0, 1) := by decide +kernel
theorem d_Mod_depth_20 : decode b_Mod_depth 20 = .ok (.ireturn, 1) := by decide +kernel
theorem d_Mod_fail_0 : decode b_Mod_fail 0 = .ok (.aload_n 0, 1) := by decide +kernel
theorem d_Mod_fail_1 : decode b_Mod_fail 1 = .ok (.getfield 147, 3) := by decide +kernel
theorem d_Mod_fail_4 : decode b_Mod_fail 4 = .ok (.ifCond .ne 13, 3) := by decide +kernel
theorem d_Mod_fail_7 : decode b_Mod_fail 7 = .ok (.aload_n 0, 1) := by decide +kernel
theorem d_Mod_fail_8 : decode b_Mod_fail 8 = .ok (.iload_n 1, 1) := by decide +kernel
theorem d_Mod_fail_9 : decode b_Mod_fail 9 = .ok (.putfield 147, 3) := by decide +kernel
theorem d_Mod_fail_12 : decode b_Mod_fail 12 = .ok (.aload_n 0, 1) := by decide +kernel
theorem d_Mod_fail_13 : decode b_Mod_fail 13 = .ok (.iload_n 2, 1) := by decide +kernel
theorem d_Mod_fail_14 : decode b_Mod_fail 14 = .ok (.putfield 29, 3) := by decide +kernel
theorem d_Mod_fail_17 : decode b_Mod_fail 17 = .ok (.return_, 1) := by decide +kernel
theorem d_Mod_feed_0 : decode b_Mod_feed 0 = .ok (.aload_n 0, 1) := by decide +kernel
theorem d_Mod_feed_1 : decode b_Mod_feed 1 = .ok (.iload_n 1, 1) := by decide +kernel
theorem d_Mod_feed_2 : decode b_Mod_feed 2 = .ok (.iconst 0, 1) := by decide +kernel
theorem d_Mod_feed_3 : decode b_Mod_feed 3 = .ok (.bipush 16, 2) := by decide +kernel
theorem d_Mod_feed_5 : decode b_Mod_feed 5 = .ok (.invokestatic 136, 3) := by decide +kernel
theorem d_Mod_feed_8 : decode b_Mod_feed 8 = .ok (.ifCond .ne 7, 3) := by decide +kernel
theorem d_Mod_feed_11 : decode b_Mod_feed 11 = .ok (.iconst 1, 1) := by decide +kernel
theorem d_Mod_feed_12 : decode b_Mod_feed 12 = .ok (.goto 20, 3) := by decide +kernel
theorem d_Mod_feed_15 : decode b_Mod_feed 15 = .ok (.aload_n 0, 1) := by decide +kernel
theorem d_Mod_feed_16 : decode b_Mod_feed 16 = .ok (.getfield 140, 3) := by decide +kernel
theorem d_Mod_feed_19 : decode b_Mod_feed 19 = .ok (.iload_n 1, 1) := by decide +kernel
theorem d_Mod_feed_20 : decode b_Mod_feed 20 = .ok (.iadd, 1) := by decide +kernel
theorem d_Mod_feed_21 : decode b_Mod_feed 21 = .ok (.sipush 600, 3) := by decide +kernel
theorem d_Mod_feed_24 : decode b_Mod_feed 24 = .ok (.if_icmp .le 7, 3) := by decide +kernel
theorem d_Mod_feed_27 : decode b_Mod_feed 27 = .ok (.iconst 2, 1) := by decide +kernel
theorem d_Mod_feed_28 : decode b_Mod_feed 28 = .ok (.goto 4, 3) := by decide +kernel
theorem d_Mod_feed_31 : decode b_Mod_feed 31 = .ok (.iconst 0, 1) := by decide +kernel
theorem d_Mod_feed_32 : decode b_Mod_feed 32 = .ok (.invokevirtual 143, 3) := by decide +kernel
theorem d_Mod_feed_35 : decode b_Mod_feed 35 = .ok (.ifCond .eq 5, 3) := by decide +kernel
theorem d_Mod_feed_38 : decode b_Mod_feed 38 = .ok (.iconst 0, 1) := by decide +kernel
theorem d_Mod_feed_39 : decode b_Mod_feed 39 = .ok (.ireturn, 1) := by decide +kernel
theorem d_Mod_feed_40 : decode b_Mod_feed 40 = .ok (.iconst 0, 1) := by decide +kernel
theorem d_Mod_feed_41 : decode b_Mod_feed 41 = .ok (.istore 6, 2) := by decide +kernel
theorem d_Mod_feed_43 : decode b_Mod_feed 43 = .ok (.iload 6, 2) := by decide +kernel
theorem d_Mod_feed_45 : decode b_Mod_feed 45 = .ok (.iload_n 1, 1) := by decide +kernel
theorem d_Mod_feed_46 : decode b_Mod_feed 46 = .ok (.if_icmp .ge 82, 3) := by decide +kernel
theorem d_Mod_feed_49 : decode b_Mod_feed 49 = .ok (.iload 6, 2) := by decide +kernel
theorem d_Mod_feed_51 : decode b_Mod_feed 51 = .ok (.iconst 4, 1) := by decide +kernel
theorem d_Mod_feed_52 : decode b_Mod_feed 52 = .ok (.if_icmp .ge 7, 3) := by decide +kernel
theorem d_Mod_feed_55 : decode b_Mod_feed 55 = .ok (.iload_n 2, 1) := by decide +kernel
theorem d_Mod_feed_56 : decode b_Mod_feed 56 = .ok (.goto 28, 3) := by decide +kernel
theorem d_Mod_feed_59 : decode b_Mod_feed 59 = .ok (.iload 6, 2) := by decide +kernel
theorem d_Mod_feed_61 : decode b_Mod_feed 61 = .ok (.bipush 8, 2) := by decide +kernel
theorem d_Mod_feed_63 : decode b_Mod_feed 63 = .ok (.if_icmp .ge 7, 3) := by decide +kernel
theorem d_Mod_feed_66 : decode b_Mod_feed 66 = .ok (.iload_n 3, 1) := by decide +kernel
theorem d_Mod_feed_67 : decode b_Mod_feed 67 = .ok (.goto 17, 3) := by decide +kernel
theorem d_Mod_feed_70 : decode b_Mod_feed 70 = .ok (.iload 6, 2) := by decide +kernel
theorem d_Mod_feed_72 : decode b_Mod_feed 72 = .ok (.bipush 12, 2) := by decide +kernel
theorem d_Mod_feed_74 : decode b_Mod_feed 74 = .ok (.if_icmp .ge 8, 3) := by decide +kernel
theorem d_Mod_feed_77 : decode b_Mod_feed 77 = .ok (.iload 4, 2) := by decide +kernel
theorem d_Mod_feed_79 : decode b_Mod_feed 79 = .ok (.goto 5, 3) := by decide +kernel
theorem d_Mod_feed_82 : decode b_Mod_feed 82 = .ok (.iload 5, 2) := by decide +kernel
theorem d_Mod_feed_84 : decode b_Mod_feed 84 = .ok (.istore 7, 2) := by decide +kernel
theorem d_Mod_feed_86 : decode b_Mod_feed 86 = .ok (.aload_n 0, 1) := by decide +kernel
theorem d_Mod_feed_87 : decode b_Mod_feed 87 = .ok (.getfield 7, 3) := by decide +kernel
theorem d_Mod_feed_90 : decode b_Mod_feed 90 = .ok (.aload_n 0, 1) := by decide +kernel
theorem d_Mod_feed_91 : decode b_Mod_feed 91 = .ok (.getfield 140, 3) := by decide +kernel
theorem d_Mod_feed_94 : decode b_Mod_feed 94 = .ok (.iload 7, 2) := by decide +kernel
theorem d_Mod_feed_96 : decode b_Mod_feed 96 = .ok (.bipush 24, 2) := by decide +kernel
theorem d_Mod_feed_98 : decode b_Mod_feed 98 = .ok (.bipush 8, 2) := by decide +kernel
theorem d_Mod_feed_100 : decode b_Mod_feed 100 = .ok (.iload 6, 2) := by decide +kernel
theorem d_Mod_feed_102 : decode b_Mod_feed 102 = .ok (.iconst 4, 1) := by decide +kernel
theorem d_Mod_feed_103 : decode b_Mod_feed 103 = .ok (.irem, 1) := by decide +kernel
theorem d_Mod_feed_104 : decode b_Mod_feed 104 = .ok (.imul, 1) := by decide +kernel
theorem d_Mod_feed_105 : decode b_Mod_feed 105 = .ok (.isub, 1) := by decide +kernel
theorem d_Mod_feed_106 : decode b_Mod_feed 106 = .ok (.ishr, 1) := by decide +kernel
theorem d_Mod_feed_107 : decode b_Mod_feed 107 = .ok (.sipush 255, 3) := by decide +kernel
theorem d_Mod_feed_110 : decode b_Mod_feed 110 = .ok (.iand, 1) := by decide +kernel
theorem d_Mod_feed_111 : decode b_Mod_feed 111 = .ok (.iastore, 1) := by decide +kernel
theorem d_Mod_feed_112 : decode b_Mod_feed 112 = .ok (.aload_n 0, 1) := by decide +kernel
theorem d_Mod_feed_113 : decode b_Mod_feed 113 = .ok (.dup, 1) := by decide +kernel
theorem d_Mod_feed_114 : decode b_Mod_feed 114 = .ok (.getfield 140, 3) := by decide +kernel
theorem d_Mod_feed_117 : decode b_Mod_feed 117 = .ok (.iconst 1, 1) := by decide +kernel
theorem d_Mod_feed_118 : decode b_Mod_feed 118 = .ok (.iadd, 1) := by decide +kernel
theorem d_Mod_feed_119 : decode b_Mod_feed 119 = .ok (.putfield 140, 3) := by decide +kernel
theorem d_Mod_feed_122 : decode b_Mod_feed 122 = .ok (.iinc 6 1, 3) := by decide +kernel
theorem d_Mod_feed_125 : decode b_Mod_feed 125 = .ok (.goto (-82), 3) := by decide +kernel
theorem d_Mod_feed_128 : decode b_Mod_feed 128 = .ok (.aload_n 0, 1) := by decide +kernel
theorem d_Mod_feed_129 : decode b_Mod_feed 129 = .ok (.getfield 140, 3) := by decide +kernel
theorem d_Mod_feed_132 : decode b_Mod_feed 132 = .ok (.ireturn, 1) := by decide +kernel
theorem d_Mod_isIn_0 : decode b_Mod_isIn 0 = .ok (.iload_n 0, 1) := by decide +kernel
theorem d_Mod_isIn_1 : decode b_Mod_isIn 1 = .ok (.iload_n 1, 1) := by decide +kernel
theorem d_Mod_isIn_2 : decode b_Mod_isIn 2 = .ok (.if_icmp .lt 12, 3) := by decide +kernel
theorem d_Mod_isIn_5 : decode b_Mod_isIn 5 = .ok (.iload_n 0, 1) := by decide +kernel
theorem d_Mod_isIn_6 : decode b_Mod_isIn 6 = .ok (.iload_n 2, 1) := by decide +kernel
theorem d_Mod_isIn_7 : decode b_Mod_isIn 7 = .ok (.if_icmp .gt 7, 3) := by decide +kernel
theorem d_Mod_isIn_10 : decode b_Mod_isIn 10 = .ok (.iconst 1, 1) := by decide +kernel
theorem d_Mod_isIn_11 : decode b_Mod_isIn 11 = .ok (.goto 4, 3) := by decide +kernel
theorem d_Mod_isIn_14 : decode b_Mod_isIn 14 = .ok (.iconst 0, 1) := by decide +kernel
theorem d_Mod_isIn_15 : decode b_Mod_isIn 15 = .ok (.ireturn, 1) := by decide +kernel
theorem d_Mod_kind_0 : decode b_Mod_kind 0 = .ok (.aload_n 0, 1) := by decide +kernel
theorem d_Mod_kind_1 : decode b_Mod_kind 1 = .ok (.aload_n 0, 1) := by decide +kernel
theorem d_Mod_kind_2 : decode b_Mod_kind 2 = .ok (.getfield 407, 3) := by decide +kernel
theorem d_Mod_kind_5 : decode b_Mod_kind 5 = .ok (.ifCond .eq 7, 3) := by decide +kernel
theorem d_Mod_kind_12 : decode b_Mod_kind 12 = .ok (.iconst 1, 1) := by decide +kernel
theorem d_Mod_kind_13 : decode b_Mod_kind 13 = .ok (.invokevirtual 143, 3) := by decide +kernel
theorem d_Mod_kind_16 : decode b_Mod_kind 16 = .ok (.ifCond .eq 5, 3) := by decide +kernel
theorem d_Mod_kind_19 : decode b_Mod_kind 19 = .ok (.iconst 0, 1) := by decide +kernel
theorem d_Mod_kind_20 : decode b_Mod_kind 20 = .ok (.ireturn, 1) := by decide +kernel
theorem d_Mod_limit_0 : decode b_Mod_limit 0 = .ok (.aload_n 0, 1) := by decide +kernel
theorem d_Mod_limit_1 : decode b_Mod_limit 1 = .ok (.iload_n 1, 1) := by decide +kernel
theorem d_Mod_limit_2 : decode b_Mod_limit 2 = .ok (.iconst 0, 1) := by decide +kernel
theorem d_Mod_limit_3 : decode b_Mod_limit 3 = .ok (.iconst 1, 1) := by decide +kernel
theorem d_Mod_limit_4 : decode b_Mod_limit 4 = .ok (.invokestatic 136, 3) := by decide +kernel
theorem d_Mod_limit_7 : decode b_Mod_limit 7 = .ok (.ifCond .eq 18, 3) := by decide +kernel
theorem d_Mod_limit_10 : decode b_Mod_limit 10 = .ok (.iload_n 2, 1) := by decide +kernel
theorem d_Mod_limit_11 : decode b_Mod_limit 11 = .ok (.iconst 0, 1) := by decide +kernel
theorem d_Mod_limit_12 : decode b_Mod_limit 12 = .ok (.sipush 600, 3) := by decide +kernel
theorem d_Mod_limit_15 : decode b_Mod_limit 15 = .ok (.invokestatic 136, 3) := by decide +kernel
theorem d_Mod_limit_18 : decode b_Mod_limit 18 = .ok (.ifCond .eq 7, 3) := by decide +kernel
theorem d_Mod_limit_21 : decode b_Mod_limit 21 = .ok (.iconst 0, 1) := by decide +kernel
theorem d_Mod_limit_22 : decode b_Mod_limit 22 = .ok (.goto 4, 3) := by decide +kernel
theorem d_Mod_limit_25 : decode b_Mod_limit 25 = .ok (.iconst 1, 1) := by decide +kernel
theorem d_Mod_limit_26 : decode b_Mod_limit 26 = .ok (.invokevirtual 143, 3) := by decide +kernel
theorem d_Mod_limit_29 : decode b_Mod_limit 29 = .ok (.ifCond .eq 5, 3) := by decide +kernel
theorem d_Mod_limit_32 : decode b_Mod_limit 32 = .ok (.iconst 0, 1) := by decide +kernel
theorem d_Mod_limit_33 : decode b_Mod_limit 33 = .ok (.ireturn, 1) := by decide +kernel
theorem d_Mod_limit_34 : decode b_Mod_limit 34 = .ok (.iload_n 1, 1) := by decide +kernel
theorem d_Mod_limit_35 : decode b_Mod_limit 35 = .ok (.ifCond .ne 10, 3) := by decide +kernel
theorem d_Mod_limit_38 : decode b_Mod_limit 38 = .ok (.aload_n 0, 1) := by decide +kernel
theorem d_Mod_limit_39 : decode b_Mod_limit 39 = .ok (.getfield 22, 3) := by decide +kernel
theorem d_Mod_limit_42 : decode b_Mod_limit 42 = .ok (.goto 7, 3) := by decide +kernel
theorem d_Mod_limit_45 : decode b_Mod_limit 45 = .ok (.aload_n 0, 1) := by decide +kernel
theorem d_Mod_limit_46 : decode b_Mod_limit 46 = .ok (.getfield 26, 3) := by decide +kernel
theorem d_Mod_limit_49 : decode b_Mod_limit 49 = .ok (.istore_n 3, 1) := by decide +kernel
theorem d_Mod_limit_50 : decode b_Mod_limit 50 = .ok (.aload_n 0, 1) := by decide +kernel
theorem d_Mod_limit_51 : decode b_Mod_limit 51 = .ok (.iload_n 1, 1) := by decide +kernel
theorem d_Mod_limit_52 : decode b_Mod_limit 52 = .ok (.ifCond .ne 7, 3) := by decide +kernel
theorem d_Mod_limit_55 : decode b_Mod_limit 55 = .ok (.iload_n 2, 1) := by decide +kernel
theorem d_Mod_limit_56 : decode b_Mod_limit 56 = .ok (.goto 7, 3) := by decide +kernel
theorem d_Mod_limit_59 : decode b_Mod_limit 59 = .ok (.aload_n 0, 1) := by decide +kernel
theorem d_Mod_limit_60 : decode b_Mod_limit 60 = .ok (.getfield 22, 3) := by decide +kernel
theorem d_Mod_limit_63 : decode b_Mod_limit 63 = .ok (.putfield 22, 3) := by decide +kernel
theorem d_Mod_limit_66 : decode b_Mod_limit 66 = .ok (.aload_n 0, 1) := by decide +kernel
theorem d_Mod_limit_67 : decode b_Mod_limit 67 = .ok (.iload_n 1, 1) := by decide +kernel
theorem d_Mod_limit_68 : decode b_Mod_limit 68 = .ok (.iconst 1, 1) := by decide +kernel
theorem d_Mod_limit_69 : decode b_Mod_limit 69 = .ok (.if_icmp .ne 7, 3) := by decide +kernel
theorem d_Mod_limit_72 : decode b_Mod_limit 72 = .ok (.iload_n 2, 1) := by decide +kernel
theorem d_Mod_limit_73 : decode b_Mod_limit 73 = .ok (.goto 7, 3) := by decide +kernel
theorem d_Mod_limit_76 : decode b_Mod_limit 76 = .ok (.aload_n 0, 1) := by decide +kernel
theorem d_Mod_limit_77 : decode b_Mod_limit 77 = .ok (.getfield 26, 3) := by decide +kernel
theorem d_Mod_limit_80 : decode b_Mod_limit 80 = .ok (.putfield 26, 3) := by decide +kernel
theorem d_Mod_limit_83 : decode b_Mod_limit 83 = .ok (.iload_n 3, 1) := by decide +kernel
theorem d_Mod_limit_84 : decode b_Mod_limit 84 = .ok (.ireturn, 1) := by decide +kernel
theorem d_Mod_number_0 : decode b_Mod_number 0 = .ok (.aload_n 0, 1) := by decide +kernel
theorem d_Mod_number_1 : decode b_Mod_number 1 = .ok (.getfield 147, 3) := by decide +kernel
theorem d_Mod_number_4 : decode b_Mod_number 4 = .ok (.ifCond .eq 5, 3) := by decide +kernel
theorem d_Mod_number_7 : decode b_Mod_number 7 = .ok (.lconst 0, 1) := by decide +kernel
theorem d_Mod_number_8 : decode b_Mod_number 8 = .ok (.lreturn, 1) := by decide +kernel
theorem d_Mod_number_9 : decode b_Mod_number 9 = .ok (.aload_n 0, 1) := by decide +kernel
theorem d_Mod_number_10 : decode b_Mod_number 10 = .ok (.getfield 150, 3) := by decide +kernel
theorem d_Mod_number_13 : decode b_Mod_number 13 = .ok (.iload_n 1, 1) := by decide +kernel
theorem d_Mod_number_14 : decode b_Mod_number 14 = .ok (.iadd, 1) := by decide +kernel
theorem d_Mod_number_15 : decode b_Mod_number 15 = .ok (.aload_n 0, 1) := by decide +kernel
theorem d_Mod_number_16 : decode b_Mod_number 16 = .ok (.getfield 153, 3) := by decide +kernel
theorem d_Mod_number_19 : decode b_Mod_number 19 = .ok (.if_icmp .le 40, 3) := by decide +kernel
theorem d_Mod_number_22 : decode b_Mod_number 22 = .ok (.aload_n 0, 1) := by decide +kernel
theorem d_Mod_number_23 : decode b_Mod_number 23 = .ok (.aload_n 0, 1) := by decide +kernel
theorem d_Mod_number_24 : decode b_Mod_number 24 = .ok (.getfield 156, 3) := by decide +kernel
theorem d_Mod_number_27 : decode b_Mod_number 27 = .ok (.ifCond .le 8, 3) := by decide +kernel
theorem d_Mod_number_35 : decode b_Mod_number 35 = .ok (.iconst 1, 1) := by decide +kernel
theorem d_Mod_number_36 : decode b_Mod_number 36 = .ok (.aload_n 0, 1) := by decide +kernel
theorem d_Mod_number_37 : decode b_Mod_number 37 = .ok (.getfield 156, 3) := by decide +kernel
theorem d_Mod_number_40 : decode b_Mod_number 40 = .ok (.ifCond .le 10, 3) := by decide +kernel
theorem d_Mod_number_50 : decode b_Mod_number 50 = .ok (.aload_n 0, 1) := by decide +kernel
theorem d_Mod_number_51 : decode b_Mod_number 51 = .ok (.getfield 150, 3) := by decide +kernel
theorem d_Mod_number_54 : decode b_Mod_number 54 = .ok (.invokevirtual 159, 3) := by decide +kernel
theorem d_Mod_number_57 : decode b_Mod_number 57 = .ok (.lconst 0, 1) := by decide +kernel
theorem d_Mod_number_58 : decode b_Mod_number 58 = .ok (.lreturn, 1) := by decide +kernel
theorem d_Mod_place_0 : decode b_Mod_place 0 = .ok (.aload_n 0, 1) := by decide +kernel
theorem d_Mod_place_1 : decode b_Mod_place 1 = .ok (.iconst 0, 1) := by decide +kernel
theorem d_Mod_place_2 : decode b_Mod_place 2 = .ok (.putfield 133, 3) := by decide +kernel
theorem d_Mod_place_5 : decode b_Mod_place 5 = .ok (.aload_n 0, 1) := by decide +kernel
theorem d_Mod_place_6 : decode b_Mod_place 6 = .ok (.getfield 29, 3) := by decide +kernel
theorem d_Mod_place_9 : decode b_Mod_place 9 = .ok (.ireturn, 1) := by decide +kernel
theorem d_Mod_put_0 : decode b_Mod_put 0 = .ok (.aload_n 0, 1) := by decide +kernel
theorem d_Mod_put_1 : decode b_Mod_put 1 = .ok (.iload_n 1, 1) := by decide +kernel
theorem d_Mod_put_2 : decode b_Mod_put 2 = .ok (.iconst 0, 1) := by decide +kernel
theorem d_Mod_put_3 : decode b_Mod_put 3 = .ok (.aload_n 0, 1) := by decide +kernel
theorem d_Mod_put_4 : decode b_Mod_put 4 = .ok (.getfield 140, 3) := by decide +kernel
theorem d_Mod_put_7 : decode b_Mod_put 7 = .ok (.iconst 1, 1) := by decide +kernel
theorem d_Mod_put_8 : decode b_Mod_put 8 = .ok (.isub, 1) := by decide +kernel
theorem d_Mod_put_9 : decode b_Mod_put 9 = .ok (.invokestatic 136, 3) := by decide +kernel
theorem d_Mod_put_12 : decode b_Mod_put 12 = .ok (.ifCond .ne 7, 3) := by decide +kernel
theorem d_Mod_put_15 : decode b_Mod_put 15 = .ok (.iconst 1, 1) := by decide +kernel
theorem d_Mod_put_16 : decode b_Mod_put 16 = .ok (.goto 19, 3) := by decide +kernel
theorem d_Mod_put_19 : decode b_Mod_put 19 = .ok (.iload_n 2, 1) := by decide +kernel
theorem d_Mod_put_20 : decode b_Mod_put 20 = .ok (.iconst 0, 1) := by decide +kernel
theorem d_Mod_put_21 : decode b_Mod_put 21 = .ok (.sipush 255, 3) := by decide +kernel
theorem d_Mod_put_24 : decode b_Mod_put 24 = .ok (.invokestatic 136, 3) := by decide +kernel
theorem d_Mod_put_27 : decode b_Mod_put 27 = .ok (.ifCond .ne 7, 3) := by decide +kernel
theorem d_Mod_put_30 : decode b_Mod_put 30 = .ok (.iconst 2, 1) := by decide +kernel
theorem d_Mod_put_31 : decode b_Mod_put 31 = .ok (.goto 4, 3) := by decide +kernel
theorem d_Mod_put_34 : decode b_Mod_put 34 = .ok (.iconst 0, 1) := by decide +kernel
theorem d_Mod_put_35 : decode b_Mod_put 35 = .ok (.invokevirtual 143, 3) := by decide +kernel
theorem d_Mod_put_38 : decode b_Mod_put 38 = .ok (.ifCond .eq 5, 3) := by decide +kernel
theorem d_Mod_put_41 : decode b_Mod_put 41 = .ok (.iconst 0, 1) := by decide +kernel
theorem d_Mod_put_42 : decode b_Mod_put 42 = .ok (.ireturn, 1) := by decide +kernel
theorem d_Mod_put_43 : decode b_Mod_put 43 = .ok (.aload_n 0, 1) := by decide +kernel
theorem d_Mod_put_44 : decode b_Mod_put 44 = .ok (.getfield 7, 3) := by decide +kernel
theorem d_Mod_put_47 : decode b_Mod_put 47 = .ok (.iload_n 1, 1) := by decide +kernel
theorem d_Mod_put_48 : decode b_Mod_put 48 = .ok (.iaload, 1) := by decide +kernel
theorem d_Mod_put_49 : decode b_Mod_put 49 = .ok (.istore_n 3, 1) := by decide +kernel
theorem d_Mod_put_50 : decode b_Mod_put 50 = .ok (.aload_n 0, 1) := by decide +kernel
theorem d_Mod_put_51 : decode b_Mod_put 51 = .ok (.getfield 7, 3) := by decide +kernel
theorem d_Mod_put_54 : decode b_Mod_put 54 = .ok (.iload_n 1, 1) := by decide +kernel
theorem d_Mod_put_55 : decode b_Mod_put 55 = .ok (.iload_n 2, 1) := by decide +kernel
theorem d_Mod_put_56 : decode b_Mod_put 56 = .ok (.iastore, 1) := by decide +kernel
theorem d_Mod_put_57 : decode b_Mod_put 57 = .ok (.iload_n 3, 1) := by decide +kernel
theorem d_Mod_put_58 : decode b_Mod_put 58 = .ok (.ireturn, 1) := by decide +kernel
theorem d_Mod_read_0 : decode b_Mod_read 0 = .ok (.aload_n 0, 1) := by decide +kernel
theorem d_Mod_read_1 : decode b_Mod_read 1 = .ok (.iconst 0, 1) := by decide +kernel
theorem d_Mod_read_2 : decode b_Mod_read 2 = .ok (.putfield 150, 3) := by decide +kernel
theorem d_Mod_read_5 : decode b_Mod_read 5 = .ok (.aload_n 0, 1) := by decide +kernel
theorem d_Mod_read_6 : decode b_Mod_read 6 = .ok (.aload_n 0, 1) := by decide +kernel
theorem d_Mod_read_7 : decode b_Mod_read 7 = .ok (.getfield 140, 3) := by decide +kernel
theorem d_Mod_read_10 : decode b_Mod_read 10 = .ok (.putfield 153, 3) := by decide +kernel
theorem d_Mod_read_13 : decode b_Mod_read 13 = .ok (.aload_n 0, 1) := by decide +kernel
theorem d_Mod_read_14 : decode b_Mod_read 14 = .ok (.iconst 0, 1) := by decide +kernel
theorem d_Mod_read_15 : decode b_Mod_read 15 = .ok (.putfield 156, 3) := by decide +kernel
theorem d_Mod_read_18 : decode b_Mod_read 18 = .ok (.aload_n 0, 1) := by decide +kernel
theorem d_Mod_read_19 : decode b_Mod_read 19 = .ok (.iconst 0, 1) := by decide +kernel
theorem d_Mod_read_20 : decode b_Mod_read 20 = .ok (.putfield 205, 3) := by decide +kernel
theorem d_Mod_read_23 : decode b_Mod_read 23 = .ok (.aload_n 0, 1) := by decide +kernel
theorem d_Mod_read_24 : decode b_Mod_read 24 = .ok (.iconst 0, 1) := by decide +kernel
theorem d_Mod_read_25 : decode b_Mod_read 25 = .ok (.putfield 199, 3) := by decide +kernel
theorem d_Mod_read_28 : decode b_Mod_read 28 = .ok (.aload_n 0, 1) := by decide +kernel
theorem d_Mod_read_29 : decode b_Mod_read 29 = .ok (.iconst 4, 1) := by decide +kernel
theorem d_Mod_read_30 : decode b_Mod_read 30 = .ok (.invokevirtual 165, 3) := by decide +kernel
theorem d_Mod_read_33 : decode b_Mod_read 33 = .ok (.lstore_n 1, 1) := by decide +kernel
theorem d_Mod_read_34 : decode b_Mod_read 34 = .ok (.aload_n 0, 1) := by decide +kernel
theorem d_Mod_read_35 : decode b_Mod_read 35 = .ok (.getfield 147, 3) := by decide +kernel
theorem d_Mod_read_38 : decode b_Mod_read 38 = .ok (.ifCond .ne 17, 3) := by decide +kernel
theorem d_Mod_read_55 : decode b_Mod_read 55 = .ok (.aload_n 0, 1) := by decide +kernel
theorem d_Mod_read_56 : decode b_Mod_read 56 = .ok (.invokevirtual 172, 3) := by decide +kernel
theorem d_Mod_read_59 : decode b_Mod_read 59 = .ok (.pop, 1) := by decide +kernel
theorem d_Mod_read_60 : decode b_Mod_read 60 = .ok (.aload_n 0, 1) := by decide +kernel
theorem d_Mod_read_61 : decode b_Mod_read 61 = .ok (.invokevirtual 172, 3) := by decide +kernel
theorem d_Mod_read_64 : decode b_Mod_read 64 = .ok (.istore_n 3, 1) := by decide +kernel
theorem d_Mod_read_65 : decode b_Mod_read 65 = .ok (.aload_n 0, 1) := by decide +kernel
theorem d_Mod_read_66 : decode b_Mod_read 66 = .ok (.getfield 147, 3) := by decide +kernel
theorem d_Mod_read_69 : decode b_Mod_read 69 = .ok (.ifCond .ne 21, 3) := by decide +kernel
theorem d_Mod_read_90 : decode b_Mod_read 90 = .ok (.aload_n 0, 1) := by decide +kernel
theorem d_Mod_read_91 : decode b_Mod_read 91 = .ok (.invokevirtual 213, 3) := by decide +kernel
theorem d_Mod_read_94 : decode b_Mod_read 94 = .ok (.aload_n 0, 1) := by decide +kernel
theorem d_Mod_read_95 : decode b_Mod_read 95 = .ok (.invokevirtual 172, 3) := by decide +kernel
theorem d_Mod_read_98 : decode b_Mod_read 98 = .ok (.pop, 1) := by decide +kernel
theorem d_Mod_read_99 : decode b_Mod_read 99 = .ok (.aload_n 0, 1) := by decide +kernel
theorem d_Mod_read_100 : decode b_Mod_read 100 = .ok (.aload_n 0, 1) := by decide +kernel
theorem d_Mod_read_101 : decode b_Mod_read 101 = .ok (.getfield 150, 3) := by decide +kernel
theorem d_Mod_read_104 : decode b_Mod_read 104 = .ok (.putfield 216, 3) := by decide +kernel
theorem d_Mod_read_107 : decode b_Mod_read 107 = .ok (.aload_n 0, 1) := by decide +kernel
theorem d_Mod_read_108 : decode b_Mod_read 108 = .ok (.aload_n 0, 1) := by decide +kernel
theorem d_Mod_read_109 : decode b_Mod_read 109 = .ok (.invokevirtual 172, 3) := by decide +kernel
theorem d_Mod_read_112 : decode b_Mod_read 112 = .ok (.putfield 219, 3) := by decide +kernel
theorem d_Mod_read_115 : decode b_Mod_read 115 = .ok (.aload_n 0, 1) := by decide +kernel
theorem d_Mod_read_116 : decode b_Mod_read 116 = .ok (.aload_n 0, 1) := by decide +kernel
theorem d_Mod_read_117 : decode b_Mod_read 117 = .ok (.invokevirtual 172, 3) := by decide +kernel
theorem d_Mod_read_120 : decode b_Mod_read 120 = .ok (.putfield 222, 3) := by decide +kernel
theorem d_Mod_read_123 : decode b_Mod_read 123 = .ok (.aload_n 0, 1) := by decide +kernel
theorem d_Mod_read_124 : decode b_Mod_read 124 = .ok (.aload_n 0, 1) := by decide +kernel
theorem d_Mod_read_125 : decode b_Mod_read 125 = .ok (.invokevirtual 172, 3) := by decide +kernel
theorem d_Mod_read_128 : decode b_Mod_read 128 = .ok (.putfield 225, 3) := by decide +kernel
theorem d_Mod_read_131 : decode b_Mod_read 131 = .ok (.iconst 0, 1) := by decide +kernel
theorem d_Mod_read_132 : decode b_Mod_read 132 = .ok (.istore 4, 2) := by decide +kernel
theorem d_Mod_read_134 : decode b_Mod_read 134 = .ok (.iload 4, 2) := by decide +kernel
theorem d_Mod_read_136 : decode b_Mod_read 136 = .ok (.aload_n 0, 1) := by decide +kernel
theorem d_Mod_read_137 : decode b_Mod_read 137 = .ok (.getfield 225, 3) := by decide +kernel
theorem d_Mod_read_140 : decode b_Mod_read 140 = .ok (.if_icmp .ge 38, 3) := by decide +kernel
theorem d_Mod_read_178 : decode b_Mod_read 178 = .ok (.aload_n 0, 1) := by decide +kernel
theorem d_Mod_read_179 : decode b_Mod_read 179 = .ok (.iconst 0, 1) := by decide +kernel
theorem d_Mod_read_180 : decode b_Mod_read 180 = .ok (.invokevirtual 228, 3) := by decide +kernel
theorem d_Mod_read_183 : decode b_Mod_read 183 = .ok (.aload_n 0, 1) := by decide +kernel
theorem d_Mod_read_184 : decode b_Mod_read 184 = .ok (.aload_n 0, 1) := by decide +kernel
theorem d_Mod_read_185 : decode b_Mod_read 185 = .ok (.getfield 205, 3) := by decide +kernel
theorem d_Mod_read_188 : decode b_Mod_read 188 = .ok (.putfield 232, 3) := by decide +kernel
theorem d_Mod_read_191 : decode b_Mod_read 191 = .ok (.aload_n 0, 1) := by decide +kernel
theorem d_Mod_read_192 : decode b_Mod_read 192 = .ok (.aload_n 0, 1) := by decide +kernel
theorem d_Mod_read_193 : decode b_Mod_read 193 = .ok (.getfield 150, 3) := by decide +kernel
theorem d_Mod_read_196 : decode b_Mod_read 196 = .ok (.putfield 235, 3) := by decide +kernel
theorem d_Mod_read_199 : decode b_Mod_read 199 = .ok (.aload_n 0, 1) := by decide +kernel
theorem d_Mod_read_200 : decode b_Mod_read 200 = .ok (.iconst 1, 1) := by decide +kernel
theorem d_Mod_read_201 : decode b_Mod_read 201 = .ok (.invokevirtual 228, 3) := by decide +kernel
theorem d_Mod_read_204 : decode b_Mod_read 204 = .ok (.aload_n 0, 1) := by decide +kernel
theorem d_Mod_read_205 : decode b_Mod_read 205 = .ok (.invokevirtual 202, 3) := by decide +kernel
theorem d_Mod_read_208 : decode b_Mod_read 208 = .ok (.aload_n 0, 1) := by decide +kernel
theorem d_Mod_read_209 : decode b_Mod_read 209 = .ok (.getfield 147, 3) := by decide +kernel
theorem d_Mod_read_212 : decode b_Mod_read 212 = .ok (.ifCond .ne 24, 3) := by decide +kernel
theorem d_Mod_read_236 : decode b_Mod_read 236 = .ok (.return_, 1) := by decide +kernel
theorem d_Mod_readAttributes_0 : decode b_Mod_readAttributes 0 = .ok (.aload_n 0, 1) := by decide +kernel
theorem d_Mod_readAttributes_1 : decode b_Mod_readAttributes 1 = .ok (.invokevirtual 172, 3) := by decide +kernel
theorem d_Mod_readAttributes_4 : decode b_Mod_readAttributes 4 = .ok (.istore_n 1, 1) := by decide +kernel
theorem d_Mod_readAttributes_5 : decode b_Mod_readAttributes 5 = .ok (.iconst 0, 1) := by decide +kernel
theorem d_Mod_readAttributes_6 : decode b_Mod_readAttributes 6 = .ok (.istore_n 2, 1) := by decide +kernel
theorem d_Mod_readAttributes_7 : decode b_Mod_readAttributes 7 = .ok (.iload_n 2, 1) := by decide +kernel
theorem d_Mod_readAttributes_8 : decode b_Mod_readAttributes 8 = .ok (.iload_n 1, 1) := by decide +kernel
theorem d_Mod_readAttributes_9 : decode b_Mod_readAttributes 9 = .ok (.if_icmp .ge 20, 3) := by decide +kernel
theorem d_Mod_readAttributes_29 : decode b_Mod_readAttributes 29 = .ok (.return_, 1) := by decide +kernel
theorem d_Mod_readConstants_0 : decode b_Mod_readConstants 0 = .ok (.aload_n 0, 1) := by decide +kernel
theorem d_Mod_readConstants_1 : decode b_Mod_readConstants 1 = .ok (.aload_n 0, 1) := by decide +kernel
theorem d_Mod_readConstants_2 : decode b_Mod_readConstants 2 = .ok (.invokevirtual 172, 3) := by decide +kernel
theorem d_Mod_readConstants_5 : decode b_Mod_readConstants 5 = .ok (.putfield 169, 3) := by decide +kernel
theorem d_Mod_readConstants_8 : decode b_Mod_readConstants 8 = .ok (.iconst 0, 1) := by decide +kernel
theorem d_Mod_readConstants_9 : decode b_Mod_readConstants 9 = .ok (.istore_n 1, 1) := by decide +kernel
theorem d_Mod_readConstants_10 : decode b_Mod_readConstants 10 = .ok (.iload_n 1, 1) := by decide +kernel
theorem d_Mod_readConstants_11 : decode b_Mod_readConstants 11 = .ok (.sipush 620, 3) := by decide +kernel
theorem d_Mod_readConstants_14 : decode b_Mod_readConstants 14 = .ok (.if_icmp .ge 16, 3) := by decide +kernel
theorem d_Mod_readConstants_17 : decode b_Mod_readConstants 17 = .ok (.aload_n 0, 1) := by decide +kernel
theorem d_Mod_readConstants_18 : decode b_Mod_readConstants 18 = .ok (.getfield 32, 3) := by decide +kernel
theorem d_Mod_readConstants_21 : decode b_Mod_readConstants 21 = .ok (.iload_n 1, 1) := by decide +kernel
theorem d_Mod_readConstants_22 : decode b_Mod_readConstants 22 = .ok (.iconst 0, 1) := by decide +kernel
theorem d_Mod_readConstants_23 : decode b_Mod_readConstants 23 = .ok (.iastore, 1) := by decide +kernel
theorem d_Mod_readConstants_24 : decode b_Mod_readConstants 24 = .ok (.iinc 1 1, 3) := by decide +kernel
theorem d_Mod_readConstants_27 : decode b_Mod_readConstants 27 = .ok (.goto (-17), 3) := by decide +kernel
theorem d_Mod_readConstants_30 : decode b_Mod_readConstants 30 = .ok (.iconst 1, 1) := by decide +kernel
theorem d_Mod_readConstants_31 : decode b_Mod_readConstants 31 = .ok (.istore_n 1, 1) := by decide +kernel
theorem d_Mod_readConstants_32 : decode b_Mod_readConstants 32 = .ok (.iload_n 1, 1) := by decide +kernel
theorem d_Mod_readConstants_33 : decode b_Mod_readConstants 33 = .ok (.aload_n 0, 1) := by decide +kernel
theorem d_Mod_readConstants_34 : decode b_Mod_readConstants 34 = .ok (.getfield 169, 3) := by decide +kernel
theorem d_Mod_readConstants_37 : decode b_Mod_readConstants 37 = .ok (.if_icmp .ge 54, 3) := by decide +kernel
theorem d_Mod_readConstants_91 : decode b_Mod_readConstants 91 = .ok (.return_, 1) := by decide +kernel
theorem d_Mod_readMembers_0 : decode b_Mod_readMembers 0 = .ok (.aload_n 0, 1) := by decide +kernel
theorem d_Mod_readMembers_1 : decode b_Mod_readMembers 1 = .ok (.invokevirtual 172, 3) := by decide +kernel
theorem d_Mod_readMembers_4 : decode b_Mod_readMembers 4 = .ok (.istore_n 2, 1) := by decide +kernel
theorem d_Mod_readMembers_5 : decode b_Mod_readMembers 5 = .ok (.iconst 0, 1) := by decide +kernel
theorem d_Mod_readMembers_6 : decode b_Mod_readMembers 6 = .ok (.istore_n 3, 1) := by decide +kernel
theorem d_Mod_readMembers_7 : decode b_Mod_readMembers 7 = .ok (.iload_n 3, 1) := by decide +kernel
theorem d_Mod_readMembers_8 : decode b_Mod_readMembers 8 = .ok (.iload_n 2, 1) := by decide +kernel
theorem d_Mod_readMembers_9 : decode b_Mod_readMembers 9 = .ok (.if_icmp .ge 144, 3) := by decide +kernel
theorem d_Mod_readMembers_153 : decode b_Mod_readMembers 153 = .ok (.return_, 1) := by decide +kernel
theorem d_Mod_refused_0 : decode b_Mod_refused 0 = .ok (.aload_n 0, 1) := by decide +kernel
theorem d_Mod_refused_1 : decode b_Mod_refused 1 = .ok (.iload_n 1, 1) := by decide +kernel
theorem d_Mod_refused_2 : decode b_Mod_refused 2 = .ok (.putfield 133, 3) := by decide +kernel
theorem d_Mod_refused_5 : decode b_Mod_refused 5 = .ok (.iload_n 1, 1) := by decide +kernel
theorem d_Mod_refused_6 : decode b_Mod_refused 6 = .ok (.ifCond .le 7, 3) := by decide +kernel
theorem d_Mod_refused_9 : decode b_Mod_refused 9 = .ok (.iconst 1, 1) := by decide +kernel
theorem d_Mod_refused_10 : decode b_Mod_refused 10 = .ok (.goto 4, 3) := by decide +kernel
theorem d_Mod_refused_13 : decode b_Mod_refused 13 = .ok (.iconst 0, 1) := by decide +kernel
theorem d_Mod_refused_14 : decode b_Mod_refused 14 = .ok (.ireturn, 1) := by decide +kernel
theorem d_Mod_rule_0 : decode b_Mod_rule 0 = .ok (.iload_n 1, 1) := by decide +kernel
theorem d_Mod_rule_1 : decode b_Mod_rule 1 = .ok (.ifCond .eq 7, 3) := by decide +kernel
theorem d_Mod_rule_4 : decode b_Mod_rule 4 = .ok (.iconst 1, 1) := by decide +kernel
theorem d_Mod_rule_5 : decode b_Mod_rule 5 = .ok (.goto 4, 3) := by decide +kernel
theorem d_Mod_rule_8 : decode b_Mod_rule 8 = .ok (.iconst 0, 1) := by decide +kernel
theorem d_Mod_rule_9 : decode b_Mod_rule 9 = .ok (.istore_n 3, 1) := by decide +kernel
theorem d_Mod_rule_10 : decode b_Mod_rule 10 = .ok (.iload_n 2, 1) := by decide +kernel
theorem d_Mod_rule_11 : decode b_Mod_rule 11 = .ok (.iconst 1, 1) := by decide +kernel
theorem d_Mod_rule_12 : decode b_Mod_rule 12 = .ok (.bipush 40, 2) := by decide +kernel
theorem d_Mod_rule_14 : decode b_Mod_rule 14 = .ok (.invokestatic 136, 3) := by decide +kernel
theorem d_Mod_rule_17 : decode b_Mod_rule 17 = .ok (.ifCond .eq 15, 3) := by decide +kernel
theorem d_Mod_rule_20 : decode b_Mod_rule 20 = .ok (.iload_n 2, 1) := by decide +kernel
theorem d_Mod_rule_21 : decode b_Mod_rule 21 = .ok (.aload_n 0, 1) := by decide +kernel
theorem d_Mod_rule_22 : decode b_Mod_rule 22 = .ok (.getfield 140, 3) := by decide +kernel
theorem d_Mod_rule_25 : decode b_Mod_rule 25 = .ok (.if_icmp .gt 7, 3) := by decide +kernel
theorem d_Mod_rule_32 : decode b_Mod_rule 32 = .ok (.iconst 0, 1) := by decide +kernel
theorem d_Mod_rule_33 : decode b_Mod_rule 33 = .ok (.istore 4, 2) := by decide +kernel
theorem d_Mod_rule_35 : decode b_Mod_rule 35 = .ok (.aload_n 0, 1) := by decide +kernel
theorem d_Mod_rule_36 : decode b_Mod_rule 36 = .ok (.getfield 140, 3) := by decide +kernel
theorem d_Mod_rule_39 : decode b_Mod_rule 39 = .ok (.iload_n 2, 1) := by decide +kernel
theorem d_Mod_rule_40 : decode b_Mod_rule 40 = .ok (.isub, 1) := by decide +kernel
theorem d_Mod_rule_41 : decode b_Mod_rule 41 = .ok (.istore 5, 2) := by decide +kernel
theorem d_Mod_rule_43 : decode b_Mod_rule 43 = .ok (.iload 4, 2) := by decide +kernel
theorem d_Mod_rule_45 : decode b_Mod_rule 45 = .ok (.ifCond .eq 34, 3) := by decide +kernel
theorem d_Mod_rule_79 : decode b_Mod_rule 79 = .ok (.aload_n 0, 1) := by decide +kernel
theorem d_Mod_rule_80 : decode b_Mod_rule 80 = .ok (.iload 4, 2) := by decide +kernel
theorem d_Mod_rule_82 : decode b_Mod_rule 82 = .ok (.ifCond .ne 7, 3) := by decide +kernel
theorem d_Mod_rule_85 : decode b_Mod_rule 85 = .ok (.iconst 1, 1) := by decide +kernel
theorem d_Mod_rule_86 : decode b_Mod_rule 86 = .ok (.goto 19, 3) := by decide +kernel
theorem d_Mod_rule_105 : decode b_Mod_rule 105 = .ok (.invokevirtual 143, 3) := by decide +kernel
theorem d_Mod_rule_108 : decode b_Mod_rule 108 = .ok (.ifCond .eq 5, 3) := by decide +kernel
theorem d_Mod_rule_111 : decode b_Mod_rule 111 = .ok (.iconst 0, 1) := by decide +kernel
theorem d_Mod_rule_112 : decode b_Mod_rule 112 = .ok (.ireturn, 1) := by decide +kernel
theorem d_Mod_text_0 : decode b_Mod_text 0 = .ok (.aload_n 0, 1) := by decide +kernel
theorem d_Mod_text_1 : decode b_Mod_text 1 = .ok (.aload_n 0, 1) := by decide +kernel
theorem d_Mod_text_2 : decode b_Mod_text 2 = .ok (.getfield 407, 3) := by decide +kernel
theorem d_Mod_text_5 : decode b_Mod_text 5 = .ok (.ifCond .ne 7, 3) := by decide +kernel
theorem d_Mod_text_8 : decode b_Mod_text 8 = .ok (.iconst 1, 1) := by decide +kernel
theorem d_Mod_text_9 : decode b_Mod_text 9 = .ok (.goto 18, 3) := by decide +kernel
theorem d_Mod_text_27 : decode b_Mod_text 27 = .ok (.invokevirtual 143, 3) := by decide +kernel
theorem d_Mod_text_30 : decode b_Mod_text 30 = .ok (.ifCond .eq 6, 3) := by decide +kernel
theorem d_Mod_text_33 : decode b_Mod_text 33 = .ok (.bipush 32, 2) := by decide +kernel
theorem d_Mod_text_35 : decode b_Mod_text 35 = .ok (.ireturn, 1) := by decide +kernel
theorem d_Mod_thrown_0 : decode b_Mod_thrown 0 = .ok (.aload_n 0, 1) := by decide +kernel
theorem d_Mod_thrown_1 : decode b_Mod_thrown 1 = .ok (.getfield 133, 3) := by decide +kernel
theorem d_Mod_thrown_4 : decode b_Mod_thrown 4 = .ok (.ireturn, 1) := by decide +kernel
theorem d_Mod_u2_0 : decode b_Mod_u2 0 = .ok (.aload_n 0, 1) := by decide +kernel
theorem d_Mod_u2_1 : decode b_Mod_u2 1 = .ok (.iconst 2, 1) := by decide +kernel
theorem d_Mod_u2_2 : decode b_Mod_u2 2 = .ok (.invokevirtual 165, 3) := by decide +kernel
theorem d_Mod_u2_5 : decode b_Mod_u2 5 = .ok (.l2i, 1) := by decide +kernel
theorem d_Mod_u2_6 : decode b_Mod_u2 6 = .ok (.ireturn, 1) := by decide +kernel
