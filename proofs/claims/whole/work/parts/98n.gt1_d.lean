theorem d_Verifier_goThrough_0 : decode b_Verifier_goThrough 0 = .ok (.aload_n 0, 1) := by decide +kernel
theorem d_Verifier_goThrough_1 : decode b_Verifier_goThrough 1 = .ok (.getfield 42, 3) := by decide +kernel
theorem d_Verifier_goThrough_4 : decode b_Verifier_goThrough 4 = .ok (.iload_n 1, 1) := by decide +kernel
theorem d_Verifier_goThrough_5 : decode b_Verifier_goThrough 5 = .ok (.aload_n 0, 1) := by decide +kernel
theorem d_Verifier_goThrough_6 : decode b_Verifier_goThrough 6 = .ok (.getfield 20, 3) := by decide +kernel
theorem d_Verifier_goThrough_9 : decode b_Verifier_goThrough 9 = .ok (.invokevirtual 139, 3) := by decide +kernel
theorem d_Verifier_goThrough_12 : decode b_Verifier_goThrough 12 = .ok (.aload_n 0, 1) := by decide +kernel
theorem d_Verifier_goThrough_13 : decode b_Verifier_goThrough 13 = .ok (.getfield 42, 3) := by decide +kernel
theorem d_Verifier_goThrough_16 : decode b_Verifier_goThrough 16 = .ok (.iload_n 1, 1) := by decide +kernel
theorem d_Verifier_goThrough_17 : decode b_Verifier_goThrough 17 = .ok (.aload_n 0, 1) := by decide +kernel
theorem d_Verifier_goThrough_18 : decode b_Verifier_goThrough 18 = .ok (.getfield 12, 3) := by decide +kernel
theorem d_Verifier_goThrough_21 : decode b_Verifier_goThrough 21 = .ok (.invokevirtual 143, 3) := by decide +kernel
theorem d_Verifier_goThrough_24 : decode b_Verifier_goThrough 24 = .ok (.aload_n 0, 1) := by decide +kernel
theorem d_Verifier_goThrough_25 : decode b_Verifier_goThrough 25 = .ok (.getfield 12, 3) := by decide +kernel
theorem d_Verifier_goThrough_28 : decode b_Verifier_goThrough 28 = .ok (.iload_n 1, 1) := by decide +kernel
theorem d_Verifier_goThrough_29 : decode b_Verifier_goThrough 29 = .ok (.invokevirtual 147, 3) := by decide +kernel
theorem d_Verifier_goThrough_32 : decode b_Verifier_goThrough 32 = .ok (.istore_n 2, 1) := by decide +kernel
theorem d_Verifier_goThrough_33 : decode b_Verifier_goThrough 33 = .ok (.iload_n 2, 1) := by decide +kernel
theorem d_Verifier_goThrough_34 : decode b_Verifier_goThrough 34 = .ok (.ifCond .ne 9, 3) := by decide +kernel
theorem d_Verifier_goThrough_37 : decode b_Verifier_goThrough 37 = .ok (.aload_n 0, 1) := by decide +kernel
theorem d_Verifier_goThrough_38 : decode b_Verifier_goThrough 38 = .ok (.iload_n 1, 1) := by decide +kernel
theorem d_Verifier_goThrough_39 : decode b_Verifier_goThrough 39 = .ok (.invokevirtual 150, 3) := by decide +kernel
theorem d_Verifier_goThrough_42 : decode b_Verifier_goThrough 42 = .ok (.istore_n 2, 1) := by decide +kernel
theorem d_Verifier_goThrough_43 : decode b_Verifier_goThrough 43 = .ok (.iload_n 2, 1) := by decide +kernel
theorem d_Verifier_goThrough_44 : decode b_Verifier_goThrough 44 = .ok (.ifCond .eq 5, 3) := by decide +kernel
theorem d_Verifier_goThrough_47 : decode b_Verifier_goThrough 47 = .ok (.iload_n 2, 1) := by decide +kernel
theorem d_Verifier_goThrough_48 : decode b_Verifier_goThrough 48 = .ok (.ireturn, 1) := by decide +kernel
theorem d_Verifier_goThrough_49 : decode b_Verifier_goThrough 49 = .ok (.aload_n 0, 1) := by decide +kernel
theorem d_Verifier_goThrough_50 : decode b_Verifier_goThrough 50 = .ok (.getfield 12, 3) := by decide +kernel
theorem d_Verifier_goThrough_53 : decode b_Verifier_goThrough 53 = .ok (.aload_n 0, 1) := by decide +kernel
theorem d_Verifier_goThrough_54 : decode b_Verifier_goThrough 54 = .ok (.getfield 24, 3) := by decide +kernel
theorem d_Verifier_goThrough_57 : decode b_Verifier_goThrough 57 = .ok (.invokestatic 92, 3) := by decide +kernel
theorem d_Verifier_goThrough_60 : decode b_Verifier_goThrough 60 = .ok (.aload_n 0, 1) := by decide +kernel
theorem d_Verifier_goThrough_61 : decode b_Verifier_goThrough 61 = .ok (.getfield 37, 3) := by decide +kernel
theorem d_Verifier_goThrough_64 : decode b_Verifier_goThrough 64 = .ok (.iload_n 1, 1) := by decide +kernel
theorem d_Verifier_goThrough_65 : decode b_Verifier_goThrough 65 = .ok (.invokevirtual 108, 3) := by decide +kernel
theorem d_Verifier_goThrough_68 : decode b_Verifier_goThrough 68 = .ok (.istore_n 3, 1) := by decide +kernel
theorem d_Verifier_goThrough_69 : decode b_Verifier_goThrough 69 = .ok (.iload_n 3, 1) := by decide +kernel
theorem d_Verifier_goThrough_70 : decode b_Verifier_goThrough 70 = .ok (.invokestatic 153, 3) := by decide +kernel
theorem d_Verifier_goThrough_73 : decode b_Verifier_goThrough 73 = .ok (.ifCond .eq 46, 3) := by decide +kernel
theorem d_Verifier_goThrough_76 : decode b_Verifier_goThrough 76 = .ok (.iload_n 1, 1) := by decide +kernel
theorem d_Verifier_goThrough_77 : decode b_Verifier_goThrough 77 = .ok (.iload_n 3, 1) := by decide +kernel
theorem d_Verifier_goThrough_78 : decode b_Verifier_goThrough 78 = .ok (.invokestatic 113, 3) := by decide +kernel
theorem d_Verifier_goThrough_81 : decode b_Verifier_goThrough 81 = .ok (.iadd, 1) := by decide +kernel
theorem d_Verifier_goThrough_82 : decode b_Verifier_goThrough 82 = .ok (.istore 4, 2) := by decide +kernel
theorem d_Verifier_goThrough_84 : decode b_Verifier_goThrough 84 = .ok (.iload 4, 2) := by decide +kernel
theorem d_Verifier_goThrough_86 : decode b_Verifier_goThrough 86 = .ok (.aload_n 0, 1) := by decide +kernel
theorem d_Verifier_goThrough_87 : decode b_Verifier_goThrough 87 = .ok (.getfield 68, 3) := by decide +kernel
theorem d_Verifier_goThrough_90 : decode b_Verifier_goThrough 90 = .ok (.if_icmp .lt 8, 3) := by decide +kernel
theorem d_Verifier_goThrough_93 : decode b_Verifier_goThrough 93 = .ok (.bipush 19, 2) := by decide +kernel
theorem d_Verifier_goThrough_95 : decode b_Verifier_goThrough 95 = .ok (.goto 23, 3) := by decide +kernel
theorem d_Verifier_goThrough_98 : decode b_Verifier_goThrough 98 = .ok (.aload_n 0, 1) := by decide +kernel
theorem d_Verifier_goThrough_99 : decode b_Verifier_goThrough 99 = .ok (.getfield 42, 3) := by decide +kernel
theorem d_Verifier_goThrough_102 : decode b_Verifier_goThrough 102 = .ok (.iload 4, 2) := by decide +kernel
theorem d_Verifier_goThrough_104 : decode b_Verifier_goThrough 104 = .ok (.aload_n 0, 1) := by decide +kernel
theorem d_Verifier_goThrough_105 : decode b_Verifier_goThrough 105 = .ok (.getfield 24, 3) := by decide +kernel
theorem d_Verifier_goThrough_108 : decode b_Verifier_goThrough 108 = .ok (.aload_n 0, 1) := by decide +kernel
theorem d_Verifier_goThrough_109 : decode b_Verifier_goThrough 109 = .ok (.getfield 12, 3) := by decide +kernel
theorem d_Verifier_goThrough_112 : decode b_Verifier_goThrough 112 = .ok (.getfield 156, 3) := by decide +kernel
theorem d_Verifier_goThrough_115 : decode b_Verifier_goThrough 115 = .ok (.invokevirtual 96, 3) := by decide +kernel
theorem d_Verifier_goThrough_118 : decode b_Verifier_goThrough 118 = .ok (.istore_n 2, 1) := by decide +kernel
theorem d_Verifier_goThrough_119 : decode b_Verifier_goThrough 119 = .ok (.iload_n 2, 1) := by decide +kernel
theorem d_Verifier_goThrough_120 : decode b_Verifier_goThrough 120 = .ok (.ifCond .ne 10, 3) := by decide +kernel
theorem d_Verifier_goThrough_123 : decode b_Verifier_goThrough 123 = .ok (.iload_n 3, 1) := by decide +kernel
theorem d_Verifier_goThrough_124 : decode b_Verifier_goThrough 124 = .ok (.invokestatic 159, 3) := by decide +kernel
theorem d_Verifier_goThrough_127 : decode b_Verifier_goThrough 127 = .ok (.ifCond .ne 5, 3) := by decide +kernel
theorem d_Verifier_goThrough_130 : decode b_Verifier_goThrough 130 = .ok (.iload_n 2, 1) := by decide +kernel
theorem d_Verifier_goThrough_131 : decode b_Verifier_goThrough 131 = .ok (.ireturn, 1) := by decide +kernel
theorem d_Verifier_goThrough_132 : decode b_Verifier_goThrough 132 = .ok (.iload_n 1, 1) := by decide +kernel
theorem d_Verifier_goThrough_133 : decode b_Verifier_goThrough 133 = .ok (.aload_n 0, 1) := by decide +kernel
theorem d_Verifier_goThrough_134 : decode b_Verifier_goThrough 134 = .ok (.getfield 37, 3) := by decide +kernel
theorem d_Verifier_goThrough_137 : decode b_Verifier_goThrough 137 = .ok (.iload_n 1, 1) := by decide +kernel
theorem d_Verifier_goThrough_138 : decode b_Verifier_goThrough 138 = .ok (.iconst 1, 1) := by decide +kernel
theorem d_Verifier_goThrough_139 : decode b_Verifier_goThrough 139 = .ok (.iadd, 1) := by decide +kernel
theorem d_Verifier_goThrough_140 : decode b_Verifier_goThrough 140 = .ok (.invokevirtual 123, 3) := by decide +kernel
theorem d_Verifier_goThrough_143 : decode b_Verifier_goThrough 143 = .ok (.i2s, 1) := by decide +kernel
theorem d_Verifier_goThrough_144 : decode b_Verifier_goThrough 144 = .ok (.iadd, 1) := by decide +kernel
theorem d_Verifier_goThrough_145 : decode b_Verifier_goThrough 145 = .ok (.istore 4, 2) := by decide +kernel
theorem d_Verifier_goThrough_147 : decode b_Verifier_goThrough 147 = .ok (.aload_n 0, 1) := by decide +kernel
theorem d_Verifier_goThrough_148 : decode b_Verifier_goThrough 148 = .ok (.iload 4, 2) := by decide +kernel
theorem d_Verifier_goThrough_150 : decode b_Verifier_goThrough 150 = .ok (.invokevirtual 133, 3) := by decide +kernel
theorem d_Verifier_goThrough_153 : decode b_Verifier_goThrough 153 = .ok (.ifCond .eq 26, 3) := by decide +kernel
theorem d_Verifier_goThrough_156 : decode b_Verifier_goThrough 156 = .ok (.aload_n 0, 1) := by decide +kernel
theorem d_Verifier_goThrough_157 : decode b_Verifier_goThrough 157 = .ok (.getfield 42, 3) := by decide +kernel
theorem d_Verifier_goThrough_160 : decode b_Verifier_goThrough 160 = .ok (.iload 4, 2) := by decide +kernel
theorem d_Verifier_goThrough_162 : decode b_Verifier_goThrough 162 = .ok (.aload_n 0, 1) := by decide +kernel
theorem d_Verifier_goThrough_163 : decode b_Verifier_goThrough 163 = .ok (.getfield 24, 3) := by decide +kernel
theorem d_Verifier_goThrough_166 : decode b_Verifier_goThrough 166 = .ok (.aload_n 0, 1) := by decide +kernel
theorem d_Verifier_goThrough_167 : decode b_Verifier_goThrough 167 = .ok (.getfield 12, 3) := by decide +kernel
theorem d_Verifier_goThrough_170 : decode b_Verifier_goThrough 170 = .ok (.getfield 156, 3) := by decide +kernel
theorem d_Verifier_goThrough_173 : decode b_Verifier_goThrough 173 = .ok (.invokevirtual 96, 3) := by decide +kernel
theorem d_Verifier_goThrough_176 : decode b_Verifier_goThrough 176 = .ok (.goto 5, 3) := by decide +kernel
theorem d_Verifier_goThrough_179 : decode b_Verifier_goThrough 179 = .ok (.bipush 24, 2) := by decide +kernel
theorem d_Verifier_goThrough_181 : decode b_Verifier_goThrough 181 = .ok (.ireturn, 1) := by decide +kernel
