theorem d_Mod_firstFrame_0 : decode b_Mod_firstFrame 0 = .ok (.iconst 0, 1) := by decide +kernel
theorem d_Mod_firstFrame_1 : decode b_Mod_firstFrame 1 = .ok (.istore_n 2, 1) := by decide +kernel
theorem d_Mod_firstFrame_2 : decode b_Mod_firstFrame 2 = .ok (.iload_n 2, 1) := by decide +kernel
theorem d_Mod_firstFrame_3 : decode b_Mod_firstFrame 3 = .ok (.sipush 128, 3) := by decide +kernel
theorem d_Mod_firstFrame_6 : decode b_Mod_firstFrame 6 = .ok (.if_icmp .ge 16, 3) := by decide +kernel
theorem d_Mod_firstFrame_9 : decode b_Mod_firstFrame 9 = .ok (.aload_n 0, 1) := by decide +kernel
theorem d_Mod_firstFrame_10 : decode b_Mod_firstFrame 10 = .ok (.getfield 100, 3) := by decide +kernel
theorem d_Mod_firstFrame_13 : decode b_Mod_firstFrame 13 = .ok (.iload_n 2, 1) := by decide +kernel
theorem d_Mod_firstFrame_14 : decode b_Mod_firstFrame 14 = .ok (.iconst 0, 1) := by decide +kernel
theorem d_Mod_firstFrame_15 : decode b_Mod_firstFrame 15 = .ok (.iastore, 1) := by decide +kernel
theorem d_Mod_firstFrame_16 : decode b_Mod_firstFrame 16 = .ok (.iinc 2 1, 3) := by decide +kernel
theorem d_Mod_firstFrame_19 : decode b_Mod_firstFrame 19 = .ok (.goto (-17), 3) := by decide +kernel
theorem d_Mod_firstFrame_22 : decode b_Mod_firstFrame 22 = .ok (.aload_n 0, 1) := by decide +kernel
theorem d_Mod_firstFrame_23 : decode b_Mod_firstFrame 23 = .ok (.aload_n 0, 1) := by decide +kernel
theorem d_Mod_firstFrame_24 : decode b_Mod_firstFrame 24 = .ok (.getfield 59, 3) := by decide +kernel
theorem d_Mod_firstFrame_27 : decode b_Mod_firstFrame 27 = .ok (.iload_n 1, 1) := by decide +kernel
theorem d_Mod_firstFrame_28 : decode b_Mod_firstFrame 28 = .ok (.iaload, 1) := by decide +kernel
theorem d_Mod_firstFrame_29 : decode b_Mod_firstFrame 29 = .ok (.invokevirtual 333, 3) := by decide +kernel
theorem d_Mod_firstFrame_32 : decode b_Mod_firstFrame 32 = .ok (.iconst 0, 1) := by decide +kernel
theorem d_Mod_firstFrame_33 : decode b_Mod_firstFrame 33 = .ok (.istore_n 2, 1) := by decide +kernel
theorem d_Mod_firstFrame_34 : decode b_Mod_firstFrame 34 = .ok (.iconst 1, 1) := by decide +kernel
theorem d_Mod_firstFrame_35 : decode b_Mod_firstFrame 35 = .ok (.istore_n 3, 1) := by decide +kernel
theorem d_Mod_firstFrame_36 : decode b_Mod_firstFrame 36 = .ok (.aload_n 0, 1) := by decide +kernel
theorem d_Mod_firstFrame_37 : decode b_Mod_firstFrame 37 = .ok (.getfield 50, 3) := by decide +kernel
theorem d_Mod_firstFrame_40 : decode b_Mod_firstFrame 40 = .ok (.iload_n 1, 1) := by decide +kernel
theorem d_Mod_firstFrame_41 : decode b_Mod_firstFrame 41 = .ok (.iaload, 1) := by decide +kernel
theorem d_Mod_firstFrame_42 : decode b_Mod_firstFrame 42 = .ok (.bipush 8, 2) := by decide +kernel
theorem d_Mod_firstFrame_44 : decode b_Mod_firstFrame 44 = .ok (.iand, 1) := by decide +kernel
theorem d_Mod_firstFrame_45 : decode b_Mod_firstFrame 45 = .ok (.ifCond .eq 7, 3) := by decide +kernel
theorem d_Mod_firstFrame_48 : decode b_Mod_firstFrame 48 = .ok (.iconst 0, 1) := by decide +kernel
theorem d_Mod_firstFrame_49 : decode b_Mod_firstFrame 49 = .ok (.goto 4, 3) := by decide +kernel
theorem d_Mod_firstFrame_52 : decode b_Mod_firstFrame 52 = .ok (.iconst (-1), 1) := by decide +kernel
theorem d_Mod_firstFrame_53 : decode b_Mod_firstFrame 53 = .ok (.istore 4, 2) := by decide +kernel
theorem d_Mod_firstFrame_55 : decode b_Mod_firstFrame 55 = .ok (.iload 4, 2) := by decide +kernel
theorem d_Mod_firstFrame_57 : decode b_Mod_firstFrame 57 = .ok (.aload_n 0, 1) := by decide +kernel
theorem d_Mod_firstFrame_58 : decode b_Mod_firstFrame 58 = .ok (.getfield 300, 3) := by decide +kernel
theorem d_Mod_firstFrame_61 : decode b_Mod_firstFrame 61 = .ok (.if_icmp .ge 113, 3) := by decide +kernel
theorem d_Mod_firstFrame_64 : decode b_Mod_firstFrame 64 = .ok (.iload 4, 2) := by decide +kernel
theorem d_Mod_firstFrame_66 : decode b_Mod_firstFrame 66 = .ok (.ifCond .ge 7, 3) := by decide +kernel
theorem d_Mod_firstFrame_69 : decode b_Mod_firstFrame 69 = .ok (.iconst 4, 1) := by decide +kernel
theorem d_Mod_firstFrame_70 : decode b_Mod_firstFrame 70 = .ok (.goto 10, 3) := by decide +kernel
theorem d_Mod_firstFrame_73 : decode b_Mod_firstFrame 73 = .ok (.aload_n 0, 1) := by decide +kernel
theorem d_Mod_firstFrame_74 : decode b_Mod_firstFrame 74 = .ok (.getfield 106, 3) := by decide +kernel
theorem d_Mod_firstFrame_77 : decode b_Mod_firstFrame 77 = .ok (.iload 4, 2) := by decide +kernel
theorem d_Mod_firstFrame_79 : decode b_Mod_firstFrame 79 = .ok (.iaload, 1) := by decide +kernel
theorem d_Mod_firstFrame_80 : decode b_Mod_firstFrame 80 = .ok (.istore 5, 2) := by decide +kernel
theorem d_Mod_firstFrame_82 : decode b_Mod_firstFrame 82 = .ok (.iload 5, 2) := by decide +kernel
theorem d_Mod_firstFrame_84 : decode b_Mod_firstFrame 84 = .ok (.iconst 2, 1) := by decide +kernel
theorem d_Mod_firstFrame_85 : decode b_Mod_firstFrame 85 = .ok (.if_icmp .eq 10, 3) := by decide +kernel
theorem d_Mod_firstFrame_88 : decode b_Mod_firstFrame 88 = .ok (.iload 5, 2) := by decide +kernel
theorem d_Mod_firstFrame_90 : decode b_Mod_firstFrame 90 = .ok (.bipush 9, 2) := by decide +kernel
theorem d_Mod_firstFrame_92 : decode b_Mod_firstFrame 92 = .ok (.if_icmp .le 7, 3) := by decide +kernel
theorem d_Mod_firstFrame_95 : decode b_Mod_firstFrame 95 = .ok (.iconst 2, 1) := by decide +kernel
theorem d_Mod_firstFrame_96 : decode b_Mod_firstFrame 96 = .ok (.goto 4, 3) := by decide +kernel
theorem d_Mod_firstFrame_99 : decode b_Mod_firstFrame 99 = .ok (.iconst 1, 1) := by decide +kernel
theorem d_Mod_firstFrame_100 : decode b_Mod_firstFrame 100 = .ok (.istore 6, 2) := by decide +kernel
theorem d_Mod_firstFrame_102 : decode b_Mod_firstFrame 102 = .ok (.iload_n 3, 1) := by decide +kernel
theorem d_Mod_firstFrame_103 : decode b_Mod_firstFrame 103 = .ok (.ifCond .eq 20, 3) := by decide +kernel
theorem d_Mod_firstFrame_106 : decode b_Mod_firstFrame 106 = .ok (.iload_n 2, 1) := by decide +kernel
theorem d_Mod_firstFrame_107 : decode b_Mod_firstFrame 107 = .ok (.iload 6, 2) := by decide +kernel
theorem d_Mod_firstFrame_109 : decode b_Mod_firstFrame 109 = .ok (.iadd, 1) := by decide +kernel
theorem d_Mod_firstFrame_110 : decode b_Mod_firstFrame 110 = .ok (.aload_n 0, 1) := by decide +kernel
theorem d_Mod_firstFrame_111 : decode b_Mod_firstFrame 111 = .ok (.getfield 68, 3) := by decide +kernel
theorem d_Mod_firstFrame_114 : decode b_Mod_firstFrame 114 = .ok (.iload_n 1, 1) := by decide +kernel
theorem d_Mod_firstFrame_115 : decode b_Mod_firstFrame 115 = .ok (.iaload, 1) := by decide +kernel
theorem d_Mod_firstFrame_116 : decode b_Mod_firstFrame 116 = .ok (.if_icmp .gt 7, 3) := by decide +kernel
theorem d_Mod_firstFrame_119 : decode b_Mod_firstFrame 119 = .ok (.iconst 1, 1) := by decide +kernel
theorem d_Mod_firstFrame_120 : decode b_Mod_firstFrame 120 = .ok (.goto 4, 3) := by decide +kernel
theorem d_Mod_firstFrame_123 : decode b_Mod_firstFrame 123 = .ok (.iconst 0, 1) := by decide +kernel
theorem d_Mod_firstFrame_124 : decode b_Mod_firstFrame 124 = .ok (.istore_n 3, 1) := by decide +kernel
theorem d_Mod_firstFrame_125 : decode b_Mod_firstFrame 125 = .ok (.iload_n 3, 1) := by decide +kernel
theorem d_Mod_firstFrame_126 : decode b_Mod_firstFrame 126 = .ok (.ifCond .eq 37, 3) := by decide +kernel
theorem d_Mod_firstFrame_129 : decode b_Mod_firstFrame 129 = .ok (.aload_n 0, 1) := by decide +kernel
theorem d_Mod_firstFrame_130 : decode b_Mod_firstFrame 130 = .ok (.getfield 100, 3) := by decide +kernel
theorem d_Mod_firstFrame_133 : decode b_Mod_firstFrame 133 = .ok (.iload_n 2, 1) := by decide +kernel
theorem d_Mod_firstFrame_134 : decode b_Mod_firstFrame 134 = .ok (.iload 5, 2) := by decide +kernel
theorem d_Mod_firstFrame_136 : decode b_Mod_firstFrame 136 = .ok (.bipush 9, 2) := by decide +kernel
theorem d_Mod_firstFrame_138 : decode b_Mod_firstFrame 138 = .ok (.if_icmp .lt 7, 3) := by decide +kernel
theorem d_Mod_firstFrame_141 : decode b_Mod_firstFrame 141 = .ok (.iconst 0, 1) := by decide +kernel
theorem d_Mod_firstFrame_142 : decode b_Mod_firstFrame 142 = .ok (.goto 5, 3) := by decide +kernel
theorem d_Mod_firstFrame_145 : decode b_Mod_firstFrame 145 = .ok (.iload 5, 2) := by decide +kernel
theorem d_Mod_firstFrame_147 : decode b_Mod_firstFrame 147 = .ok (.iastore, 1) := by decide +kernel
theorem d_Mod_firstFrame_148 : decode b_Mod_firstFrame 148 = .ok (.iload 5, 2) := by decide +kernel
theorem d_Mod_firstFrame_150 : decode b_Mod_firstFrame 150 = .ok (.iconst 2, 1) := by decide +kernel
theorem d_Mod_firstFrame_151 : decode b_Mod_firstFrame 151 = .ok (.if_icmp .ne 12, 3) := by decide +kernel
theorem d_Mod_firstFrame_154 : decode b_Mod_firstFrame 154 = .ok (.aload_n 0, 1) := by decide +kernel
theorem d_Mod_firstFrame_155 : decode b_Mod_firstFrame 155 = .ok (.getfield 100, 3) := by decide +kernel
theorem d_Mod_firstFrame_158 : decode b_Mod_firstFrame 158 = .ok (.iload_n 2, 1) := by decide +kernel
theorem d_Mod_firstFrame_159 : decode b_Mod_firstFrame 159 = .ok (.iconst 1, 1) := by decide +kernel
theorem d_Mod_firstFrame_160 : decode b_Mod_firstFrame 160 = .ok (.iadd, 1) := by decide +kernel
theorem d_Mod_firstFrame_161 : decode b_Mod_firstFrame 161 = .ok (.iconst 3, 1) := by decide +kernel
theorem d_Mod_firstFrame_162 : decode b_Mod_firstFrame 162 = .ok (.iastore, 1) := by decide +kernel
theorem d_Mod_firstFrame_163 : decode b_Mod_firstFrame 163 = .ok (.iload_n 2, 1) := by decide +kernel
theorem d_Mod_firstFrame_164 : decode b_Mod_firstFrame 164 = .ok (.iload 6, 2) := by decide +kernel
theorem d_Mod_firstFrame_166 : decode b_Mod_firstFrame 166 = .ok (.iadd, 1) := by decide +kernel
theorem d_Mod_firstFrame_167 : decode b_Mod_firstFrame 167 = .ok (.istore_n 2, 1) := by decide +kernel
theorem d_Mod_firstFrame_168 : decode b_Mod_firstFrame 168 = .ok (.iinc 4 1, 3) := by decide +kernel
theorem d_Mod_firstFrame_171 : decode b_Mod_firstFrame 171 = .ok (.goto (-116), 3) := by decide +kernel
theorem d_Mod_firstFrame_174 : decode b_Mod_firstFrame 174 = .ok (.iload_n 3, 1) := by decide +kernel
theorem d_Mod_firstFrame_175 : decode b_Mod_firstFrame 175 = .ok (.ifCond .ne 16, 3) := by decide +kernel
theorem d_Mod_firstFrame_178 : decode b_Mod_firstFrame 178 = .ok (.aload_n 0, 1) := by decide +kernel
theorem d_Mod_firstFrame_179 : decode b_Mod_firstFrame 179 = .ok (.bipush 21, 2) := by decide +kernel
theorem d_Mod_firstFrame_181 : decode b_Mod_firstFrame 181 = .ok (.aload_n 0, 1) := by decide +kernel
theorem d_Mod_firstFrame_182 : decode b_Mod_firstFrame 182 = .ok (.getfield 53, 3) := by decide +kernel
theorem d_Mod_firstFrame_185 : decode b_Mod_firstFrame 185 = .ok (.iload_n 1, 1) := by decide +kernel
theorem d_Mod_firstFrame_186 : decode b_Mod_firstFrame 186 = .ok (.iaload, 1) := by decide +kernel
theorem d_Mod_firstFrame_187 : decode b_Mod_firstFrame 187 = .ok (.invokevirtual 159, 3) := by decide +kernel
theorem d_Mod_firstFrame_190 : decode b_Mod_firstFrame 190 = .ok (.return_, 1) := by decide +kernel
theorem d_Mod_firstFrame_191 : decode b_Mod_firstFrame 191 = .ok (.aload_n 0, 1) := by decide +kernel
theorem d_Mod_firstFrame_192 : decode b_Mod_firstFrame 192 = .ok (.aload_n 0, 1) := by decide +kernel
theorem d_Mod_firstFrame_193 : decode b_Mod_firstFrame 193 = .ok (.getfield 71, 3) := by decide +kernel
theorem d_Mod_firstFrame_196 : decode b_Mod_firstFrame 196 = .ok (.iload_n 1, 1) := by decide +kernel
theorem d_Mod_firstFrame_197 : decode b_Mod_firstFrame 197 = .ok (.iaload, 1) := by decide +kernel
theorem d_Mod_firstFrame_198 : decode b_Mod_firstFrame 198 = .ok (.aload_n 0, 1) := by decide +kernel
theorem d_Mod_firstFrame_199 : decode b_Mod_firstFrame 199 = .ok (.getfield 100, 3) := by decide +kernel
theorem d_Mod_firstFrame_202 : decode b_Mod_firstFrame 202 = .ok (.iconst 0, 1) := by decide +kernel
theorem d_Mod_firstFrame_203 : decode b_Mod_firstFrame 203 = .ok (.invokevirtual 376, 3) := by decide +kernel
theorem d_Mod_firstFrame_206 : decode b_Mod_firstFrame 206 = .ok (.return_, 1) := by decide +kernel
