theorem d_Mod_readConstant_0 : decode b_Mod_readConstant 0 = .ok (.aload_n 0, 1) := by decide +kernel
theorem d_Mod_readConstant_1 : decode b_Mod_readConstant 1 = .ok (.getfield 32, 3) := by decide +kernel
theorem d_Mod_readConstant_4 : decode b_Mod_readConstant 4 = .ok (.iload_n 1, 1) := by decide +kernel
theorem d_Mod_readConstant_5 : decode b_Mod_readConstant 5 = .ok (.iload_n 2, 1) := by decide +kernel
theorem d_Mod_readConstant_6 : decode b_Mod_readConstant 6 = .ok (.iastore, 1) := by decide +kernel
theorem d_Mod_readConstant_7 : decode b_Mod_readConstant 7 = .ok (.aload_n 0, 1) := by decide +kernel
theorem d_Mod_readConstant_8 : decode b_Mod_readConstant 8 = .ok (.getfield 35, 3) := by decide +kernel
theorem d_Mod_readConstant_11 : decode b_Mod_readConstant 11 = .ok (.iload_n 1, 1) := by decide +kernel
theorem d_Mod_readConstant_12 : decode b_Mod_readConstant 12 = .ok (.iload_n 3, 1) := by decide +kernel
theorem d_Mod_readConstant_13 : decode b_Mod_readConstant 13 = .ok (.iastore, 1) := by decide +kernel
theorem d_Mod_readConstant_14 : decode b_Mod_readConstant 14 = .ok (.iload_n 2, 1) := by decide +kernel
theorem d_Mod_readConstant_15 : decode b_Mod_readConstant 15 = .ok (.iconst 1, 1) := by decide +kernel
theorem d_Mod_readConstant_16 : decode b_Mod_readConstant 16 = .ok (.if_icmp .ne 111, 3) := by decide +kernel
theorem d_Mod_readConstant_19 : decode b_Mod_readConstant 19 = .ok (.aload_n 0, 1) := by decide +kernel
theorem d_Mod_readConstant_20 : decode b_Mod_readConstant 20 = .ok (.getfield 41, 3) := by decide +kernel
theorem d_Mod_readConstant_23 : decode b_Mod_readConstant 23 = .ok (.iload_n 1, 1) := by decide +kernel
theorem d_Mod_readConstant_24 : decode b_Mod_readConstant 24 = .ok (.aload_n 0, 1) := by decide +kernel
theorem d_Mod_readConstant_25 : decode b_Mod_readConstant 25 = .ok (.invokevirtual 172, 3) := by decide +kernel
theorem d_Mod_readConstant_28 : decode b_Mod_readConstant 28 = .ok (.iastore, 1) := by decide +kernel
theorem d_Mod_readConstant_29 : decode b_Mod_readConstant 29 = .ok (.aload_n 0, 1) := by decide +kernel
theorem d_Mod_readConstant_30 : decode b_Mod_readConstant 30 = .ok (.getfield 38, 3) := by decide +kernel
theorem d_Mod_readConstant_33 : decode b_Mod_readConstant 33 = .ok (.iload_n 1, 1) := by decide +kernel
theorem d_Mod_readConstant_34 : decode b_Mod_readConstant 34 = .ok (.aload_n 0, 1) := by decide +kernel
theorem d_Mod_readConstant_35 : decode b_Mod_readConstant 35 = .ok (.aload_n 0, 1) := by decide +kernel
theorem d_Mod_readConstant_36 : decode b_Mod_readConstant 36 = .ok (.getfield 41, 3) := by decide +kernel
theorem d_Mod_readConstant_39 : decode b_Mod_readConstant 39 = .ok (.iload_n 1, 1) := by decide +kernel
theorem d_Mod_readConstant_40 : decode b_Mod_readConstant 40 = .ok (.iaload, 1) := by decide +kernel
theorem d_Mod_readConstant_41 : decode b_Mod_readConstant 41 = .ok (.i2l, 1) := by decide +kernel
theorem d_Mod_readConstant_42 : decode b_Mod_readConstant 42 = .ok (.invokevirtual 180, 3) := by decide +kernel
theorem d_Mod_readConstant_45 : decode b_Mod_readConstant 45 = .ok (.iastore, 1) := by decide +kernel
theorem d_Mod_readConstant_46 : decode b_Mod_readConstant 46 = .ok (.iconst 0, 1) := by decide +kernel
theorem d_Mod_readConstant_47 : decode b_Mod_readConstant 47 = .ok (.istore 4, 2) := by decide +kernel
theorem d_Mod_readConstant_49 : decode b_Mod_readConstant 49 = .ok (.aload_n 0, 1) := by decide +kernel
theorem d_Mod_readConstant_50 : decode b_Mod_readConstant 50 = .ok (.getfield 147, 3) := by decide +kernel
theorem d_Mod_readConstant_53 : decode b_Mod_readConstant 53 = .ok (.ifCond .ne 71, 3) := by decide +kernel
theorem d_Mod_readConstant_56 : decode b_Mod_readConstant 56 = .ok (.iload 4, 2) := by decide +kernel
theorem d_Mod_readConstant_58 : decode b_Mod_readConstant 58 = .ok (.aload_n 0, 1) := by decide +kernel
theorem d_Mod_readConstant_59 : decode b_Mod_readConstant 59 = .ok (.getfield 41, 3) := by decide +kernel
theorem d_Mod_readConstant_62 : decode b_Mod_readConstant 62 = .ok (.iload_n 1, 1) := by decide +kernel
theorem d_Mod_readConstant_63 : decode b_Mod_readConstant 63 = .ok (.iaload, 1) := by decide +kernel
theorem d_Mod_readConstant_64 : decode b_Mod_readConstant 64 = .ok (.if_icmp .ge 60, 3) := by decide +kernel
theorem d_Mod_readConstant_67 : decode b_Mod_readConstant 67 = .ok (.aload_n 0, 1) := by decide +kernel
theorem d_Mod_readConstant_68 : decode b_Mod_readConstant 68 = .ok (.getfield 7, 3) := by decide +kernel
theorem d_Mod_readConstant_71 : decode b_Mod_readConstant 71 = .ok (.aload_n 0, 1) := by decide +kernel
theorem d_Mod_readConstant_72 : decode b_Mod_readConstant 72 = .ok (.getfield 38, 3) := by decide +kernel
theorem d_Mod_readConstant_75 : decode b_Mod_readConstant 75 = .ok (.iload_n 1, 1) := by decide +kernel
theorem d_Mod_readConstant_76 : decode b_Mod_readConstant 76 = .ok (.iaload, 1) := by decide +kernel
theorem d_Mod_readConstant_77 : decode b_Mod_readConstant 77 = .ok (.iload 4, 2) := by decide +kernel
theorem d_Mod_readConstant_79 : decode b_Mod_readConstant 79 = .ok (.iadd, 1) := by decide +kernel
theorem d_Mod_readConstant_80 : decode b_Mod_readConstant 80 = .ok (.iaload, 1) := by decide +kernel
theorem d_Mod_readConstant_81 : decode b_Mod_readConstant 81 = .ok (.iconst 1, 1) := by decide +kernel
theorem d_Mod_readConstant_82 : decode b_Mod_readConstant 82 = .ok (.if_icmp .lt 22, 3) := by decide +kernel
theorem d_Mod_readConstant_85 : decode b_Mod_readConstant 85 = .ok (.aload_n 0, 1) := by decide +kernel
theorem d_Mod_readConstant_86 : decode b_Mod_readConstant 86 = .ok (.getfield 7, 3) := by decide +kernel
theorem d_Mod_readConstant_89 : decode b_Mod_readConstant 89 = .ok (.aload_n 0, 1) := by decide +kernel
theorem d_Mod_readConstant_90 : decode b_Mod_readConstant 90 = .ok (.getfield 38, 3) := by decide +kernel
theorem d_Mod_readConstant_93 : decode b_Mod_readConstant 93 = .ok (.iload_n 1, 1) := by decide +kernel
theorem d_Mod_readConstant_94 : decode b_Mod_readConstant 94 = .ok (.iaload, 1) := by decide +kernel
theorem d_Mod_readConstant_95 : decode b_Mod_readConstant 95 = .ok (.iload 4, 2) := by decide +kernel
theorem d_Mod_readConstant_97 : decode b_Mod_readConstant 97 = .ok (.iadd, 1) := by decide +kernel
theorem d_Mod_readConstant_98 : decode b_Mod_readConstant 98 = .ok (.iaload, 1) := by decide +kernel
theorem d_Mod_readConstant_99 : decode b_Mod_readConstant 99 = .ok (.bipush 127, 2) := by decide +kernel
theorem d_Mod_readConstant_101 : decode b_Mod_readConstant 101 = .ok (.if_icmp .le 17, 3) := by decide +kernel
theorem d_Mod_readConstant_104 : decode b_Mod_readConstant 104 = .ok (.aload_n 0, 1) := by decide +kernel
theorem d_Mod_readConstant_105 : decode b_Mod_readConstant 105 = .ok (.iconst 5, 1) := by decide +kernel
theorem d_Mod_readConstant_106 : decode b_Mod_readConstant 106 = .ok (.aload_n 0, 1) := by decide +kernel
theorem d_Mod_readConstant_107 : decode b_Mod_readConstant 107 = .ok (.getfield 38, 3) := by decide +kernel
theorem d_Mod_readConstant_110 : decode b_Mod_readConstant 110 = .ok (.iload_n 1, 1) := by decide +kernel
theorem d_Mod_readConstant_111 : decode b_Mod_readConstant 111 = .ok (.iaload, 1) := by decide +kernel
theorem d_Mod_readConstant_112 : decode b_Mod_readConstant 112 = .ok (.iload 4, 2) := by decide +kernel
theorem d_Mod_readConstant_114 : decode b_Mod_readConstant 114 = .ok (.iadd, 1) := by decide +kernel
theorem d_Mod_readConstant_115 : decode b_Mod_readConstant 115 = .ok (.invokevirtual 159, 3) := by decide +kernel
theorem d_Mod_readConstant_118 : decode b_Mod_readConstant 118 = .ok (.iinc 4 1, 3) := by decide +kernel
theorem d_Mod_readConstant_121 : decode b_Mod_readConstant 121 = .ok (.goto (-72), 3) := by decide +kernel
theorem d_Mod_readConstant_124 : decode b_Mod_readConstant 124 = .ok (.goto 109, 3) := by decide +kernel
theorem d_Mod_readConstant_127 : decode b_Mod_readConstant 127 = .ok (.iload_n 2, 1) := by decide +kernel
theorem d_Mod_readConstant_128 : decode b_Mod_readConstant 128 = .ok (.iconst 3, 1) := by decide +kernel
theorem d_Mod_readConstant_129 : decode b_Mod_readConstant 129 = .ok (.if_icmp .ne 12, 3) := by decide +kernel
theorem d_Mod_readConstant_132 : decode b_Mod_readConstant 132 = .ok (.aload_n 0, 1) := by decide +kernel
theorem d_Mod_readConstant_133 : decode b_Mod_readConstant 133 = .ok (.iconst 4, 1) := by decide +kernel
theorem d_Mod_readConstant_134 : decode b_Mod_readConstant 134 = .ok (.invokevirtual 165, 3) := by decide +kernel
theorem d_Mod_readConstant_137 : decode b_Mod_readConstant 137 = .ok (.pop2, 1) := by decide +kernel
theorem d_Mod_readConstant_138 : decode b_Mod_readConstant 138 = .ok (.goto 95, 3) := by decide +kernel
theorem d_Mod_readConstant_141 : decode b_Mod_readConstant 141 = .ok (.iload_n 2, 1) := by decide +kernel
theorem d_Mod_readConstant_142 : decode b_Mod_readConstant 142 = .ok (.iconst 5, 1) := by decide +kernel
theorem d_Mod_readConstant_143 : decode b_Mod_readConstant 143 = .ok (.if_icmp .ne 18, 3) := by decide +kernel
theorem d_Mod_readConstant_146 : decode b_Mod_readConstant 146 = .ok (.aload_n 0, 1) := by decide +kernel
theorem d_Mod_readConstant_147 : decode b_Mod_readConstant 147 = .ok (.iconst 4, 1) := by decide +kernel
theorem d_Mod_readConstant_148 : decode b_Mod_readConstant 148 = .ok (.invokevirtual 165, 3) := by decide +kernel
theorem d_Mod_readConstant_151 : decode b_Mod_readConstant 151 = .ok (.pop2, 1) := by decide +kernel
theorem d_Mod_readConstant_152 : decode b_Mod_readConstant 152 = .ok (.aload_n 0, 1) := by decide +kernel
theorem d_Mod_readConstant_153 : decode b_Mod_readConstant 153 = .ok (.iconst 4, 1) := by decide +kernel
theorem d_Mod_readConstant_154 : decode b_Mod_readConstant 154 = .ok (.invokevirtual 165, 3) := by decide +kernel
theorem d_Mod_readConstant_157 : decode b_Mod_readConstant 157 = .ok (.pop2, 1) := by decide +kernel
theorem d_Mod_readConstant_158 : decode b_Mod_readConstant 158 = .ok (.goto 75, 3) := by decide +kernel
theorem d_Mod_readConstant_161 : decode b_Mod_readConstant 161 = .ok (.iload_n 2, 1) := by decide +kernel
theorem d_Mod_readConstant_162 : decode b_Mod_readConstant 162 = .ok (.bipush 7, 2) := by decide +kernel
theorem d_Mod_readConstant_164 : decode b_Mod_readConstant 164 = .ok (.if_icmp .eq 9, 3) := by decide +kernel
theorem d_Mod_readConstant_167 : decode b_Mod_readConstant 167 = .ok (.iload_n 2, 1) := by decide +kernel
theorem d_Mod_readConstant_168 : decode b_Mod_readConstant 168 = .ok (.bipush 8, 2) := by decide +kernel
theorem d_Mod_readConstant_170 : decode b_Mod_readConstant 170 = .ok (.if_icmp .ne 16, 3) := by decide +kernel
theorem d_Mod_readConstant_173 : decode b_Mod_readConstant 173 = .ok (.aload_n 0, 1) := by decide +kernel
theorem d_Mod_readConstant_174 : decode b_Mod_readConstant 174 = .ok (.getfield 38, 3) := by decide +kernel
theorem d_Mod_readConstant_177 : decode b_Mod_readConstant 177 = .ok (.iload_n 1, 1) := by decide +kernel
theorem d_Mod_readConstant_178 : decode b_Mod_readConstant 178 = .ok (.aload_n 0, 1) := by decide +kernel
theorem d_Mod_readConstant_179 : decode b_Mod_readConstant 179 = .ok (.invokevirtual 172, 3) := by decide +kernel
theorem d_Mod_readConstant_182 : decode b_Mod_readConstant 182 = .ok (.iastore, 1) := by decide +kernel
theorem d_Mod_readConstant_183 : decode b_Mod_readConstant 183 = .ok (.goto 50, 3) := by decide +kernel
theorem d_Mod_readConstant_186 : decode b_Mod_readConstant 186 = .ok (.iload_n 2, 1) := by decide +kernel
theorem d_Mod_readConstant_187 : decode b_Mod_readConstant 187 = .ok (.bipush 9, 2) := by decide +kernel
theorem d_Mod_readConstant_189 : decode b_Mod_readConstant 189 = .ok (.if_icmp .eq 15, 3) := by decide +kernel
theorem d_Mod_readConstant_192 : decode b_Mod_readConstant 192 = .ok (.iload_n 2, 1) := by decide +kernel
theorem d_Mod_readConstant_193 : decode b_Mod_readConstant 193 = .ok (.bipush 10, 2) := by decide +kernel
theorem d_Mod_readConstant_195 : decode b_Mod_readConstant 195 = .ok (.if_icmp .eq 9, 3) := by decide +kernel
theorem d_Mod_readConstant_198 : decode b_Mod_readConstant 198 = .ok (.iload_n 2, 1) := by decide +kernel
theorem d_Mod_readConstant_199 : decode b_Mod_readConstant 199 = .ok (.bipush 12, 2) := by decide +kernel
theorem d_Mod_readConstant_201 : decode b_Mod_readConstant 201 = .ok (.if_icmp .ne 26, 3) := by decide +kernel
theorem d_Mod_readConstant_204 : decode b_Mod_readConstant 204 = .ok (.aload_n 0, 1) := by decide +kernel
theorem d_Mod_readConstant_205 : decode b_Mod_readConstant 205 = .ok (.getfield 38, 3) := by decide +kernel
theorem d_Mod_readConstant_208 : decode b_Mod_readConstant 208 = .ok (.iload_n 1, 1) := by decide +kernel
theorem d_Mod_readConstant_209 : decode b_Mod_readConstant 209 = .ok (.aload_n 0, 1) := by decide +kernel
theorem d_Mod_readConstant_210 : decode b_Mod_readConstant 210 = .ok (.invokevirtual 172, 3) := by decide +kernel
theorem d_Mod_readConstant_213 : decode b_Mod_readConstant 213 = .ok (.iastore, 1) := by decide +kernel
theorem d_Mod_readConstant_214 : decode b_Mod_readConstant 214 = .ok (.aload_n 0, 1) := by decide +kernel
theorem d_Mod_readConstant_215 : decode b_Mod_readConstant 215 = .ok (.getfield 41, 3) := by decide +kernel
theorem d_Mod_readConstant_218 : decode b_Mod_readConstant 218 = .ok (.iload_n 1, 1) := by decide +kernel
theorem d_Mod_readConstant_219 : decode b_Mod_readConstant 219 = .ok (.aload_n 0, 1) := by decide +kernel
theorem d_Mod_readConstant_220 : decode b_Mod_readConstant 220 = .ok (.invokevirtual 172, 3) := by decide +kernel
theorem d_Mod_readConstant_223 : decode b_Mod_readConstant 223 = .ok (.iastore, 1) := by decide +kernel
theorem d_Mod_readConstant_224 : decode b_Mod_readConstant 224 = .ok (.goto 9, 3) := by decide +kernel
theorem d_Mod_readConstant_227 : decode b_Mod_readConstant 227 = .ok (.aload_n 0, 1) := by decide +kernel
theorem d_Mod_readConstant_228 : decode b_Mod_readConstant 228 = .ok (.iconst 4, 1) := by decide +kernel
theorem d_Mod_readConstant_229 : decode b_Mod_readConstant 229 = .ok (.iload_n 3, 1) := by decide +kernel
theorem d_Mod_readConstant_230 : decode b_Mod_readConstant 230 = .ok (.invokevirtual 159, 3) := by decide +kernel
theorem d_Mod_readConstant_233 : decode b_Mod_readConstant 233 = .ok (.return_, 1) := by decide +kernel
theorem d_Mod_readConstants_40 : decode b_Mod_readConstants 40 = .ok (.aload_n 0, 1) := by decide +kernel
theorem d_Mod_readConstants_41 : decode b_Mod_readConstants 41 = .ok (.getfield 147, 3) := by decide +kernel
theorem d_Mod_readConstants_44 : decode b_Mod_readConstants 44 = .ok (.ifCond .ne 47, 3) := by decide +kernel
theorem d_Mod_readConstants_47 : decode b_Mod_readConstants 47 = .ok (.aload_n 0, 1) := by decide +kernel
theorem d_Mod_readConstants_48 : decode b_Mod_readConstants 48 = .ok (.getfield 150, 3) := by decide +kernel
theorem d_Mod_readConstants_51 : decode b_Mod_readConstants 51 = .ok (.istore_n 2, 1) := by decide +kernel
theorem d_Mod_readConstants_52 : decode b_Mod_readConstants 52 = .ok (.aload_n 0, 1) := by decide +kernel
theorem d_Mod_readConstants_53 : decode b_Mod_readConstants 53 = .ok (.iconst 1, 1) := by decide +kernel
theorem d_Mod_readConstants_54 : decode b_Mod_readConstants 54 = .ok (.invokevirtual 165, 3) := by decide +kernel
theorem d_Mod_readConstants_57 : decode b_Mod_readConstants 57 = .ok (.l2i, 1) := by decide +kernel
theorem d_Mod_readConstants_58 : decode b_Mod_readConstants 58 = .ok (.istore_n 3, 1) := by decide +kernel
theorem d_Mod_readConstants_59 : decode b_Mod_readConstants 59 = .ok (.aload_n 0, 1) := by decide +kernel
theorem d_Mod_readConstants_60 : decode b_Mod_readConstants 60 = .ok (.getfield 147, 3) := by decide +kernel
theorem d_Mod_readConstants_63 : decode b_Mod_readConstants 63 = .ok (.ifCond .ne 10, 3) := by decide +kernel
theorem d_Mod_readConstants_66 : decode b_Mod_readConstants 66 = .ok (.aload_n 0, 1) := by decide +kernel
theorem d_Mod_readConstants_67 : decode b_Mod_readConstants 67 = .ok (.iload_n 1, 1) := by decide +kernel
theorem d_Mod_readConstants_68 : decode b_Mod_readConstants 68 = .ok (.iload_n 3, 1) := by decide +kernel
theorem d_Mod_readConstants_69 : decode b_Mod_readConstants 69 = .ok (.iload_n 2, 1) := by decide +kernel
theorem d_Mod_readConstants_70 : decode b_Mod_readConstants 70 = .ok (.invokevirtual 176, 3) := by decide +kernel
theorem d_Mod_readConstants_73 : decode b_Mod_readConstants 73 = .ok (.iload_n 3, 1) := by decide +kernel
theorem d_Mod_readConstants_74 : decode b_Mod_readConstants 74 = .ok (.iconst 5, 1) := by decide +kernel
theorem d_Mod_readConstants_75 : decode b_Mod_readConstants 75 = .ok (.if_icmp .ne 9, 3) := by decide +kernel
theorem d_Mod_readConstants_78 : decode b_Mod_readConstants 78 = .ok (.iload_n 1, 1) := by decide +kernel
theorem d_Mod_readConstants_79 : decode b_Mod_readConstants 79 = .ok (.iconst 2, 1) := by decide +kernel
theorem d_Mod_readConstants_80 : decode b_Mod_readConstants 80 = .ok (.iadd, 1) := by decide +kernel
theorem d_Mod_readConstants_81 : decode b_Mod_readConstants 81 = .ok (.goto 6, 3) := by decide +kernel
theorem d_Mod_readConstants_84 : decode b_Mod_readConstants 84 = .ok (.iload_n 1, 1) := by decide +kernel
theorem d_Mod_readConstants_85 : decode b_Mod_readConstants 85 = .ok (.iconst 1, 1) := by decide +kernel
theorem d_Mod_readConstants_86 : decode b_Mod_readConstants 86 = .ok (.iadd, 1) := by decide +kernel
theorem d_Mod_readConstants_87 : decode b_Mod_readConstants 87 = .ok (.istore_n 1, 1) := by decide +kernel
theorem d_Mod_readConstants_88 : decode b_Mod_readConstants 88 = .ok (.goto (-56), 3) := by decide +kernel
