theorem d_Mod_linkConstant_0 : decode b_Mod_linkConstant 0 = .ok (.aload_n 0, 1) := by decide +kernel
theorem d_Mod_linkConstant_1 : decode b_Mod_linkConstant 1 = .ok (.getfield 32, 3) := by decide +kernel
theorem d_Mod_linkConstant_4 : decode b_Mod_linkConstant 4 = .ok (.iload_n 1, 1) := by decide +kernel
theorem d_Mod_linkConstant_5 : decode b_Mod_linkConstant 5 = .ok (.iaload, 1) := by decide +kernel
theorem d_Mod_linkConstant_6 : decode b_Mod_linkConstant 6 = .ok (.istore_n 2, 1) := by decide +kernel
theorem d_Mod_linkConstant_7 : decode b_Mod_linkConstant 7 = .ok (.aload_n 0, 1) := by decide +kernel
theorem d_Mod_linkConstant_8 : decode b_Mod_linkConstant 8 = .ok (.getfield 38, 3) := by decide +kernel
theorem d_Mod_linkConstant_11 : decode b_Mod_linkConstant 11 = .ok (.iload_n 1, 1) := by decide +kernel
theorem d_Mod_linkConstant_12 : decode b_Mod_linkConstant 12 = .ok (.iaload, 1) := by decide +kernel
theorem d_Mod_linkConstant_13 : decode b_Mod_linkConstant 13 = .ok (.istore_n 3, 1) := by decide +kernel
theorem d_Mod_linkConstant_14 : decode b_Mod_linkConstant 14 = .ok (.aload_n 0, 1) := by decide +kernel
theorem d_Mod_linkConstant_15 : decode b_Mod_linkConstant 15 = .ok (.getfield 41, 3) := by decide +kernel
theorem d_Mod_linkConstant_18 : decode b_Mod_linkConstant 18 = .ok (.iload_n 1, 1) := by decide +kernel
theorem d_Mod_linkConstant_19 : decode b_Mod_linkConstant 19 = .ok (.iaload, 1) := by decide +kernel
theorem d_Mod_linkConstant_20 : decode b_Mod_linkConstant 20 = .ok (.istore 4, 2) := by decide +kernel
theorem d_Mod_linkConstant_22 : decode b_Mod_linkConstant 22 = .ok (.iload_n 2, 1) := by decide +kernel
theorem d_Mod_linkConstant_23 : decode b_Mod_linkConstant 23 = .ok (.bipush 7, 2) := by decide +kernel
theorem d_Mod_linkConstant_25 : decode b_Mod_linkConstant 25 = .ok (.if_icmp .eq 9, 3) := by decide +kernel
theorem d_Mod_linkConstant_28 : decode b_Mod_linkConstant 28 = .ok (.iload_n 2, 1) := by decide +kernel
theorem d_Mod_linkConstant_29 : decode b_Mod_linkConstant 29 = .ok (.bipush 8, 2) := by decide +kernel
theorem d_Mod_linkConstant_31 : decode b_Mod_linkConstant 31 = .ok (.if_icmp .ne 12, 3) := by decide +kernel
theorem d_Mod_linkConstant_34 : decode b_Mod_linkConstant 34 = .ok (.aload_n 0, 1) := by decide +kernel
theorem d_Mod_linkConstant_35 : decode b_Mod_linkConstant 35 = .ok (.iload_n 3, 1) := by decide +kernel
theorem d_Mod_linkConstant_36 : decode b_Mod_linkConstant 36 = .ok (.iconst 1, 1) := by decide +kernel
theorem d_Mod_linkConstant_37 : decode b_Mod_linkConstant 37 = .ok (.invokevirtual 184, 3) := by decide +kernel
theorem d_Mod_linkConstant_40 : decode b_Mod_linkConstant 40 = .ok (.goto 74, 3) := by decide +kernel
theorem d_Mod_linkConstant_43 : decode b_Mod_linkConstant 43 = .ok (.iload_n 2, 1) := by decide +kernel
theorem d_Mod_linkConstant_44 : decode b_Mod_linkConstant 44 = .ok (.bipush 9, 2) := by decide +kernel
theorem d_Mod_linkConstant_46 : decode b_Mod_linkConstant 46 = .ok (.if_icmp .eq 9, 3) := by decide +kernel
theorem d_Mod_linkConstant_49 : decode b_Mod_linkConstant 49 = .ok (.iload_n 2, 1) := by decide +kernel
theorem d_Mod_linkConstant_50 : decode b_Mod_linkConstant 50 = .ok (.bipush 10, 2) := by decide +kernel
theorem d_Mod_linkConstant_52 : decode b_Mod_linkConstant 52 = .ok (.if_icmp .ne 32, 3) := by decide +kernel
theorem d_Mod_linkConstant_55 : decode b_Mod_linkConstant 55 = .ok (.aload_n 0, 1) := by decide +kernel
theorem d_Mod_linkConstant_56 : decode b_Mod_linkConstant 56 = .ok (.iload_n 3, 1) := by decide +kernel
theorem d_Mod_linkConstant_57 : decode b_Mod_linkConstant 57 = .ok (.bipush 7, 2) := by decide +kernel
theorem d_Mod_linkConstant_59 : decode b_Mod_linkConstant 59 = .ok (.invokevirtual 184, 3) := by decide +kernel
theorem d_Mod_linkConstant_62 : decode b_Mod_linkConstant 62 = .ok (.ifCond .eq 18, 3) := by decide +kernel
theorem d_Mod_linkConstant_65 : decode b_Mod_linkConstant 65 = .ok (.aload_n 0, 1) := by decide +kernel
theorem d_Mod_linkConstant_66 : decode b_Mod_linkConstant 66 = .ok (.iload 4, 2) := by decide +kernel
theorem d_Mod_linkConstant_68 : decode b_Mod_linkConstant 68 = .ok (.bipush 12, 2) := by decide +kernel
theorem d_Mod_linkConstant_70 : decode b_Mod_linkConstant 70 = .ok (.invokevirtual 184, 3) := by decide +kernel
theorem d_Mod_linkConstant_73 : decode b_Mod_linkConstant 73 = .ok (.ifCond .eq 7, 3) := by decide +kernel
theorem d_Mod_linkConstant_76 : decode b_Mod_linkConstant 76 = .ok (.iconst 1, 1) := by decide +kernel
theorem d_Mod_linkConstant_77 : decode b_Mod_linkConstant 77 = .ok (.goto 37, 3) := by decide +kernel
theorem d_Mod_linkConstant_80 : decode b_Mod_linkConstant 80 = .ok (.iconst 0, 1) := by decide +kernel
theorem d_Mod_linkConstant_81 : decode b_Mod_linkConstant 81 = .ok (.goto 33, 3) := by decide +kernel
theorem d_Mod_linkConstant_84 : decode b_Mod_linkConstant 84 = .ok (.iload_n 2, 1) := by decide +kernel
theorem d_Mod_linkConstant_85 : decode b_Mod_linkConstant 85 = .ok (.bipush 12, 2) := by decide +kernel
theorem d_Mod_linkConstant_87 : decode b_Mod_linkConstant 87 = .ok (.if_icmp .ne 22, 3) := by decide +kernel
theorem d_Mod_linkConstant_90 : decode b_Mod_linkConstant 90 = .ok (.aload_n 0, 1) := by decide +kernel
theorem d_Mod_linkConstant_91 : decode b_Mod_linkConstant 91 = .ok (.iload_n 3, 1) := by decide +kernel
theorem d_Mod_linkConstant_92 : decode b_Mod_linkConstant 92 = .ok (.iconst 1, 1) := by decide +kernel
theorem d_Mod_linkConstant_93 : decode b_Mod_linkConstant 93 = .ok (.invokevirtual 184, 3) := by decide +kernel
theorem d_Mod_linkConstant_96 : decode b_Mod_linkConstant 96 = .ok (.ifCond .eq 17, 3) := by decide +kernel
theorem d_Mod_linkConstant_99 : decode b_Mod_linkConstant 99 = .ok (.aload_n 0, 1) := by decide +kernel
theorem d_Mod_linkConstant_100 : decode b_Mod_linkConstant 100 = .ok (.iload 4, 2) := by decide +kernel
theorem d_Mod_linkConstant_102 : decode b_Mod_linkConstant 102 = .ok (.iconst 1, 1) := by decide +kernel
theorem d_Mod_linkConstant_103 : decode b_Mod_linkConstant 103 = .ok (.invokevirtual 184, 3) := by decide +kernel
theorem d_Mod_linkConstant_106 : decode b_Mod_linkConstant 106 = .ok (.ifCond .eq 7, 3) := by decide +kernel
theorem d_Mod_linkConstant_109 : decode b_Mod_linkConstant 109 = .ok (.iconst 1, 1) := by decide +kernel
theorem d_Mod_linkConstant_110 : decode b_Mod_linkConstant 110 = .ok (.goto 4, 3) := by decide +kernel
theorem d_Mod_linkConstant_113 : decode b_Mod_linkConstant 113 = .ok (.iconst 0, 1) := by decide +kernel
theorem d_Mod_linkConstant_114 : decode b_Mod_linkConstant 114 = .ok (.istore 5, 2) := by decide +kernel
theorem d_Mod_linkConstant_116 : decode b_Mod_linkConstant 116 = .ok (.iload 5, 2) := by decide +kernel
theorem d_Mod_linkConstant_118 : decode b_Mod_linkConstant 118 = .ok (.ifCond .ne 18, 3) := by decide +kernel
theorem d_Mod_linkConstant_121 : decode b_Mod_linkConstant 121 = .ok (.aload_n 0, 1) := by decide +kernel
theorem d_Mod_linkConstant_122 : decode b_Mod_linkConstant 122 = .ok (.bipush 6, 2) := by decide +kernel
theorem d_Mod_linkConstant_124 : decode b_Mod_linkConstant 124 = .ok (.aload_n 0, 1) := by decide +kernel
theorem d_Mod_linkConstant_125 : decode b_Mod_linkConstant 125 = .ok (.getfield 35, 3) := by decide +kernel
theorem d_Mod_linkConstant_128 : decode b_Mod_linkConstant 128 = .ok (.iload_n 1, 1) := by decide +kernel
theorem d_Mod_linkConstant_129 : decode b_Mod_linkConstant 129 = .ok (.iaload, 1) := by decide +kernel
theorem d_Mod_linkConstant_130 : decode b_Mod_linkConstant 130 = .ok (.invokevirtual 159, 3) := by decide +kernel
theorem d_Mod_linkConstant_133 : decode b_Mod_linkConstant 133 = .ok (.goto 147, 3) := by decide +kernel
theorem d_Mod_linkConstant_136 : decode b_Mod_linkConstant 136 = .ok (.iload_n 2, 1) := by decide +kernel
theorem d_Mod_linkConstant_137 : decode b_Mod_linkConstant 137 = .ok (.bipush 7, 2) := by decide +kernel
theorem d_Mod_linkConstant_139 : decode b_Mod_linkConstant 139 = .ok (.if_icmp .ne 36, 3) := by decide +kernel
theorem d_Mod_linkConstant_142 : decode b_Mod_linkConstant 142 = .ok (.aload_n 0, 1) := by decide +kernel
theorem d_Mod_linkConstant_143 : decode b_Mod_linkConstant 143 = .ok (.aload_n 0, 1) := by decide +kernel
theorem d_Mod_linkConstant_144 : decode b_Mod_linkConstant 144 = .ok (.getfield 38, 3) := by decide +kernel
theorem d_Mod_linkConstant_147 : decode b_Mod_linkConstant 147 = .ok (.iload_n 3, 1) := by decide +kernel
theorem d_Mod_linkConstant_148 : decode b_Mod_linkConstant 148 = .ok (.iaload, 1) := by decide +kernel
theorem d_Mod_linkConstant_149 : decode b_Mod_linkConstant 149 = .ok (.aload_n 0, 1) := by decide +kernel
theorem d_Mod_linkConstant_150 : decode b_Mod_linkConstant 150 = .ok (.iload_n 3, 1) := by decide +kernel
theorem d_Mod_linkConstant_151 : decode b_Mod_linkConstant 151 = .ok (.invokevirtual 254, 3) := by decide +kernel
theorem d_Mod_linkConstant_154 : decode b_Mod_linkConstant 154 = .ok (.invokevirtual 244, 3) := by decide +kernel
theorem d_Mod_linkConstant_157 : decode b_Mod_linkConstant 157 = .ok (.ifCond .ne 18, 3) := by decide +kernel
theorem d_Mod_linkConstant_160 : decode b_Mod_linkConstant 160 = .ok (.aload_n 0, 1) := by decide +kernel
theorem d_Mod_linkConstant_161 : decode b_Mod_linkConstant 161 = .ok (.bipush 10, 2) := by decide +kernel
theorem d_Mod_linkConstant_163 : decode b_Mod_linkConstant 163 = .ok (.aload_n 0, 1) := by decide +kernel
theorem d_Mod_linkConstant_164 : decode b_Mod_linkConstant 164 = .ok (.getfield 35, 3) := by decide +kernel
theorem d_Mod_linkConstant_167 : decode b_Mod_linkConstant 167 = .ok (.iload_n 1, 1) := by decide +kernel
theorem d_Mod_linkConstant_168 : decode b_Mod_linkConstant 168 = .ok (.iaload, 1) := by decide +kernel
theorem d_Mod_linkConstant_169 : decode b_Mod_linkConstant 169 = .ok (.invokevirtual 159, 3) := by decide +kernel
theorem d_Mod_linkConstant_172 : decode b_Mod_linkConstant 172 = .ok (.goto 108, 3) := by decide +kernel
theorem d_Mod_linkConstant_175 : decode b_Mod_linkConstant 175 = .ok (.iload_n 2, 1) := by decide +kernel
theorem d_Mod_linkConstant_176 : decode b_Mod_linkConstant 176 = .ok (.bipush 12, 2) := by decide +kernel
theorem d_Mod_linkConstant_178 : decode b_Mod_linkConstant 178 = .ok (.if_icmp .ne 44, 3) := by decide +kernel
theorem d_Mod_linkConstant_181 : decode b_Mod_linkConstant 181 = .ok (.aload_n 0, 1) := by decide +kernel
theorem d_Mod_linkConstant_182 : decode b_Mod_linkConstant 182 = .ok (.aload_n 0, 1) := by decide +kernel
theorem d_Mod_linkConstant_183 : decode b_Mod_linkConstant 183 = .ok (.getfield 38, 3) := by decide +kernel
theorem d_Mod_linkConstant_186 : decode b_Mod_linkConstant 186 = .ok (.iload_n 3, 1) := by decide +kernel
theorem d_Mod_linkConstant_187 : decode b_Mod_linkConstant 187 = .ok (.iaload, 1) := by decide +kernel
theorem d_Mod_linkConstant_188 : decode b_Mod_linkConstant 188 = .ok (.aload_n 0, 1) := by decide +kernel
theorem d_Mod_linkConstant_189 : decode b_Mod_linkConstant 189 = .ok (.iload_n 3, 1) := by decide +kernel
theorem d_Mod_linkConstant_190 : decode b_Mod_linkConstant 190 = .ok (.invokevirtual 254, 3) := by decide +kernel
theorem d_Mod_linkConstant_193 : decode b_Mod_linkConstant 193 = .ok (.invokevirtual 241, 3) := by decide +kernel
theorem d_Mod_linkConstant_196 : decode b_Mod_linkConstant 196 = .ok (.ifCond .ne 26, 3) := by decide +kernel
theorem d_Mod_linkConstant_199 : decode b_Mod_linkConstant 199 = .ok (.aload_n 0, 1) := by decide +kernel
theorem d_Mod_linkConstant_200 : decode b_Mod_linkConstant 200 = .ok (.iload_n 3, 1) := by decide +kernel
theorem d_Mod_linkConstant_201 : decode b_Mod_linkConstant 201 = .ok (.invokevirtual 258, 3) := by decide +kernel
theorem d_Mod_linkConstant_204 : decode b_Mod_linkConstant 204 = .ok (.ifCond .ne 18, 3) := by decide +kernel
theorem d_Mod_linkConstant_207 : decode b_Mod_linkConstant 207 = .ok (.aload_n 0, 1) := by decide +kernel
theorem d_Mod_linkConstant_208 : decode b_Mod_linkConstant 208 = .ok (.bipush 10, 2) := by decide +kernel
theorem d_Mod_linkConstant_210 : decode b_Mod_linkConstant 210 = .ok (.aload_n 0, 1) := by decide +kernel
theorem d_Mod_linkConstant_211 : decode b_Mod_linkConstant 211 = .ok (.getfield 35, 3) := by decide +kernel
theorem d_Mod_linkConstant_214 : decode b_Mod_linkConstant 214 = .ok (.iload_n 1, 1) := by decide +kernel
theorem d_Mod_linkConstant_215 : decode b_Mod_linkConstant 215 = .ok (.iaload, 1) := by decide +kernel
theorem d_Mod_linkConstant_216 : decode b_Mod_linkConstant 216 = .ok (.invokevirtual 159, 3) := by decide +kernel
theorem d_Mod_linkConstant_219 : decode b_Mod_linkConstant 219 = .ok (.goto 61, 3) := by decide +kernel
theorem d_Mod_linkConstant_222 : decode b_Mod_linkConstant 222 = .ok (.iload_n 2, 1) := by decide +kernel
theorem d_Mod_linkConstant_223 : decode b_Mod_linkConstant 223 = .ok (.bipush 12, 2) := by decide +kernel
theorem d_Mod_linkConstant_225 : decode b_Mod_linkConstant 225 = .ok (.if_icmp .ne 55, 3) := by decide +kernel
theorem d_Mod_linkConstant_228 : decode b_Mod_linkConstant 228 = .ok (.aload_n 0, 1) := by decide +kernel
theorem d_Mod_linkConstant_229 : decode b_Mod_linkConstant 229 = .ok (.aload_n 0, 1) := by decide +kernel
theorem d_Mod_linkConstant_230 : decode b_Mod_linkConstant 230 = .ok (.getfield 38, 3) := by decide +kernel
theorem d_Mod_linkConstant_233 : decode b_Mod_linkConstant 233 = .ok (.iload 4, 2) := by decide +kernel
theorem d_Mod_linkConstant_235 : decode b_Mod_linkConstant 235 = .ok (.iaload, 1) := by decide +kernel
theorem d_Mod_linkConstant_236 : decode b_Mod_linkConstant 236 = .ok (.aload_n 0, 1) := by decide +kernel
theorem d_Mod_linkConstant_237 : decode b_Mod_linkConstant 237 = .ok (.iload 4, 2) := by decide +kernel
theorem d_Mod_linkConstant_239 : decode b_Mod_linkConstant 239 = .ok (.invokevirtual 254, 3) := by decide +kernel
theorem d_Mod_linkConstant_242 : decode b_Mod_linkConstant 242 = .ok (.invokevirtual 251, 3) := by decide +kernel
theorem d_Mod_linkConstant_245 : decode b_Mod_linkConstant 245 = .ok (.ifCond .ne 35, 3) := by decide +kernel
theorem d_Mod_linkConstant_248 : decode b_Mod_linkConstant 248 = .ok (.aload_n 0, 1) := by decide +kernel
theorem d_Mod_linkConstant_249 : decode b_Mod_linkConstant 249 = .ok (.aload_n 0, 1) := by decide +kernel
theorem d_Mod_linkConstant_250 : decode b_Mod_linkConstant 250 = .ok (.getfield 38, 3) := by decide +kernel
theorem d_Mod_linkConstant_253 : decode b_Mod_linkConstant 253 = .ok (.iload 4, 2) := by decide +kernel
theorem d_Mod_linkConstant_255 : decode b_Mod_linkConstant 255 = .ok (.iaload, 1) := by decide +kernel
theorem d_Mod_linkConstant_256 : decode b_Mod_linkConstant 256 = .ok (.aload_n 0, 1) := by decide +kernel
theorem d_Mod_linkConstant_257 : decode b_Mod_linkConstant 257 = .ok (.iload 4, 2) := by decide +kernel
theorem d_Mod_linkConstant_259 : decode b_Mod_linkConstant 259 = .ok (.invokevirtual 254, 3) := by decide +kernel
theorem d_Mod_linkConstant_262 : decode b_Mod_linkConstant 262 = .ok (.invokevirtual 261, 3) := by decide +kernel
theorem d_Mod_linkConstant_265 : decode b_Mod_linkConstant 265 = .ok (.ifCond .ne 15, 3) := by decide +kernel
theorem d_Mod_linkConstant_268 : decode b_Mod_linkConstant 268 = .ok (.aload_n 0, 1) := by decide +kernel
theorem d_Mod_linkConstant_269 : decode b_Mod_linkConstant 269 = .ok (.bipush 11, 2) := by decide +kernel
theorem d_Mod_linkConstant_271 : decode b_Mod_linkConstant 271 = .ok (.aload_n 0, 1) := by decide +kernel
theorem d_Mod_linkConstant_272 : decode b_Mod_linkConstant 272 = .ok (.getfield 35, 3) := by decide +kernel
theorem d_Mod_linkConstant_275 : decode b_Mod_linkConstant 275 = .ok (.iload_n 1, 1) := by decide +kernel
theorem d_Mod_linkConstant_276 : decode b_Mod_linkConstant 276 = .ok (.iaload, 1) := by decide +kernel
theorem d_Mod_linkConstant_277 : decode b_Mod_linkConstant 277 = .ok (.invokevirtual 159, 3) := by decide +kernel
theorem d_Mod_linkConstant_280 : decode b_Mod_linkConstant 280 = .ok (.return_, 1) := by decide +kernel
