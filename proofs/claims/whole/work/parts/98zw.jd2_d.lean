theorem d_Mod_judge_0 : decode b_Mod_judge 0 = .ok (.aload_n 0, 1) := by decide +kernel
theorem d_Mod_judge_1 : decode b_Mod_judge 1 = .ok (.getfield 205, 3) := by decide +kernel
theorem d_Mod_judge_4 : decode b_Mod_judge 4 = .ok (.aload_n 0, 1) := by decide +kernel
theorem d_Mod_judge_5 : decode b_Mod_judge 5 = .ok (.getfield 232, 3) := by decide +kernel
theorem d_Mod_judge_8 : decode b_Mod_judge 8 = .ok (.isub, 1) := by decide +kernel
theorem d_Mod_judge_9 : decode b_Mod_judge 9 = .ok (.aload_n 0, 1) := by decide +kernel
theorem d_Mod_judge_10 : decode b_Mod_judge 10 = .ok (.getfield 22, 3) := by decide +kernel
theorem d_Mod_judge_13 : decode b_Mod_judge 13 = .ok (.if_icmp .le 14, 3) := by decide +kernel
theorem d_Mod_judge_16 : decode b_Mod_judge 16 = .ok (.aload_n 0, 1) := by decide +kernel
theorem d_Mod_judge_17 : decode b_Mod_judge 17 = .ok (.bipush 13, 2) := by decide +kernel
theorem d_Mod_judge_19 : decode b_Mod_judge 19 = .ok (.aload_n 0, 1) := by decide +kernel
theorem d_Mod_judge_20 : decode b_Mod_judge 20 = .ok (.getfield 235, 3) := by decide +kernel
theorem d_Mod_judge_23 : decode b_Mod_judge 23 = .ok (.invokevirtual 159, 3) := by decide +kernel
theorem d_Mod_judge_26 : decode b_Mod_judge 26 = .ok (.return_, 1) := by decide +kernel
theorem d_Mod_judge_27 : decode b_Mod_judge 27 = .ok (.aload_n 0, 1) := by decide +kernel
theorem d_Mod_judge_28 : decode b_Mod_judge 28 = .ok (.aload_n 0, 1) := by decide +kernel
theorem d_Mod_judge_29 : decode b_Mod_judge 29 = .ok (.getfield 38, 3) := by decide +kernel
theorem d_Mod_judge_32 : decode b_Mod_judge 32 = .ok (.aload_n 0, 1) := by decide +kernel
theorem d_Mod_judge_33 : decode b_Mod_judge 33 = .ok (.getfield 219, 3) := by decide +kernel
theorem d_Mod_judge_36 : decode b_Mod_judge 36 = .ok (.iaload, 1) := by decide +kernel
theorem d_Mod_judge_37 : decode b_Mod_judge 37 = .ok (.iconst 0, 1) := by decide +kernel
theorem d_Mod_judge_38 : decode b_Mod_judge 38 = .ok (.invokevirtual 279, 3) := by decide +kernel
theorem d_Mod_judge_41 : decode b_Mod_judge 41 = .ok (.ifCond .eq 13, 3) := by decide +kernel
theorem d_Mod_judge_44 : decode b_Mod_judge 44 = .ok (.aload_n 0, 1) := by decide +kernel
theorem d_Mod_judge_45 : decode b_Mod_judge 45 = .ok (.bipush 14, 2) := by decide +kernel
theorem d_Mod_judge_47 : decode b_Mod_judge 47 = .ok (.aload_n 0, 1) := by decide +kernel
theorem d_Mod_judge_48 : decode b_Mod_judge 48 = .ok (.getfield 216, 3) := by decide +kernel
theorem d_Mod_judge_51 : decode b_Mod_judge 51 = .ok (.invokevirtual 159, 3) := by decide +kernel
theorem d_Mod_judge_54 : decode b_Mod_judge 54 = .ok (.iconst 1, 1) := by decide +kernel
theorem d_Mod_judge_55 : decode b_Mod_judge 55 = .ok (.istore_n 1, 1) := by decide +kernel
theorem d_Mod_judge_56 : decode b_Mod_judge 56 = .ok (.iload_n 1, 1) := by decide +kernel
theorem d_Mod_judge_57 : decode b_Mod_judge 57 = .ok (.aload_n 0, 1) := by decide +kernel
theorem d_Mod_judge_58 : decode b_Mod_judge 58 = .ok (.getfield 169, 3) := by decide +kernel
theorem d_Mod_judge_61 : decode b_Mod_judge 61 = .ok (.if_icmp .ge 96, 3) := by decide +kernel
theorem d_Mod_judge_64 : decode b_Mod_judge 64 = .ok (.aload_n 0, 1) := by decide +kernel
theorem d_Mod_judge_65 : decode b_Mod_judge 65 = .ok (.getfield 147, 3) := by decide +kernel
theorem d_Mod_judge_68 : decode b_Mod_judge 68 = .ok (.ifCond .ne 89, 3) := by decide +kernel
theorem d_Mod_judge_71 : decode b_Mod_judge 71 = .ok (.aload_n 0, 1) := by decide +kernel
theorem d_Mod_judge_72 : decode b_Mod_judge 72 = .ok (.getfield 32, 3) := by decide +kernel
theorem d_Mod_judge_75 : decode b_Mod_judge 75 = .ok (.iload_n 1, 1) := by decide +kernel
theorem d_Mod_judge_76 : decode b_Mod_judge 76 = .ok (.iaload, 1) := by decide +kernel
theorem d_Mod_judge_77 : decode b_Mod_judge 77 = .ok (.bipush 9, 2) := by decide +kernel
theorem d_Mod_judge_79 : decode b_Mod_judge 79 = .ok (.if_icmp .eq 14, 3) := by decide +kernel
theorem d_Mod_judge_82 : decode b_Mod_judge 82 = .ok (.aload_n 0, 1) := by decide +kernel
theorem d_Mod_judge_83 : decode b_Mod_judge 83 = .ok (.getfield 32, 3) := by decide +kernel
theorem d_Mod_judge_86 : decode b_Mod_judge 86 = .ok (.iload_n 1, 1) := by decide +kernel
theorem d_Mod_judge_87 : decode b_Mod_judge 87 = .ok (.iaload, 1) := by decide +kernel
theorem d_Mod_judge_88 : decode b_Mod_judge 88 = .ok (.bipush 10, 2) := by decide +kernel
theorem d_Mod_judge_90 : decode b_Mod_judge 90 = .ok (.if_icmp .ne 61, 3) := by decide +kernel
theorem d_Mod_judge_93 : decode b_Mod_judge 93 = .ok (.aload_n 0, 1) := by decide +kernel
theorem d_Mod_judge_94 : decode b_Mod_judge 94 = .ok (.aload_n 0, 1) := by decide +kernel
theorem d_Mod_judge_95 : decode b_Mod_judge 95 = .ok (.getfield 38, 3) := by decide +kernel
theorem d_Mod_judge_98 : decode b_Mod_judge 98 = .ok (.aload_n 0, 1) := by decide +kernel
theorem d_Mod_judge_99 : decode b_Mod_judge 99 = .ok (.getfield 38, 3) := by decide +kernel
theorem d_Mod_judge_102 : decode b_Mod_judge 102 = .ok (.iload_n 1, 1) := by decide +kernel
theorem d_Mod_judge_103 : decode b_Mod_judge 103 = .ok (.iaload, 1) := by decide +kernel
theorem d_Mod_judge_104 : decode b_Mod_judge 104 = .ok (.iaload, 1) := by decide +kernel
theorem d_Mod_judge_105 : decode b_Mod_judge 105 = .ok (.aload_n 0, 1) := by decide +kernel
theorem d_Mod_judge_106 : decode b_Mod_judge 106 = .ok (.getfield 38, 3) := by decide +kernel
theorem d_Mod_judge_109 : decode b_Mod_judge 109 = .ok (.aload_n 0, 1) := by decide +kernel
theorem d_Mod_judge_110 : decode b_Mod_judge 110 = .ok (.getfield 219, 3) := by decide +kernel
theorem d_Mod_judge_113 : decode b_Mod_judge 113 = .ok (.iaload, 1) := by decide +kernel
theorem d_Mod_judge_114 : decode b_Mod_judge 114 = .ok (.invokevirtual 267, 3) := by decide +kernel
theorem d_Mod_judge_117 : decode b_Mod_judge 117 = .ok (.ifCond .ne 34, 3) := by decide +kernel
theorem d_Mod_judge_120 : decode b_Mod_judge 120 = .ok (.aload_n 0, 1) := by decide +kernel
theorem d_Mod_judge_121 : decode b_Mod_judge 121 = .ok (.aload_n 0, 1) := by decide +kernel
theorem d_Mod_judge_122 : decode b_Mod_judge 122 = .ok (.getfield 38, 3) := by decide +kernel
theorem d_Mod_judge_125 : decode b_Mod_judge 125 = .ok (.aload_n 0, 1) := by decide +kernel
theorem d_Mod_judge_126 : decode b_Mod_judge 126 = .ok (.getfield 38, 3) := by decide +kernel
theorem d_Mod_judge_129 : decode b_Mod_judge 129 = .ok (.iload_n 1, 1) := by decide +kernel
theorem d_Mod_judge_130 : decode b_Mod_judge 130 = .ok (.iaload, 1) := by decide +kernel
theorem d_Mod_judge_131 : decode b_Mod_judge 131 = .ok (.iaload, 1) := by decide +kernel
theorem d_Mod_judge_132 : decode b_Mod_judge 132 = .ok (.iconst 1, 1) := by decide +kernel
theorem d_Mod_judge_133 : decode b_Mod_judge 133 = .ok (.invokevirtual 279, 3) := by decide +kernel
theorem d_Mod_judge_136 : decode b_Mod_judge 136 = .ok (.ifCond .ne 15, 3) := by decide +kernel
theorem d_Mod_judge_139 : decode b_Mod_judge 139 = .ok (.aload_n 0, 1) := by decide +kernel
theorem d_Mod_judge_140 : decode b_Mod_judge 140 = .ok (.bipush 15, 2) := by decide +kernel
theorem d_Mod_judge_142 : decode b_Mod_judge 142 = .ok (.aload_n 0, 1) := by decide +kernel
theorem d_Mod_judge_143 : decode b_Mod_judge 143 = .ok (.getfield 35, 3) := by decide +kernel
theorem d_Mod_judge_146 : decode b_Mod_judge 146 = .ok (.iload_n 1, 1) := by decide +kernel
theorem d_Mod_judge_147 : decode b_Mod_judge 147 = .ok (.iaload, 1) := by decide +kernel
theorem d_Mod_judge_148 : decode b_Mod_judge 148 = .ok (.invokevirtual 159, 3) := by decide +kernel
theorem d_Mod_judge_151 : decode b_Mod_judge 151 = .ok (.iinc 1 1, 3) := by decide +kernel
theorem d_Mod_judge_154 : decode b_Mod_judge 154 = .ok (.goto (-98), 3) := by decide +kernel
theorem d_Mod_judge_157 : decode b_Mod_judge 157 = .ok (.aload_n 0, 1) := by decide +kernel
theorem d_Mod_judge_158 : decode b_Mod_judge 158 = .ok (.getfield 232, 3) := by decide +kernel
theorem d_Mod_judge_161 : decode b_Mod_judge 161 = .ok (.istore_n 1, 1) := by decide +kernel
theorem d_Mod_judge_162 : decode b_Mod_judge 162 = .ok (.iload_n 1, 1) := by decide +kernel
theorem d_Mod_judge_163 : decode b_Mod_judge 163 = .ok (.aload_n 0, 1) := by decide +kernel
theorem d_Mod_judge_164 : decode b_Mod_judge 164 = .ok (.getfield 205, 3) := by decide +kernel
theorem d_Mod_judge_167 : decode b_Mod_judge 167 = .ok (.if_icmp .ge 123, 3) := by decide +kernel
theorem d_Mod_judge_170 : decode b_Mod_judge 170 = .ok (.aload_n 0, 1) := by decide +kernel
theorem d_Mod_judge_171 : decode b_Mod_judge 171 = .ok (.getfield 147, 3) := by decide +kernel
theorem d_Mod_judge_174 : decode b_Mod_judge 174 = .ok (.ifCond .ne 116, 3) := by decide +kernel
theorem d_Mod_judge_177 : decode b_Mod_judge 177 = .ok (.aload_n 0, 1) := by decide +kernel
theorem d_Mod_judge_178 : decode b_Mod_judge 178 = .ok (.getfield 50, 3) := by decide +kernel
theorem d_Mod_judge_181 : decode b_Mod_judge 181 = .ok (.iload_n 1, 1) := by decide +kernel
theorem d_Mod_judge_182 : decode b_Mod_judge 182 = .ok (.iaload, 1) := by decide +kernel
theorem d_Mod_judge_183 : decode b_Mod_judge 183 = .ok (.sipush 256, 3) := by decide +kernel
theorem d_Mod_judge_186 : decode b_Mod_judge 186 = .ok (.iand, 1) := by decide +kernel
theorem d_Mod_judge_187 : decode b_Mod_judge 187 = .ok (.ifCond .eq 18, 3) := by decide +kernel
theorem d_Mod_judge_190 : decode b_Mod_judge 190 = .ok (.aload_n 0, 1) := by decide +kernel
theorem d_Mod_judge_191 : decode b_Mod_judge 191 = .ok (.bipush 16, 2) := by decide +kernel
theorem d_Mod_judge_193 : decode b_Mod_judge 193 = .ok (.aload_n 0, 1) := by decide +kernel
theorem d_Mod_judge_194 : decode b_Mod_judge 194 = .ok (.getfield 53, 3) := by decide +kernel
theorem d_Mod_judge_197 : decode b_Mod_judge 197 = .ok (.iload_n 1, 1) := by decide +kernel
theorem d_Mod_judge_198 : decode b_Mod_judge 198 = .ok (.iaload, 1) := by decide +kernel
theorem d_Mod_judge_199 : decode b_Mod_judge 199 = .ok (.invokevirtual 159, 3) := by decide +kernel
theorem d_Mod_judge_202 : decode b_Mod_judge 202 = .ok (.goto 82, 3) := by decide +kernel
theorem d_Mod_judge_205 : decode b_Mod_judge 205 = .ok (.aload_n 0, 1) := by decide +kernel
theorem d_Mod_judge_206 : decode b_Mod_judge 206 = .ok (.iload_n 1, 1) := by decide +kernel
theorem d_Mod_judge_207 : decode b_Mod_judge 207 = .ok (.invokevirtual 282, 3) := by decide +kernel
theorem d_Mod_judge_210 : decode b_Mod_judge 210 = .ok (.ifCond .eq 18, 3) := by decide +kernel
theorem d_Mod_judge_213 : decode b_Mod_judge 213 = .ok (.aload_n 0, 1) := by decide +kernel
theorem d_Mod_judge_214 : decode b_Mod_judge 214 = .ok (.bipush 17, 2) := by decide +kernel
theorem d_Mod_judge_216 : decode b_Mod_judge 216 = .ok (.aload_n 0, 1) := by decide +kernel
theorem d_Mod_judge_217 : decode b_Mod_judge 217 = .ok (.getfield 53, 3) := by decide +kernel
theorem d_Mod_judge_220 : decode b_Mod_judge 220 = .ok (.iload_n 1, 1) := by decide +kernel
theorem d_Mod_judge_221 : decode b_Mod_judge 221 = .ok (.iaload, 1) := by decide +kernel
theorem d_Mod_judge_222 : decode b_Mod_judge 222 = .ok (.invokevirtual 159, 3) := by decide +kernel
theorem d_Mod_judge_225 : decode b_Mod_judge 225 = .ok (.goto 59, 3) := by decide +kernel
theorem d_Mod_judge_228 : decode b_Mod_judge 228 = .ok (.aload_n 0, 1) := by decide +kernel
theorem d_Mod_judge_229 : decode b_Mod_judge 229 = .ok (.getfield 62, 3) := by decide +kernel
theorem d_Mod_judge_232 : decode b_Mod_judge 232 = .ok (.iload_n 1, 1) := by decide +kernel
theorem d_Mod_judge_233 : decode b_Mod_judge 233 = .ok (.iaload, 1) := by decide +kernel
theorem d_Mod_judge_234 : decode b_Mod_judge 234 = .ok (.ifCond .le 50, 3) := by decide +kernel
theorem d_Mod_judge_237 : decode b_Mod_judge 237 = .ok (.aload_n 0, 1) := by decide +kernel
theorem d_Mod_judge_238 : decode b_Mod_judge 238 = .ok (.getfield 74, 3) := by decide +kernel
theorem d_Mod_judge_241 : decode b_Mod_judge 241 = .ok (.iload_n 1, 1) := by decide +kernel
theorem d_Mod_judge_242 : decode b_Mod_judge 242 = .ok (.iaload, 1) := by decide +kernel
theorem d_Mod_judge_243 : decode b_Mod_judge 243 = .ok (.aload_n 0, 1) := by decide +kernel
theorem d_Mod_judge_244 : decode b_Mod_judge 244 = .ok (.getfield 26, 3) := by decide +kernel
theorem d_Mod_judge_247 : decode b_Mod_judge 247 = .ok (.if_icmp .gt 25, 3) := by decide +kernel
theorem d_Mod_judge_250 : decode b_Mod_judge 250 = .ok (.aload_n 0, 1) := by decide +kernel
theorem d_Mod_judge_251 : decode b_Mod_judge 251 = .ok (.getfield 65, 3) := by decide +kernel
theorem d_Mod_judge_254 : decode b_Mod_judge 254 = .ok (.iload_n 1, 1) := by decide +kernel
theorem d_Mod_judge_255 : decode b_Mod_judge 255 = .ok (.iaload, 1) := by decide +kernel
theorem d_Mod_judge_256 : decode b_Mod_judge 256 = .ok (.bipush 64, 2) := by decide +kernel
theorem d_Mod_judge_258 : decode b_Mod_judge 258 = .ok (.if_icmp .gt 14, 3) := by decide +kernel
theorem d_Mod_judge_261 : decode b_Mod_judge 261 = .ok (.aload_n 0, 1) := by decide +kernel
theorem d_Mod_judge_262 : decode b_Mod_judge 262 = .ok (.getfield 68, 3) := by decide +kernel
theorem d_Mod_judge_265 : decode b_Mod_judge 265 = .ok (.iload_n 1, 1) := by decide +kernel
theorem d_Mod_judge_266 : decode b_Mod_judge 266 = .ok (.iaload, 1) := by decide +kernel
theorem d_Mod_judge_267 : decode b_Mod_judge 267 = .ok (.bipush 64, 2) := by decide +kernel
theorem d_Mod_judge_269 : decode b_Mod_judge 269 = .ok (.if_icmp .le 15, 3) := by decide +kernel
theorem d_Mod_judge_272 : decode b_Mod_judge 272 = .ok (.aload_n 0, 1) := by decide +kernel
theorem d_Mod_judge_273 : decode b_Mod_judge 273 = .ok (.bipush 13, 2) := by decide +kernel
theorem d_Mod_judge_275 : decode b_Mod_judge 275 = .ok (.aload_n 0, 1) := by decide +kernel
theorem d_Mod_judge_276 : decode b_Mod_judge 276 = .ok (.getfield 53, 3) := by decide +kernel
theorem d_Mod_judge_279 : decode b_Mod_judge 279 = .ok (.iload_n 1, 1) := by decide +kernel
theorem d_Mod_judge_280 : decode b_Mod_judge 280 = .ok (.iaload, 1) := by decide +kernel
theorem d_Mod_judge_281 : decode b_Mod_judge 281 = .ok (.invokevirtual 159, 3) := by decide +kernel
theorem d_Mod_judge_284 : decode b_Mod_judge 284 = .ok (.iinc 1 1, 3) := by decide +kernel
theorem d_Mod_judge_287 : decode b_Mod_judge 287 = .ok (.goto (-125), 3) := by decide +kernel
theorem d_Mod_judge_290 : decode b_Mod_judge 290 = .ok (.return_, 1) := by decide +kernel
