theorem d_Mod_linkMember_0 : decode b_Mod_linkMember 0 = .ok (.iload_n 1, 1) := by decide +kernel
theorem d_Mod_linkMember_1 : decode b_Mod_linkMember 1 = .ok (.aload_n 0, 1) := by decide +kernel
theorem d_Mod_linkMember_2 : decode b_Mod_linkMember 2 = .ok (.getfield 232, 3) := by decide +kernel
theorem d_Mod_linkMember_5 : decode b_Mod_linkMember 5 = .ok (.if_icmp .lt 7, 3) := by decide +kernel
theorem d_Mod_linkMember_8 : decode b_Mod_linkMember 8 = .ok (.iconst 1, 1) := by decide +kernel
theorem d_Mod_linkMember_9 : decode b_Mod_linkMember 9 = .ok (.goto 4, 3) := by decide +kernel
theorem d_Mod_linkMember_12 : decode b_Mod_linkMember 12 = .ok (.iconst 0, 1) := by decide +kernel
theorem d_Mod_linkMember_13 : decode b_Mod_linkMember 13 = .ok (.istore_n 2, 1) := by decide +kernel
theorem d_Mod_linkMember_14 : decode b_Mod_linkMember 14 = .ok (.aload_n 0, 1) := by decide +kernel
theorem d_Mod_linkMember_15 : decode b_Mod_linkMember 15 = .ok (.aload_n 0, 1) := by decide +kernel
theorem d_Mod_linkMember_16 : decode b_Mod_linkMember 16 = .ok (.getfield 56, 3) := by decide +kernel
theorem d_Mod_linkMember_19 : decode b_Mod_linkMember 19 = .ok (.iload_n 1, 1) := by decide +kernel
theorem d_Mod_linkMember_20 : decode b_Mod_linkMember 20 = .ok (.iaload, 1) := by decide +kernel
theorem d_Mod_linkMember_21 : decode b_Mod_linkMember 21 = .ok (.iconst 1, 1) := by decide +kernel
theorem d_Mod_linkMember_22 : decode b_Mod_linkMember 22 = .ok (.invokevirtual 184, 3) := by decide +kernel
theorem d_Mod_linkMember_25 : decode b_Mod_linkMember 25 = .ok (.ifCond .eq 17, 3) := by decide +kernel
theorem d_Mod_linkMember_28 : decode b_Mod_linkMember 28 = .ok (.aload_n 0, 1) := by decide +kernel
theorem d_Mod_linkMember_29 : decode b_Mod_linkMember 29 = .ok (.aload_n 0, 1) := by decide +kernel
theorem d_Mod_linkMember_30 : decode b_Mod_linkMember 30 = .ok (.getfield 59, 3) := by decide +kernel
theorem d_Mod_linkMember_33 : decode b_Mod_linkMember 33 = .ok (.iload_n 1, 1) := by decide +kernel
theorem d_Mod_linkMember_34 : decode b_Mod_linkMember 34 = .ok (.iaload, 1) := by decide +kernel
theorem d_Mod_linkMember_35 : decode b_Mod_linkMember 35 = .ok (.iconst 1, 1) := by decide +kernel
theorem d_Mod_linkMember_36 : decode b_Mod_linkMember 36 = .ok (.invokevirtual 184, 3) := by decide +kernel
theorem d_Mod_linkMember_39 : decode b_Mod_linkMember 39 = .ok (.ifCond .ne 16, 3) := by decide +kernel
theorem d_Mod_linkMember_42 : decode b_Mod_linkMember 42 = .ok (.aload_n 0, 1) := by decide +kernel
theorem d_Mod_linkMember_43 : decode b_Mod_linkMember 43 = .ok (.bipush 6, 2) := by decide +kernel
theorem d_Mod_linkMember_45 : decode b_Mod_linkMember 45 = .ok (.aload_n 0, 1) := by decide +kernel
theorem d_Mod_linkMember_46 : decode b_Mod_linkMember 46 = .ok (.getfield 53, 3) := by decide +kernel
theorem d_Mod_linkMember_49 : decode b_Mod_linkMember 49 = .ok (.iload_n 1, 1) := by decide +kernel
theorem d_Mod_linkMember_50 : decode b_Mod_linkMember 50 = .ok (.iaload, 1) := by decide +kernel
theorem d_Mod_linkMember_51 : decode b_Mod_linkMember 51 = .ok (.invokevirtual 159, 3) := by decide +kernel
theorem d_Mod_linkMember_54 : decode b_Mod_linkMember 54 = .ok (.return_, 1) := by decide +kernel
theorem d_Mod_linkMember_55 : decode b_Mod_linkMember 55 = .ok (.aload_n 0, 1) := by decide +kernel
theorem d_Mod_linkMember_56 : decode b_Mod_linkMember 56 = .ok (.getfield 56, 3) := by decide +kernel
theorem d_Mod_linkMember_59 : decode b_Mod_linkMember 59 = .ok (.iload_n 1, 1) := by decide +kernel
theorem d_Mod_linkMember_60 : decode b_Mod_linkMember 60 = .ok (.iaload, 1) := by decide +kernel
theorem d_Mod_linkMember_61 : decode b_Mod_linkMember 61 = .ok (.istore_n 3, 1) := by decide +kernel
theorem d_Mod_linkMember_62 : decode b_Mod_linkMember 62 = .ok (.aload_n 0, 1) := by decide +kernel
theorem d_Mod_linkMember_63 : decode b_Mod_linkMember 63 = .ok (.getfield 59, 3) := by decide +kernel
theorem d_Mod_linkMember_66 : decode b_Mod_linkMember 66 = .ok (.iload_n 1, 1) := by decide +kernel
theorem d_Mod_linkMember_67 : decode b_Mod_linkMember 67 = .ok (.iaload, 1) := by decide +kernel
theorem d_Mod_linkMember_68 : decode b_Mod_linkMember 68 = .ok (.istore 4, 2) := by decide +kernel
theorem d_Mod_linkMember_70 : decode b_Mod_linkMember 70 = .ok (.aload_n 0, 1) := by decide +kernel
theorem d_Mod_linkMember_71 : decode b_Mod_linkMember 71 = .ok (.aload_n 0, 1) := by decide +kernel
theorem d_Mod_linkMember_72 : decode b_Mod_linkMember 72 = .ok (.getfield 38, 3) := by decide +kernel
theorem d_Mod_linkMember_75 : decode b_Mod_linkMember 75 = .ok (.iload_n 3, 1) := by decide +kernel
theorem d_Mod_linkMember_76 : decode b_Mod_linkMember 76 = .ok (.iaload, 1) := by decide +kernel
theorem d_Mod_linkMember_77 : decode b_Mod_linkMember 77 = .ok (.aload_n 0, 1) := by decide +kernel
theorem d_Mod_linkMember_78 : decode b_Mod_linkMember 78 = .ok (.iload_n 3, 1) := by decide +kernel
theorem d_Mod_linkMember_79 : decode b_Mod_linkMember 79 = .ok (.invokevirtual 254, 3) := by decide +kernel
theorem d_Mod_linkMember_82 : decode b_Mod_linkMember 82 = .ok (.invokevirtual 241, 3) := by decide +kernel
theorem d_Mod_linkMember_85 : decode b_Mod_linkMember 85 = .ok (.ifCond .ne 38, 3) := by decide +kernel
theorem d_Mod_linkMember_88 : decode b_Mod_linkMember 88 = .ok (.iload_n 2, 1) := by decide +kernel
theorem d_Mod_linkMember_89 : decode b_Mod_linkMember 89 = .ok (.ifCond .eq 19, 3) := by decide +kernel
theorem d_Mod_linkMember_92 : decode b_Mod_linkMember 92 = .ok (.aload_n 0, 1) := by decide +kernel
theorem d_Mod_linkMember_93 : decode b_Mod_linkMember 93 = .ok (.iload_n 3, 1) := by decide +kernel
theorem d_Mod_linkMember_94 : decode b_Mod_linkMember 94 = .ok (.invokevirtual 258, 3) := by decide +kernel
theorem d_Mod_linkMember_97 : decode b_Mod_linkMember 97 = .ok (.ifCond .ne 26, 3) := by decide +kernel
theorem d_Mod_linkMember_100 : decode b_Mod_linkMember 100 = .ok (.aload_n 0, 1) := by decide +kernel
theorem d_Mod_linkMember_101 : decode b_Mod_linkMember 101 = .ok (.iload_n 3, 1) := by decide +kernel
theorem d_Mod_linkMember_102 : decode b_Mod_linkMember 102 = .ok (.invokevirtual 264, 3) := by decide +kernel
theorem d_Mod_linkMember_105 : decode b_Mod_linkMember 105 = .ok (.ifCond .ne 18, 3) := by decide +kernel
theorem d_Mod_linkMember_108 : decode b_Mod_linkMember 108 = .ok (.aload_n 0, 1) := by decide +kernel
theorem d_Mod_linkMember_109 : decode b_Mod_linkMember 109 = .ok (.bipush 10, 2) := by decide +kernel
theorem d_Mod_linkMember_111 : decode b_Mod_linkMember 111 = .ok (.aload_n 0, 1) := by decide +kernel
theorem d_Mod_linkMember_112 : decode b_Mod_linkMember 112 = .ok (.getfield 53, 3) := by decide +kernel
theorem d_Mod_linkMember_115 : decode b_Mod_linkMember 115 = .ok (.iload_n 1, 1) := by decide +kernel
theorem d_Mod_linkMember_116 : decode b_Mod_linkMember 116 = .ok (.iaload, 1) := by decide +kernel
theorem d_Mod_linkMember_117 : decode b_Mod_linkMember 117 = .ok (.invokevirtual 159, 3) := by decide +kernel
theorem d_Mod_linkMember_120 : decode b_Mod_linkMember 120 = .ok (.goto 62, 3) := by decide +kernel
theorem d_Mod_linkMember_123 : decode b_Mod_linkMember 123 = .ok (.iload_n 2, 1) := by decide +kernel
theorem d_Mod_linkMember_124 : decode b_Mod_linkMember 124 = .ok (.ifCond .eq 26, 3) := by decide +kernel
theorem d_Mod_linkMember_127 : decode b_Mod_linkMember 127 = .ok (.aload_n 0, 1) := by decide +kernel
theorem d_Mod_linkMember_128 : decode b_Mod_linkMember 128 = .ok (.aload_n 0, 1) := by decide +kernel
theorem d_Mod_linkMember_129 : decode b_Mod_linkMember 129 = .ok (.getfield 38, 3) := by decide +kernel
theorem d_Mod_linkMember_132 : decode b_Mod_linkMember 132 = .ok (.iload 4, 2) := by decide +kernel
theorem d_Mod_linkMember_134 : decode b_Mod_linkMember 134 = .ok (.iaload, 1) := by decide +kernel
theorem d_Mod_linkMember_135 : decode b_Mod_linkMember 135 = .ok (.aload_n 0, 1) := by decide +kernel
theorem d_Mod_linkMember_136 : decode b_Mod_linkMember 136 = .ok (.iload 4, 2) := by decide +kernel
theorem d_Mod_linkMember_138 : decode b_Mod_linkMember 138 = .ok (.invokevirtual 254, 3) := by decide +kernel
theorem d_Mod_linkMember_141 : decode b_Mod_linkMember 141 = .ok (.invokevirtual 261, 3) := by decide +kernel
theorem d_Mod_linkMember_144 : decode b_Mod_linkMember 144 = .ok (.ifCond .ne 38, 3) := by decide +kernel
theorem d_Mod_linkMember_147 : decode b_Mod_linkMember 147 = .ok (.goto 23, 3) := by decide +kernel
theorem d_Mod_linkMember_150 : decode b_Mod_linkMember 150 = .ok (.aload_n 0, 1) := by decide +kernel
theorem d_Mod_linkMember_151 : decode b_Mod_linkMember 151 = .ok (.aload_n 0, 1) := by decide +kernel
theorem d_Mod_linkMember_152 : decode b_Mod_linkMember 152 = .ok (.getfield 38, 3) := by decide +kernel
theorem d_Mod_linkMember_155 : decode b_Mod_linkMember 155 = .ok (.iload 4, 2) := by decide +kernel
theorem d_Mod_linkMember_157 : decode b_Mod_linkMember 157 = .ok (.iaload, 1) := by decide +kernel
theorem d_Mod_linkMember_158 : decode b_Mod_linkMember 158 = .ok (.aload_n 0, 1) := by decide +kernel
theorem d_Mod_linkMember_159 : decode b_Mod_linkMember 159 = .ok (.iload 4, 2) := by decide +kernel
theorem d_Mod_linkMember_161 : decode b_Mod_linkMember 161 = .ok (.invokevirtual 254, 3) := by decide +kernel
theorem d_Mod_linkMember_164 : decode b_Mod_linkMember 164 = .ok (.invokevirtual 251, 3) := by decide +kernel
theorem d_Mod_linkMember_167 : decode b_Mod_linkMember 167 = .ok (.ifCond .ne 15, 3) := by decide +kernel
theorem d_Mod_linkMember_170 : decode b_Mod_linkMember 170 = .ok (.aload_n 0, 1) := by decide +kernel
theorem d_Mod_linkMember_171 : decode b_Mod_linkMember 171 = .ok (.bipush 11, 2) := by decide +kernel
theorem d_Mod_linkMember_173 : decode b_Mod_linkMember 173 = .ok (.aload_n 0, 1) := by decide +kernel
theorem d_Mod_linkMember_174 : decode b_Mod_linkMember 174 = .ok (.getfield 53, 3) := by decide +kernel
theorem d_Mod_linkMember_177 : decode b_Mod_linkMember 177 = .ok (.iload_n 1, 1) := by decide +kernel
theorem d_Mod_linkMember_178 : decode b_Mod_linkMember 178 = .ok (.iaload, 1) := by decide +kernel
theorem d_Mod_linkMember_179 : decode b_Mod_linkMember 179 = .ok (.invokevirtual 159, 3) := by decide +kernel
theorem d_Mod_linkMember_182 : decode b_Mod_linkMember 182 = .ok (.iload_n 2, 1) := by decide +kernel
theorem d_Mod_linkMember_183 : decode b_Mod_linkMember 183 = .ok (.ifCond .eq 10, 3) := by decide +kernel
theorem d_Mod_linkMember_186 : decode b_Mod_linkMember 186 = .ok (.aload_n 0, 1) := by decide +kernel
theorem d_Mod_linkMember_187 : decode b_Mod_linkMember 187 = .ok (.getfield 232, 3) := by decide +kernel
theorem d_Mod_linkMember_190 : decode b_Mod_linkMember 190 = .ok (.goto 4, 3) := by decide +kernel
theorem d_Mod_linkMember_193 : decode b_Mod_linkMember 193 = .ok (.iconst 0, 1) := by decide +kernel
theorem d_Mod_linkMember_194 : decode b_Mod_linkMember 194 = .ok (.istore 5, 2) := by decide +kernel
theorem d_Mod_linkMember_196 : decode b_Mod_linkMember 196 = .ok (.iload 5, 2) := by decide +kernel
theorem d_Mod_linkMember_198 : decode b_Mod_linkMember 198 = .ok (.iload_n 1, 1) := by decide +kernel
theorem d_Mod_linkMember_199 : decode b_Mod_linkMember 199 = .ok (.if_icmp .ge 52, 3) := by decide +kernel
theorem d_Mod_linkMember_202 : decode b_Mod_linkMember 202 = .ok (.aload_n 0, 1) := by decide +kernel
theorem d_Mod_linkMember_203 : decode b_Mod_linkMember 203 = .ok (.aload_n 0, 1) := by decide +kernel
theorem d_Mod_linkMember_204 : decode b_Mod_linkMember 204 = .ok (.getfield 56, 3) := by decide +kernel
theorem d_Mod_linkMember_207 : decode b_Mod_linkMember 207 = .ok (.iload 5, 2) := by decide +kernel
theorem d_Mod_linkMember_209 : decode b_Mod_linkMember 209 = .ok (.iaload, 1) := by decide +kernel
theorem d_Mod_linkMember_210 : decode b_Mod_linkMember 210 = .ok (.iload_n 3, 1) := by decide +kernel
theorem d_Mod_linkMember_211 : decode b_Mod_linkMember 211 = .ok (.invokevirtual 267, 3) := by decide +kernel
theorem d_Mod_linkMember_214 : decode b_Mod_linkMember 214 = .ok (.ifCond .eq 31, 3) := by decide +kernel
theorem d_Mod_linkMember_217 : decode b_Mod_linkMember 217 = .ok (.aload_n 0, 1) := by decide +kernel
theorem d_Mod_linkMember_218 : decode b_Mod_linkMember 218 = .ok (.aload_n 0, 1) := by decide +kernel
theorem d_Mod_linkMember_219 : decode b_Mod_linkMember 219 = .ok (.getfield 59, 3) := by decide +kernel
theorem d_Mod_linkMember_222 : decode b_Mod_linkMember 222 = .ok (.iload 5, 2) := by decide +kernel
theorem d_Mod_linkMember_224 : decode b_Mod_linkMember 224 = .ok (.iaload, 1) := by decide +kernel
theorem d_Mod_linkMember_225 : decode b_Mod_linkMember 225 = .ok (.iload 4, 2) := by decide +kernel
theorem d_Mod_linkMember_227 : decode b_Mod_linkMember 227 = .ok (.invokevirtual 267, 3) := by decide +kernel
theorem d_Mod_linkMember_230 : decode b_Mod_linkMember 230 = .ok (.ifCond .eq 15, 3) := by decide +kernel
theorem d_Mod_linkMember_233 : decode b_Mod_linkMember 233 = .ok (.aload_n 0, 1) := by decide +kernel
theorem d_Mod_linkMember_234 : decode b_Mod_linkMember 234 = .ok (.bipush 7, 2) := by decide +kernel
theorem d_Mod_linkMember_236 : decode b_Mod_linkMember 236 = .ok (.aload_n 0, 1) := by decide +kernel
theorem d_Mod_linkMember_237 : decode b_Mod_linkMember 237 = .ok (.getfield 53, 3) := by decide +kernel
theorem d_Mod_linkMember_240 : decode b_Mod_linkMember 240 = .ok (.iload_n 1, 1) := by decide +kernel
theorem d_Mod_linkMember_241 : decode b_Mod_linkMember 241 = .ok (.iaload, 1) := by decide +kernel
theorem d_Mod_linkMember_242 : decode b_Mod_linkMember 242 = .ok (.invokevirtual 159, 3) := by decide +kernel
theorem d_Mod_linkMember_245 : decode b_Mod_linkMember 245 = .ok (.iinc 5 1, 3) := by decide +kernel
theorem d_Mod_linkMember_248 : decode b_Mod_linkMember 248 = .ok (.goto (-52), 3) := by decide +kernel
theorem d_Mod_linkMember_251 : decode b_Mod_linkMember 251 = .ok (.iload_n 2, 1) := by decide +kernel
theorem d_Mod_linkMember_252 : decode b_Mod_linkMember 252 = .ok (.ifCond .eq 50, 3) := by decide +kernel
theorem d_Mod_linkMember_255 : decode b_Mod_linkMember 255 = .ok (.aload_n 0, 1) := by decide +kernel
theorem d_Mod_linkMember_256 : decode b_Mod_linkMember 256 = .ok (.getfield 62, 3) := by decide +kernel
theorem d_Mod_linkMember_259 : decode b_Mod_linkMember 259 = .ok (.iload_n 1, 1) := by decide +kernel
theorem d_Mod_linkMember_260 : decode b_Mod_linkMember 260 = .ok (.iaload, 1) := by decide +kernel
theorem d_Mod_linkMember_261 : decode b_Mod_linkMember 261 = .ok (.ifCond .le 7, 3) := by decide +kernel
theorem d_Mod_linkMember_264 : decode b_Mod_linkMember 264 = .ok (.iconst 1, 1) := by decide +kernel
theorem d_Mod_linkMember_265 : decode b_Mod_linkMember 265 = .ok (.goto 4, 3) := by decide +kernel
theorem d_Mod_linkMember_268 : decode b_Mod_linkMember 268 = .ok (.iconst 0, 1) := by decide +kernel
theorem d_Mod_linkMember_269 : decode b_Mod_linkMember 269 = .ok (.aload_n 0, 1) := by decide +kernel
theorem d_Mod_linkMember_270 : decode b_Mod_linkMember 270 = .ok (.getfield 50, 3) := by decide +kernel
theorem d_Mod_linkMember_273 : decode b_Mod_linkMember 273 = .ok (.iload_n 1, 1) := by decide +kernel
theorem d_Mod_linkMember_274 : decode b_Mod_linkMember 274 = .ok (.iaload, 1) := by decide +kernel
theorem d_Mod_linkMember_275 : decode b_Mod_linkMember 275 = .ok (.sipush 1280, 3) := by decide +kernel
theorem d_Mod_linkMember_278 : decode b_Mod_linkMember 278 = .ok (.iand, 1) := by decide +kernel
theorem d_Mod_linkMember_279 : decode b_Mod_linkMember 279 = .ok (.ifCond .eq 7, 3) := by decide +kernel
theorem d_Mod_linkMember_282 : decode b_Mod_linkMember 282 = .ok (.iconst 1, 1) := by decide +kernel
theorem d_Mod_linkMember_283 : decode b_Mod_linkMember 283 = .ok (.goto 4, 3) := by decide +kernel
theorem d_Mod_linkMember_286 : decode b_Mod_linkMember 286 = .ok (.iconst 0, 1) := by decide +kernel
theorem d_Mod_linkMember_287 : decode b_Mod_linkMember 287 = .ok (.if_icmp .ne 15, 3) := by decide +kernel
theorem d_Mod_linkMember_290 : decode b_Mod_linkMember 290 = .ok (.aload_n 0, 1) := by decide +kernel
theorem d_Mod_linkMember_291 : decode b_Mod_linkMember 291 = .ok (.bipush 12, 2) := by decide +kernel
theorem d_Mod_linkMember_293 : decode b_Mod_linkMember 293 = .ok (.aload_n 0, 1) := by decide +kernel
theorem d_Mod_linkMember_294 : decode b_Mod_linkMember 294 = .ok (.getfield 53, 3) := by decide +kernel
theorem d_Mod_linkMember_297 : decode b_Mod_linkMember 297 = .ok (.iload_n 1, 1) := by decide +kernel
theorem d_Mod_linkMember_298 : decode b_Mod_linkMember 298 = .ok (.iaload, 1) := by decide +kernel
theorem d_Mod_linkMember_299 : decode b_Mod_linkMember 299 = .ok (.invokevirtual 159, 3) := by decide +kernel
theorem d_Mod_linkMember_302 : decode b_Mod_linkMember 302 = .ok (.return_, 1) := by decide +kernel
theorem d_Mod_linkMemberConstant_0 : decode b_Mod_linkMemberConstant 0 = .ok (.aload_n 0, 1) := by decide +kernel
theorem d_Mod_linkMemberConstant_1 : decode b_Mod_linkMemberConstant 1 = .ok (.getfield 38, 3) := by decide +kernel
theorem d_Mod_linkMemberConstant_4 : decode b_Mod_linkMemberConstant 4 = .ok (.aload_n 0, 1) := by decide +kernel
theorem d_Mod_linkMemberConstant_5 : decode b_Mod_linkMemberConstant 5 = .ok (.getfield 41, 3) := by decide +kernel
theorem d_Mod_linkMemberConstant_8 : decode b_Mod_linkMemberConstant 8 = .ok (.iload_n 1, 1) := by decide +kernel
theorem d_Mod_linkMemberConstant_9 : decode b_Mod_linkMemberConstant 9 = .ok (.iaload, 1) := by decide +kernel
theorem d_Mod_linkMemberConstant_10 : decode b_Mod_linkMemberConstant 10 = .ok (.iaload, 1) := by decide +kernel
theorem d_Mod_linkMemberConstant_11 : decode b_Mod_linkMemberConstant 11 = .ok (.istore_n 2, 1) := by decide +kernel
theorem d_Mod_linkMemberConstant_12 : decode b_Mod_linkMemberConstant 12 = .ok (.aload_n 0, 1) := by decide +kernel
theorem d_Mod_linkMemberConstant_13 : decode b_Mod_linkMemberConstant 13 = .ok (.getfield 41, 3) := by decide +kernel
theorem d_Mod_linkMemberConstant_16 : decode b_Mod_linkMemberConstant 16 = .ok (.aload_n 0, 1) := by decide +kernel
theorem d_Mod_linkMemberConstant_17 : decode b_Mod_linkMemberConstant 17 = .ok (.getfield 41, 3) := by decide +kernel
theorem d_Mod_linkMemberConstant_20 : decode b_Mod_linkMemberConstant 20 = .ok (.iload_n 1, 1) := by decide +kernel
theorem d_Mod_linkMemberConstant_21 : decode b_Mod_linkMemberConstant 21 = .ok (.iaload, 1) := by decide +kernel
theorem d_Mod_linkMemberConstant_22 : decode b_Mod_linkMemberConstant 22 = .ok (.iaload, 1) := by decide +kernel
theorem d_Mod_linkMemberConstant_23 : decode b_Mod_linkMemberConstant 23 = .ok (.istore_n 3, 1) := by decide +kernel
theorem d_Mod_linkMemberConstant_24 : decode b_Mod_linkMemberConstant 24 = .ok (.aload_n 0, 1) := by decide +kernel
theorem d_Mod_linkMemberConstant_25 : decode b_Mod_linkMemberConstant 25 = .ok (.iload_n 2, 1) := by decide +kernel
theorem d_Mod_linkMemberConstant_26 : decode b_Mod_linkMemberConstant 26 = .ok (.invokevirtual 258, 3) := by decide +kernel
theorem d_Mod_linkMemberConstant_29 : decode b_Mod_linkMemberConstant 29 = .ok (.ifCond .ne 25, 3) := by decide +kernel
theorem d_Mod_linkMemberConstant_32 : decode b_Mod_linkMemberConstant 32 = .ok (.aload_n 0, 1) := by decide +kernel
theorem d_Mod_linkMemberConstant_33 : decode b_Mod_linkMemberConstant 33 = .ok (.aload_n 0, 1) := by decide +kernel
theorem d_Mod_linkMemberConstant_34 : decode b_Mod_linkMemberConstant 34 = .ok (.getfield 38, 3) := by decide +kernel
theorem d_Mod_linkMemberConstant_37 : decode b_Mod_linkMemberConstant 37 = .ok (.iload_n 3, 1) := by decide +kernel
theorem d_Mod_linkMemberConstant_38 : decode b_Mod_linkMemberConstant 38 = .ok (.iaload, 1) := by decide +kernel
theorem d_Mod_linkMemberConstant_39 : decode b_Mod_linkMemberConstant 39 = .ok (.aload_n 0, 1) := by decide +kernel
theorem d_Mod_linkMemberConstant_40 : decode b_Mod_linkMemberConstant 40 = .ok (.iload_n 3, 1) := by decide +kernel
theorem d_Mod_linkMemberConstant_41 : decode b_Mod_linkMemberConstant 41 = .ok (.invokevirtual 254, 3) := by decide +kernel
theorem d_Mod_linkMemberConstant_44 : decode b_Mod_linkMemberConstant 44 = .ok (.invokevirtual 251, 3) := by decide +kernel
theorem d_Mod_linkMemberConstant_47 : decode b_Mod_linkMemberConstant 47 = .ok (.ifCond .eq 7, 3) := by decide +kernel
theorem d_Mod_linkMemberConstant_50 : decode b_Mod_linkMemberConstant 50 = .ok (.iconst 1, 1) := by decide +kernel
theorem d_Mod_linkMemberConstant_51 : decode b_Mod_linkMemberConstant 51 = .ok (.goto 4, 3) := by decide +kernel
theorem d_Mod_linkMemberConstant_54 : decode b_Mod_linkMemberConstant 54 = .ok (.iconst 0, 1) := by decide +kernel
theorem d_Mod_linkMemberConstant_55 : decode b_Mod_linkMemberConstant 55 = .ok (.istore 4, 2) := by decide +kernel
theorem d_Mod_linkMemberConstant_57 : decode b_Mod_linkMemberConstant 57 = .ok (.aload_n 0, 1) := by decide +kernel
theorem d_Mod_linkMemberConstant_58 : decode b_Mod_linkMemberConstant 58 = .ok (.aload_n 0, 1) := by decide +kernel
theorem d_Mod_linkMemberConstant_59 : decode b_Mod_linkMemberConstant 59 = .ok (.getfield 38, 3) := by decide +kernel
theorem d_Mod_linkMemberConstant_62 : decode b_Mod_linkMemberConstant 62 = .ok (.iload_n 3, 1) := by decide +kernel
theorem d_Mod_linkMemberConstant_63 : decode b_Mod_linkMemberConstant 63 = .ok (.iaload, 1) := by decide +kernel
theorem d_Mod_linkMemberConstant_64 : decode b_Mod_linkMemberConstant 64 = .ok (.aload_n 0, 1) := by decide +kernel
theorem d_Mod_linkMemberConstant_65 : decode b_Mod_linkMemberConstant 65 = .ok (.iload_n 3, 1) := by decide +kernel
theorem d_Mod_linkMemberConstant_66 : decode b_Mod_linkMemberConstant 66 = .ok (.invokevirtual 254, 3) := by decide +kernel
theorem d_Mod_linkMemberConstant_69 : decode b_Mod_linkMemberConstant 69 = .ok (.invokevirtual 261, 3) := by decide +kernel
theorem d_Mod_linkMemberConstant_72 : decode b_Mod_linkMemberConstant 72 = .ok (.ifCond .eq 32, 3) := by decide +kernel
theorem d_Mod_linkMemberConstant_75 : decode b_Mod_linkMemberConstant 75 = .ok (.aload_n 0, 1) := by decide +kernel
theorem d_Mod_linkMemberConstant_76 : decode b_Mod_linkMemberConstant 76 = .ok (.iload_n 2, 1) := by decide +kernel
theorem d_Mod_linkMemberConstant_77 : decode b_Mod_linkMemberConstant 77 = .ok (.invokevirtual 258, 3) := by decide +kernel
theorem d_Mod_linkMemberConstant_80 : decode b_Mod_linkMemberConstant 80 = .ok (.ifCond .eq 20, 3) := by decide +kernel
theorem d_Mod_linkMemberConstant_83 : decode b_Mod_linkMemberConstant 83 = .ok (.aload_n 0, 1) := by decide +kernel
theorem d_Mod_linkMemberConstant_84 : decode b_Mod_linkMemberConstant 84 = .ok (.getfield 7, 3) := by decide +kernel
theorem d_Mod_linkMemberConstant_87 : decode b_Mod_linkMemberConstant 87 = .ok (.aload_n 0, 1) := by decide +kernel
theorem d_Mod_linkMemberConstant_88 : decode b_Mod_linkMemberConstant 88 = .ok (.iload_n 3, 1) := by decide +kernel
theorem d_Mod_linkMemberConstant_89 : decode b_Mod_linkMemberConstant 89 = .ok (.invokevirtual 254, 3) := by decide +kernel
theorem d_Mod_linkMemberConstant_92 : decode b_Mod_linkMemberConstant 92 = .ok (.iconst 1, 1) := by decide +kernel
theorem d_Mod_linkMemberConstant_93 : decode b_Mod_linkMemberConstant 93 = .ok (.isub, 1) := by decide +kernel
theorem d_Mod_linkMemberConstant_94 : decode b_Mod_linkMemberConstant 94 = .ok (.iaload, 1) := by decide +kernel
theorem d_Mod_linkMemberConstant_95 : decode b_Mod_linkMemberConstant 95 = .ok (.bipush 86, 2) := by decide +kernel
theorem d_Mod_linkMemberConstant_97 : decode b_Mod_linkMemberConstant 97 = .ok (.if_icmp .ne 7, 3) := by decide +kernel
theorem d_Mod_linkMemberConstant_100 : decode b_Mod_linkMemberConstant 100 = .ok (.iconst 1, 1) := by decide +kernel
theorem d_Mod_linkMemberConstant_101 : decode b_Mod_linkMemberConstant 101 = .ok (.goto 4, 3) := by decide +kernel
theorem d_Mod_linkMemberConstant_104 : decode b_Mod_linkMemberConstant 104 = .ok (.iconst 0, 1) := by decide +kernel
theorem d_Mod_linkMemberConstant_105 : decode b_Mod_linkMemberConstant 105 = .ok (.istore 5, 2) := by decide +kernel
theorem d_Mod_linkMemberConstant_107 : decode b_Mod_linkMemberConstant 107 = .ok (.aload_n 0, 1) := by decide +kernel
theorem d_Mod_linkMemberConstant_108 : decode b_Mod_linkMemberConstant 108 = .ok (.getfield 32, 3) := by decide +kernel
theorem d_Mod_linkMemberConstant_111 : decode b_Mod_linkMemberConstant 111 = .ok (.iload_n 1, 1) := by decide +kernel
theorem d_Mod_linkMemberConstant_112 : decode b_Mod_linkMemberConstant 112 = .ok (.iaload, 1) := by decide +kernel
theorem d_Mod_linkMemberConstant_113 : decode b_Mod_linkMemberConstant 113 = .ok (.bipush 9, 2) := by decide +kernel
theorem d_Mod_linkMemberConstant_115 : decode b_Mod_linkMemberConstant 115 = .ok (.if_icmp .ne 11, 3) := by decide +kernel
theorem d_Mod_linkMemberConstant_118 : decode b_Mod_linkMemberConstant 118 = .ok (.iload 4, 2) := by decide +kernel
theorem d_Mod_linkMemberConstant_120 : decode b_Mod_linkMemberConstant 120 = .ok (.ifCond .ne 23, 3) := by decide +kernel
theorem d_Mod_linkMemberConstant_123 : decode b_Mod_linkMemberConstant 123 = .ok (.goto 8, 3) := by decide +kernel
theorem d_Mod_linkMemberConstant_126 : decode b_Mod_linkMemberConstant 126 = .ok (.iload 5, 2) := by decide +kernel
theorem d_Mod_linkMemberConstant_128 : decode b_Mod_linkMemberConstant 128 = .ok (.ifCond .ne 15, 3) := by decide +kernel
theorem d_Mod_linkMemberConstant_131 : decode b_Mod_linkMemberConstant 131 = .ok (.aload_n 0, 1) := by decide +kernel
theorem d_Mod_linkMemberConstant_132 : decode b_Mod_linkMemberConstant 132 = .ok (.bipush 11, 2) := by decide +kernel
theorem d_Mod_linkMemberConstant_134 : decode b_Mod_linkMemberConstant 134 = .ok (.aload_n 0, 1) := by decide +kernel
theorem d_Mod_linkMemberConstant_135 : decode b_Mod_linkMemberConstant 135 = .ok (.getfield 35, 3) := by decide +kernel
theorem d_Mod_linkMemberConstant_138 : decode b_Mod_linkMemberConstant 138 = .ok (.iload_n 1, 1) := by decide +kernel
theorem d_Mod_linkMemberConstant_139 : decode b_Mod_linkMemberConstant 139 = .ok (.iaload, 1) := by decide +kernel
theorem d_Mod_linkMemberConstant_140 : decode b_Mod_linkMemberConstant 140 = .ok (.invokevirtual 159, 3) := by decide +kernel
theorem d_Mod_linkMemberConstant_143 : decode b_Mod_linkMemberConstant 143 = .ok (.return_, 1) := by decide +kernel
