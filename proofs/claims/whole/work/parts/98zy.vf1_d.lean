theorem d_Mod_follows_0 : decode b_Mod_follows 0 = .ok (.iload_n 0, 1) := by decide +kernel
theorem d_Mod_follows_1 : decode b_Mod_follows 1 = .ok (.bipush 10, 2) := by decide +kernel
theorem d_Mod_follows_3 : decode b_Mod_follows 3 = .ok (.if_icmp .le 47, 3) := by decide +kernel
theorem d_Mod_follows_6 : decode b_Mod_follows 6 = .ok (.iload_n 0, 1) := by decide +kernel
theorem d_Mod_follows_7 : decode b_Mod_follows 7 = .ok (.bipush 26, 2) := by decide +kernel
theorem d_Mod_follows_9 : decode b_Mod_follows 9 = .ok (.bipush 33, 2) := by decide +kernel
theorem d_Mod_follows_11 : decode b_Mod_follows 11 = .ok (.invokestatic 136, 3) := by decide +kernel
theorem d_Mod_follows_14 : decode b_Mod_follows 14 = .ok (.ifCond .ne 36, 3) := by decide +kernel
theorem d_Mod_follows_17 : decode b_Mod_follows 17 = .ok (.iload_n 0, 1) := by decide +kernel
theorem d_Mod_follows_18 : decode b_Mod_follows 18 = .ok (.bipush 42, 2) := by decide +kernel
theorem d_Mod_follows_20 : decode b_Mod_follows 20 = .ok (.bipush 45, 2) := by decide +kernel
theorem d_Mod_follows_22 : decode b_Mod_follows 22 = .ok (.invokestatic 136, 3) := by decide +kernel
theorem d_Mod_follows_25 : decode b_Mod_follows 25 = .ok (.ifCond .ne 25, 3) := by decide +kernel
theorem d_Mod_follows_28 : decode b_Mod_follows 28 = .ok (.iload_n 0, 1) := by decide +kernel
theorem d_Mod_follows_29 : decode b_Mod_follows 29 = .ok (.bipush 59, 2) := by decide +kernel
theorem d_Mod_follows_31 : decode b_Mod_follows 31 = .ok (.bipush 66, 2) := by decide +kernel
theorem d_Mod_follows_33 : decode b_Mod_follows 33 = .ok (.invokestatic 136, 3) := by decide +kernel
theorem d_Mod_follows_36 : decode b_Mod_follows 36 = .ok (.ifCond .ne 14, 3) := by decide +kernel
theorem d_Mod_follows_39 : decode b_Mod_follows 39 = .ok (.iload_n 0, 1) := by decide +kernel
theorem d_Mod_follows_40 : decode b_Mod_follows 40 = .ok (.bipush 75, 2) := by decide +kernel
theorem d_Mod_follows_42 : decode b_Mod_follows 42 = .ok (.bipush 78, 2) := by decide +kernel
theorem d_Mod_follows_44 : decode b_Mod_follows 44 = .ok (.invokestatic 136, 3) := by decide +kernel
theorem d_Mod_follows_47 : decode b_Mod_follows 47 = .ok (.ifCond .eq 5, 3) := by decide +kernel
theorem d_Mod_follows_50 : decode b_Mod_follows 50 = .ok (.iconst 0, 1) := by decide +kernel
theorem d_Mod_follows_51 : decode b_Mod_follows 51 = .ok (.ireturn, 1) := by decide +kernel
theorem d_Mod_follows_52 : decode b_Mod_follows 52 = .ok (.iload_n 0, 1) := by decide +kernel
theorem d_Mod_follows_53 : decode b_Mod_follows 53 = .ok (.bipush 16, 2) := by decide +kernel
theorem d_Mod_follows_55 : decode b_Mod_follows 55 = .ok (.if_icmp .eq 45, 3) := by decide +kernel
theorem d_Mod_follows_58 : decode b_Mod_follows 58 = .ok (.iload_n 0, 1) := by decide +kernel
theorem d_Mod_follows_59 : decode b_Mod_follows 59 = .ok (.bipush 18, 2) := by decide +kernel
theorem d_Mod_follows_61 : decode b_Mod_follows 61 = .ok (.if_icmp .eq 39, 3) := by decide +kernel
theorem d_Mod_follows_64 : decode b_Mod_follows 64 = .ok (.iload_n 0, 1) := by decide +kernel
theorem d_Mod_follows_65 : decode b_Mod_follows 65 = .ok (.bipush 21, 2) := by decide +kernel
theorem d_Mod_follows_67 : decode b_Mod_follows 67 = .ok (.if_icmp .eq 33, 3) := by decide +kernel
theorem d_Mod_follows_70 : decode b_Mod_follows 70 = .ok (.iload_n 0, 1) := by decide +kernel
theorem d_Mod_follows_71 : decode b_Mod_follows 71 = .ok (.bipush 22, 2) := by decide +kernel
theorem d_Mod_follows_73 : decode b_Mod_follows 73 = .ok (.if_icmp .eq 27, 3) := by decide +kernel
theorem d_Mod_follows_76 : decode b_Mod_follows 76 = .ok (.iload_n 0, 1) := by decide +kernel
theorem d_Mod_follows_77 : decode b_Mod_follows 77 = .ok (.bipush 25, 2) := by decide +kernel
theorem d_Mod_follows_79 : decode b_Mod_follows 79 = .ok (.if_icmp .eq 21, 3) := by decide +kernel
theorem d_Mod_follows_82 : decode b_Mod_follows 82 = .ok (.iload_n 0, 1) := by decide +kernel
theorem d_Mod_follows_83 : decode b_Mod_follows 83 = .ok (.bipush 54, 2) := by decide +kernel
theorem d_Mod_follows_85 : decode b_Mod_follows 85 = .ok (.if_icmp .eq 15, 3) := by decide +kernel
theorem d_Mod_follows_88 : decode b_Mod_follows 88 = .ok (.iload_n 0, 1) := by decide +kernel
theorem d_Mod_follows_89 : decode b_Mod_follows 89 = .ok (.bipush 55, 2) := by decide +kernel
theorem d_Mod_follows_91 : decode b_Mod_follows 91 = .ok (.if_icmp .eq 9, 3) := by decide +kernel
theorem d_Mod_follows_94 : decode b_Mod_follows 94 = .ok (.iload_n 0, 1) := by decide +kernel
theorem d_Mod_follows_95 : decode b_Mod_follows 95 = .ok (.bipush 58, 2) := by decide +kernel
theorem d_Mod_follows_97 : decode b_Mod_follows 97 = .ok (.if_icmp .ne 5, 3) := by decide +kernel
theorem d_Mod_follows_100 : decode b_Mod_follows 100 = .ok (.iconst 1, 1) := by decide +kernel
theorem d_Mod_follows_101 : decode b_Mod_follows 101 = .ok (.ireturn, 1) := by decide +kernel
theorem d_Mod_follows_102 : decode b_Mod_follows 102 = .ok (.iload_n 0, 1) := by decide +kernel
theorem d_Mod_follows_103 : decode b_Mod_follows 103 = .ok (.bipush 17, 2) := by decide +kernel
theorem d_Mod_follows_105 : decode b_Mod_follows 105 = .ok (.if_icmp .eq 77, 3) := by decide +kernel
theorem d_Mod_follows_108 : decode b_Mod_follows 108 = .ok (.iload_n 0, 1) := by decide +kernel
theorem d_Mod_follows_109 : decode b_Mod_follows 109 = .ok (.bipush 20, 2) := by decide +kernel
theorem d_Mod_follows_111 : decode b_Mod_follows 111 = .ok (.if_icmp .eq 71, 3) := by decide +kernel
theorem d_Mod_follows_114 : decode b_Mod_follows 114 = .ok (.iload_n 0, 1) := by decide +kernel
theorem d_Mod_follows_115 : decode b_Mod_follows 115 = .ok (.sipush 132, 3) := by decide +kernel
theorem d_Mod_follows_118 : decode b_Mod_follows 118 = .ok (.if_icmp .eq 64, 3) := by decide +kernel
theorem d_Mod_follows_121 : decode b_Mod_follows 121 = .ok (.iload_n 0, 1) := by decide +kernel
theorem d_Mod_follows_122 : decode b_Mod_follows 122 = .ok (.sipush 153, 3) := by decide +kernel
theorem d_Mod_follows_125 : decode b_Mod_follows 125 = .ok (.sipush 167, 3) := by decide +kernel
theorem d_Mod_follows_128 : decode b_Mod_follows 128 = .ok (.invokestatic 136, 3) := by decide +kernel
theorem d_Mod_follows_131 : decode b_Mod_follows 131 = .ok (.ifCond .ne 51, 3) := by decide +kernel
theorem d_Mod_follows_134 : decode b_Mod_follows 134 = .ok (.iload_n 0, 1) := by decide +kernel
theorem d_Mod_follows_135 : decode b_Mod_follows 135 = .ok (.sipush 198, 3) := by decide +kernel
theorem d_Mod_follows_138 : decode b_Mod_follows 138 = .ok (.if_icmp .eq 44, 3) := by decide +kernel
theorem d_Mod_follows_141 : decode b_Mod_follows 141 = .ok (.iload_n 0, 1) := by decide +kernel
theorem d_Mod_follows_142 : decode b_Mod_follows 142 = .ok (.sipush 199, 3) := by decide +kernel
theorem d_Mod_follows_145 : decode b_Mod_follows 145 = .ok (.if_icmp .eq 37, 3) := by decide +kernel
theorem d_Mod_follows_148 : decode b_Mod_follows 148 = .ok (.iload_n 0, 1) := by decide +kernel
theorem d_Mod_follows_149 : decode b_Mod_follows 149 = .ok (.sipush 178, 3) := by decide +kernel
theorem d_Mod_follows_152 : decode b_Mod_follows 152 = .ok (.sipush 184, 3) := by decide +kernel
theorem d_Mod_follows_155 : decode b_Mod_follows 155 = .ok (.invokestatic 136, 3) := by decide +kernel
theorem d_Mod_follows_158 : decode b_Mod_follows 158 = .ok (.ifCond .ne 24, 3) := by decide +kernel
theorem d_Mod_follows_161 : decode b_Mod_follows 161 = .ok (.iload_n 0, 1) := by decide +kernel
theorem d_Mod_follows_162 : decode b_Mod_follows 162 = .ok (.sipush 187, 3) := by decide +kernel
theorem d_Mod_follows_165 : decode b_Mod_follows 165 = .ok (.if_icmp .eq 17, 3) := by decide +kernel
theorem d_Mod_follows_168 : decode b_Mod_follows 168 = .ok (.iload_n 0, 1) := by decide +kernel
theorem d_Mod_follows_169 : decode b_Mod_follows 169 = .ok (.sipush 192, 3) := by decide +kernel
theorem d_Mod_follows_172 : decode b_Mod_follows 172 = .ok (.if_icmp .eq 10, 3) := by decide +kernel
theorem d_Mod_follows_175 : decode b_Mod_follows 175 = .ok (.iload_n 0, 1) := by decide +kernel
theorem d_Mod_follows_176 : decode b_Mod_follows 176 = .ok (.sipush 193, 3) := by decide +kernel
theorem d_Mod_follows_179 : decode b_Mod_follows 179 = .ok (.if_icmp .ne 5, 3) := by decide +kernel
theorem d_Mod_follows_182 : decode b_Mod_follows 182 = .ok (.iconst 2, 1) := by decide +kernel
theorem d_Mod_follows_183 : decode b_Mod_follows 183 = .ok (.ireturn, 1) := by decide +kernel
theorem d_Mod_follows_184 : decode b_Mod_follows 184 = .ok (.iload_n 0, 1) := by decide +kernel
theorem d_Mod_follows_185 : decode b_Mod_follows 185 = .ok (.bipush 87, 2) := by decide +kernel
theorem d_Mod_follows_187 : decode b_Mod_follows 187 = .ok (.if_icmp .eq 140, 3) := by decide +kernel
theorem d_Mod_follows_190 : decode b_Mod_follows 190 = .ok (.iload_n 0, 1) := by decide +kernel
theorem d_Mod_follows_191 : decode b_Mod_follows 191 = .ok (.bipush 88, 2) := by decide +kernel
theorem d_Mod_follows_193 : decode b_Mod_follows 193 = .ok (.if_icmp .eq 134, 3) := by decide +kernel
theorem d_Mod_follows_196 : decode b_Mod_follows 196 = .ok (.iload_n 0, 1) := by decide +kernel
theorem d_Mod_follows_197 : decode b_Mod_follows 197 = .ok (.bipush 89, 2) := by decide +kernel
theorem d_Mod_follows_199 : decode b_Mod_follows 199 = .ok (.if_icmp .eq 128, 3) := by decide +kernel
theorem d_Mod_follows_202 : decode b_Mod_follows 202 = .ok (.iload_n 0, 1) := by decide +kernel
theorem d_Mod_follows_203 : decode b_Mod_follows 203 = .ok (.bipush 92, 2) := by decide +kernel
theorem d_Mod_follows_205 : decode b_Mod_follows 205 = .ok (.if_icmp .eq 122, 3) := by decide +kernel
theorem d_Mod_follows_208 : decode b_Mod_follows 208 = .ok (.iload_n 0, 1) := by decide +kernel
theorem d_Mod_follows_209 : decode b_Mod_follows 209 = .ok (.bipush 95, 2) := by decide +kernel
theorem d_Mod_follows_211 : decode b_Mod_follows 211 = .ok (.if_icmp .eq 116, 3) := by decide +kernel
theorem d_Mod_follows_214 : decode b_Mod_follows 214 = .ok (.iload_n 0, 1) := by decide +kernel
theorem d_Mod_follows_215 : decode b_Mod_follows 215 = .ok (.invokestatic 285, 3) := by decide +kernel
theorem d_Mod_follows_218 : decode b_Mod_follows 218 = .ok (.ifCond .ne 109, 3) := by decide +kernel
theorem d_Mod_follows_221 : decode b_Mod_follows 221 = .ok (.iload_n 0, 1) := by decide +kernel
theorem d_Mod_follows_222 : decode b_Mod_follows 222 = .ok (.invokestatic 288, 3) := by decide +kernel
theorem d_Mod_follows_225 : decode b_Mod_follows 225 = .ok (.ifCond .ne 102, 3) := by decide +kernel
theorem d_Mod_follows_228 : decode b_Mod_follows 228 = .ok (.iload_n 0, 1) := by decide +kernel
theorem d_Mod_follows_229 : decode b_Mod_follows 229 = .ok (.bipush 121, 2) := by decide +kernel
theorem d_Mod_follows_231 : decode b_Mod_follows 231 = .ok (.if_icmp .eq 96, 3) := by decide +kernel
theorem d_Mod_follows_234 : decode b_Mod_follows 234 = .ok (.iload_n 0, 1) := by decide +kernel
theorem d_Mod_follows_235 : decode b_Mod_follows 235 = .ok (.bipush 123, 2) := by decide +kernel
theorem d_Mod_follows_237 : decode b_Mod_follows 237 = .ok (.if_icmp .eq 90, 3) := by decide +kernel
theorem d_Mod_follows_240 : decode b_Mod_follows 240 = .ok (.iload_n 0, 1) := by decide +kernel
theorem d_Mod_follows_241 : decode b_Mod_follows 241 = .ok (.bipush 125, 2) := by decide +kernel
theorem d_Mod_follows_243 : decode b_Mod_follows 243 = .ok (.if_icmp .eq 84, 3) := by decide +kernel
theorem d_Mod_follows_246 : decode b_Mod_follows 246 = .ok (.iload_n 0, 1) := by decide +kernel
theorem d_Mod_follows_247 : decode b_Mod_follows 247 = .ok (.bipush 116, 2) := by decide +kernel
theorem d_Mod_follows_249 : decode b_Mod_follows 249 = .ok (.if_icmp .eq 78, 3) := by decide +kernel
theorem d_Mod_follows_252 : decode b_Mod_follows 252 = .ok (.iload_n 0, 1) := by decide +kernel
theorem d_Mod_follows_253 : decode b_Mod_follows 253 = .ok (.bipush 117, 2) := by decide +kernel
theorem d_Mod_follows_255 : decode b_Mod_follows 255 = .ok (.if_icmp .eq 72, 3) := by decide +kernel
theorem d_Mod_follows_258 : decode b_Mod_follows 258 = .ok (.iload_n 0, 1) := by decide +kernel
theorem d_Mod_follows_259 : decode b_Mod_follows 259 = .ok (.sipush 133, 3) := by decide +kernel
theorem d_Mod_follows_262 : decode b_Mod_follows 262 = .ok (.if_icmp .eq 65, 3) := by decide +kernel
theorem d_Mod_follows_265 : decode b_Mod_follows 265 = .ok (.iload_n 0, 1) := by decide +kernel
theorem d_Mod_follows_266 : decode b_Mod_follows 266 = .ok (.sipush 136, 3) := by decide +kernel
theorem d_Mod_follows_269 : decode b_Mod_follows 269 = .ok (.if_icmp .eq 58, 3) := by decide +kernel
theorem d_Mod_follows_272 : decode b_Mod_follows 272 = .ok (.iload_n 0, 1) := by decide +kernel
theorem d_Mod_follows_273 : decode b_Mod_follows 273 = .ok (.sipush 145, 3) := by decide +kernel
theorem d_Mod_follows_276 : decode b_Mod_follows 276 = .ok (.sipush 148, 3) := by decide +kernel
theorem d_Mod_follows_279 : decode b_Mod_follows 279 = .ok (.invokestatic 136, 3) := by decide +kernel
theorem d_Mod_follows_282 : decode b_Mod_follows 282 = .ok (.ifCond .ne 45, 3) := by decide +kernel
theorem d_Mod_follows_285 : decode b_Mod_follows 285 = .ok (.iload_n 0, 1) := by decide +kernel
theorem d_Mod_follows_286 : decode b_Mod_follows 286 = .ok (.sipush 172, 3) := by decide +kernel
theorem d_Mod_follows_289 : decode b_Mod_follows 289 = .ok (.if_icmp .eq 38, 3) := by decide +kernel
theorem d_Mod_follows_292 : decode b_Mod_follows 292 = .ok (.iload_n 0, 1) := by decide +kernel
theorem d_Mod_follows_293 : decode b_Mod_follows 293 = .ok (.sipush 173, 3) := by decide +kernel
theorem d_Mod_follows_296 : decode b_Mod_follows 296 = .ok (.if_icmp .eq 31, 3) := by decide +kernel
theorem d_Mod_follows_299 : decode b_Mod_follows 299 = .ok (.iload_n 0, 1) := by decide +kernel
theorem d_Mod_follows_300 : decode b_Mod_follows 300 = .ok (.sipush 176, 3) := by decide +kernel
theorem d_Mod_follows_303 : decode b_Mod_follows 303 = .ok (.if_icmp .eq 24, 3) := by decide +kernel
theorem d_Mod_follows_306 : decode b_Mod_follows 306 = .ok (.iload_n 0, 1) := by decide +kernel
theorem d_Mod_follows_307 : decode b_Mod_follows 307 = .ok (.sipush 177, 3) := by decide +kernel
theorem d_Mod_follows_310 : decode b_Mod_follows 310 = .ok (.if_icmp .eq 17, 3) := by decide +kernel
theorem d_Mod_follows_313 : decode b_Mod_follows 313 = .ok (.iload_n 0, 1) := by decide +kernel
theorem d_Mod_follows_314 : decode b_Mod_follows 314 = .ok (.sipush 190, 3) := by decide +kernel
theorem d_Mod_follows_317 : decode b_Mod_follows 317 = .ok (.if_icmp .eq 10, 3) := by decide +kernel
theorem d_Mod_follows_320 : decode b_Mod_follows 320 = .ok (.iload_n 0, 1) := by decide +kernel
theorem d_Mod_follows_321 : decode b_Mod_follows 321 = .ok (.sipush 191, 3) := by decide +kernel
theorem d_Mod_follows_324 : decode b_Mod_follows 324 = .ok (.if_icmp .ne 7, 3) := by decide +kernel
theorem d_Mod_follows_327 : decode b_Mod_follows 327 = .ok (.iconst 1, 1) := by decide +kernel
theorem d_Mod_follows_328 : decode b_Mod_follows 328 = .ok (.goto 4, 3) := by decide +kernel
theorem d_Mod_follows_331 : decode b_Mod_follows 331 = .ok (.iconst 0, 1) := by decide +kernel
theorem d_Mod_follows_332 : decode b_Mod_follows 332 = .ok (.istore_n 1, 1) := by decide +kernel
theorem d_Mod_follows_333 : decode b_Mod_follows 333 = .ok (.iload_n 1, 1) := by decide +kernel
theorem d_Mod_follows_334 : decode b_Mod_follows 334 = .ok (.ifCond .eq 7, 3) := by decide +kernel
theorem d_Mod_follows_337 : decode b_Mod_follows 337 = .ok (.iconst 0, 1) := by decide +kernel
theorem d_Mod_follows_338 : decode b_Mod_follows 338 = .ok (.goto 4, 3) := by decide +kernel
theorem d_Mod_follows_341 : decode b_Mod_follows 341 = .ok (.iconst (-1), 1) := by decide +kernel
theorem d_Mod_follows_342 : decode b_Mod_follows 342 = .ok (.ireturn, 1) := by decide +kernel
theorem d_Mod_isIntegers_0 : decode b_Mod_isIntegers 0 = .ok (.iload_n 0, 1) := by decide +kernel
theorem d_Mod_isIntegers_1 : decode b_Mod_isIntegers 1 = .ok (.bipush 96, 2) := by decide +kernel
theorem d_Mod_isIntegers_3 : decode b_Mod_isIntegers 3 = .ok (.if_icmp .eq 65, 3) := by decide +kernel
theorem d_Mod_isIntegers_6 : decode b_Mod_isIntegers 6 = .ok (.iload_n 0, 1) := by decide +kernel
theorem d_Mod_isIntegers_7 : decode b_Mod_isIntegers 7 = .ok (.bipush 100, 2) := by decide +kernel
theorem d_Mod_isIntegers_9 : decode b_Mod_isIntegers 9 = .ok (.if_icmp .eq 59, 3) := by decide +kernel
theorem d_Mod_isIntegers_12 : decode b_Mod_isIntegers 12 = .ok (.iload_n 0, 1) := by decide +kernel
theorem d_Mod_isIntegers_13 : decode b_Mod_isIntegers 13 = .ok (.bipush 104, 2) := by decide +kernel
theorem d_Mod_isIntegers_15 : decode b_Mod_isIntegers 15 = .ok (.if_icmp .eq 53, 3) := by decide +kernel
theorem d_Mod_isIntegers_18 : decode b_Mod_isIntegers 18 = .ok (.iload_n 0, 1) := by decide +kernel
theorem d_Mod_isIntegers_19 : decode b_Mod_isIntegers 19 = .ok (.bipush 108, 2) := by decide +kernel
theorem d_Mod_isIntegers_21 : decode b_Mod_isIntegers 21 = .ok (.if_icmp .eq 47, 3) := by decide +kernel
theorem d_Mod_isIntegers_24 : decode b_Mod_isIntegers 24 = .ok (.iload_n 0, 1) := by decide +kernel
theorem d_Mod_isIntegers_25 : decode b_Mod_isIntegers 25 = .ok (.bipush 112, 2) := by decide +kernel
theorem d_Mod_isIntegers_27 : decode b_Mod_isIntegers 27 = .ok (.if_icmp .eq 41, 3) := by decide +kernel
theorem d_Mod_isIntegers_30 : decode b_Mod_isIntegers 30 = .ok (.iload_n 0, 1) := by decide +kernel
theorem d_Mod_isIntegers_31 : decode b_Mod_isIntegers 31 = .ok (.bipush 120, 2) := by decide +kernel
theorem d_Mod_isIntegers_33 : decode b_Mod_isIntegers 33 = .ok (.if_icmp .eq 35, 3) := by decide +kernel
theorem d_Mod_isIntegers_36 : decode b_Mod_isIntegers 36 = .ok (.iload_n 0, 1) := by decide +kernel
theorem d_Mod_isIntegers_37 : decode b_Mod_isIntegers 37 = .ok (.bipush 122, 2) := by decide +kernel
theorem d_Mod_isIntegers_39 : decode b_Mod_isIntegers 39 = .ok (.if_icmp .eq 29, 3) := by decide +kernel
theorem d_Mod_isIntegers_42 : decode b_Mod_isIntegers 42 = .ok (.iload_n 0, 1) := by decide +kernel
theorem d_Mod_isIntegers_43 : decode b_Mod_isIntegers 43 = .ok (.bipush 124, 2) := by decide +kernel
theorem d_Mod_isIntegers_45 : decode b_Mod_isIntegers 45 = .ok (.if_icmp .eq 23, 3) := by decide +kernel
theorem d_Mod_isIntegers_48 : decode b_Mod_isIntegers 48 = .ok (.iload_n 0, 1) := by decide +kernel
theorem d_Mod_isIntegers_49 : decode b_Mod_isIntegers 49 = .ok (.bipush 126, 2) := by decide +kernel
theorem d_Mod_isIntegers_51 : decode b_Mod_isIntegers 51 = .ok (.if_icmp .eq 17, 3) := by decide +kernel
theorem d_Mod_isIntegers_54 : decode b_Mod_isIntegers 54 = .ok (.iload_n 0, 1) := by decide +kernel
theorem d_Mod_isIntegers_55 : decode b_Mod_isIntegers 55 = .ok (.sipush 128, 3) := by decide +kernel
theorem d_Mod_isIntegers_58 : decode b_Mod_isIntegers 58 = .ok (.if_icmp .eq 10, 3) := by decide +kernel
theorem d_Mod_isIntegers_61 : decode b_Mod_isIntegers 61 = .ok (.iload_n 0, 1) := by decide +kernel
theorem d_Mod_isIntegers_62 : decode b_Mod_isIntegers 62 = .ok (.sipush 130, 3) := by decide +kernel
theorem d_Mod_isIntegers_65 : decode b_Mod_isIntegers 65 = .ok (.if_icmp .ne 7, 3) := by decide +kernel
theorem d_Mod_isIntegers_68 : decode b_Mod_isIntegers 68 = .ok (.iconst 1, 1) := by decide +kernel
theorem d_Mod_isIntegers_69 : decode b_Mod_isIntegers 69 = .ok (.goto 4, 3) := by decide +kernel
theorem d_Mod_isIntegers_72 : decode b_Mod_isIntegers 72 = .ok (.iconst 0, 1) := by decide +kernel
theorem d_Mod_isIntegers_73 : decode b_Mod_isIntegers 73 = .ok (.ireturn, 1) := by decide +kernel
theorem d_Mod_isLongs_0 : decode b_Mod_isLongs 0 = .ok (.iload_n 0, 1) := by decide +kernel
theorem d_Mod_isLongs_1 : decode b_Mod_isLongs 1 = .ok (.bipush 97, 2) := by decide +kernel
theorem d_Mod_isLongs_3 : decode b_Mod_isLongs 3 = .ok (.if_icmp .eq 47, 3) := by decide +kernel
theorem d_Mod_isLongs_6 : decode b_Mod_isLongs 6 = .ok (.iload_n 0, 1) := by decide +kernel
theorem d_Mod_isLongs_7 : decode b_Mod_isLongs 7 = .ok (.bipush 101, 2) := by decide +kernel
theorem d_Mod_isLongs_9 : decode b_Mod_isLongs 9 = .ok (.if_icmp .eq 41, 3) := by decide +kernel
theorem d_Mod_isLongs_12 : decode b_Mod_isLongs 12 = .ok (.iload_n 0, 1) := by decide +kernel
theorem d_Mod_isLongs_13 : decode b_Mod_isLongs 13 = .ok (.bipush 105, 2) := by decide +kernel
theorem d_Mod_isLongs_15 : decode b_Mod_isLongs 15 = .ok (.if_icmp .eq 35, 3) := by decide +kernel
theorem d_Mod_isLongs_18 : decode b_Mod_isLongs 18 = .ok (.iload_n 0, 1) := by decide +kernel
theorem d_Mod_isLongs_19 : decode b_Mod_isLongs 19 = .ok (.bipush 109, 2) := by decide +kernel
theorem d_Mod_isLongs_21 : decode b_Mod_isLongs 21 = .ok (.if_icmp .eq 29, 3) := by decide +kernel
theorem d_Mod_isLongs_24 : decode b_Mod_isLongs 24 = .ok (.iload_n 0, 1) := by decide +kernel
theorem d_Mod_isLongs_25 : decode b_Mod_isLongs 25 = .ok (.bipush 113, 2) := by decide +kernel
theorem d_Mod_isLongs_27 : decode b_Mod_isLongs 27 = .ok (.if_icmp .eq 23, 3) := by decide +kernel
theorem d_Mod_isLongs_30 : decode b_Mod_isLongs 30 = .ok (.iload_n 0, 1) := by decide +kernel
theorem d_Mod_isLongs_31 : decode b_Mod_isLongs 31 = .ok (.bipush 127, 2) := by decide +kernel
theorem d_Mod_isLongs_33 : decode b_Mod_isLongs 33 = .ok (.if_icmp .eq 17, 3) := by decide +kernel
theorem d_Mod_isLongs_36 : decode b_Mod_isLongs 36 = .ok (.iload_n 0, 1) := by decide +kernel
theorem d_Mod_isLongs_37 : decode b_Mod_isLongs 37 = .ok (.sipush 129, 3) := by decide +kernel
theorem d_Mod_isLongs_40 : decode b_Mod_isLongs 40 = .ok (.if_icmp .eq 10, 3) := by decide +kernel
theorem d_Mod_isLongs_43 : decode b_Mod_isLongs 43 = .ok (.iload_n 0, 1) := by decide +kernel
theorem d_Mod_isLongs_44 : decode b_Mod_isLongs 44 = .ok (.sipush 131, 3) := by decide +kernel
theorem d_Mod_isLongs_47 : decode b_Mod_isLongs 47 = .ok (.if_icmp .ne 7, 3) := by decide +kernel
theorem d_Mod_isLongs_50 : decode b_Mod_isLongs 50 = .ok (.iconst 1, 1) := by decide +kernel
theorem d_Mod_isLongs_51 : decode b_Mod_isLongs 51 = .ok (.goto 4, 3) := by decide +kernel
theorem d_Mod_isLongs_54 : decode b_Mod_isLongs 54 = .ok (.iconst 0, 1) := by decide +kernel
theorem d_Mod_isLongs_55 : decode b_Mod_isLongs 55 = .ok (.ireturn, 1) := by decide +kernel
