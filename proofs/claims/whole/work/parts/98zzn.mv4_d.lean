theorem d_Mod_act_0 : decode b_Mod_act 0 = .ok (.iload_n 1, 1) := by decide +kernel
theorem d_Mod_act_1 : decode b_Mod_act 1 = .ok (.sipush 153, 3) := by decide +kernel
theorem d_Mod_act_4 : decode b_Mod_act 4 = .ok (.if_icmp .lt 28, 3) := by decide +kernel
theorem d_Mod_act_7 : decode b_Mod_act 7 = .ok (.aload_n 0, 1) := by decide +kernel
theorem d_Mod_act_8 : decode b_Mod_act 8 = .ok (.getfield 309, 3) := by decide +kernel
theorem d_Mod_act_11 : decode b_Mod_act 11 = .ok (.iconst 2, 1) := by decide +kernel
theorem d_Mod_act_12 : decode b_Mod_act 12 = .ok (.iadd, 1) := by decide +kernel
theorem d_Mod_act_13 : decode b_Mod_act 13 = .ok (.sipush 600, 3) := by decide +kernel
theorem d_Mod_act_16 : decode b_Mod_act 16 = .ok (.if_icmp .ge 16, 3) := by decide +kernel
theorem d_Mod_act_19 : decode b_Mod_act 19 = .ok (.aload_n 0, 1) := by decide +kernel
theorem d_Mod_act_20 : decode b_Mod_act 20 = .ok (.aload_n 0, 1) := by decide +kernel
theorem d_Mod_act_21 : decode b_Mod_act 21 = .ok (.getfield 309, 3) := by decide +kernel
theorem d_Mod_act_24 : decode b_Mod_act 24 = .ok (.iconst 1, 1) := by decide +kernel
theorem d_Mod_act_25 : decode b_Mod_act 25 = .ok (.iadd, 1) := by decide +kernel
theorem d_Mod_act_26 : decode b_Mod_act 26 = .ok (.invokevirtual 294, 3) := by decide +kernel
theorem d_Mod_act_29 : decode b_Mod_act 29 = .ok (.goto 4, 3) := by decide +kernel
theorem d_Mod_act_32 : decode b_Mod_act 32 = .ok (.iconst 0, 1) := by decide +kernel
theorem d_Mod_act_33 : decode b_Mod_act 33 = .ok (.istore_n 2, 1) := by decide +kernel
theorem d_Mod_act_34 : decode b_Mod_act 34 = .ok (.iload_n 1, 1) := by decide +kernel
theorem d_Mod_act_35 : decode b_Mod_act 35 = .ok (.sipush 132, 3) := by decide +kernel
theorem d_Mod_act_38 : decode b_Mod_act 38 = .ok (.if_icmp .ne 59, 3) := by decide +kernel
theorem d_Mod_act_41 : decode b_Mod_act 41 = .ok (.aload_n 0, 1) := by decide +kernel
theorem d_Mod_act_42 : decode b_Mod_act 42 = .ok (.aload_n 0, 1) := by decide +kernel
theorem d_Mod_act_43 : decode b_Mod_act 43 = .ok (.getfield 7, 3) := by decide +kernel
theorem d_Mod_act_46 : decode b_Mod_act 46 = .ok (.aload_n 0, 1) := by decide +kernel
theorem d_Mod_act_47 : decode b_Mod_act 47 = .ok (.getfield 309, 3) := by decide +kernel
theorem d_Mod_act_50 : decode b_Mod_act 50 = .ok (.iconst 1, 1) := by decide +kernel
theorem d_Mod_act_51 : decode b_Mod_act 51 = .ok (.iadd, 1) := by decide +kernel
theorem d_Mod_act_52 : decode b_Mod_act 52 = .ok (.iaload, 1) := by decide +kernel
theorem d_Mod_act_53 : decode b_Mod_act 53 = .ok (.iconst 1, 1) := by decide +kernel
theorem d_Mod_act_54 : decode b_Mod_act 54 = .ok (.invokevirtual 318, 3) := by decide +kernel
theorem d_Mod_act_57 : decode b_Mod_act 57 = .ok (.aload_n 0, 1) := by decide +kernel
theorem d_Mod_act_58 : decode b_Mod_act 58 = .ok (.getfield 147, 3) := by decide +kernel
theorem d_Mod_act_61 : decode b_Mod_act 61 = .ok (.ifCond .ne 354, 3) := by decide +kernel
theorem d_Mod_act_64 : decode b_Mod_act 64 = .ok (.aload_n 0, 1) := by decide +kernel
theorem d_Mod_act_65 : decode b_Mod_act 65 = .ok (.getfield 100, 3) := by decide +kernel
theorem d_Mod_act_68 : decode b_Mod_act 68 = .ok (.aload_n 0, 1) := by decide +kernel
theorem d_Mod_act_69 : decode b_Mod_act 69 = .ok (.getfield 7, 3) := by decide +kernel
theorem d_Mod_act_72 : decode b_Mod_act 72 = .ok (.aload_n 0, 1) := by decide +kernel
theorem d_Mod_act_73 : decode b_Mod_act 73 = .ok (.getfield 309, 3) := by decide +kernel
theorem d_Mod_act_76 : decode b_Mod_act 76 = .ok (.iconst 1, 1) := by decide +kernel
theorem d_Mod_act_77 : decode b_Mod_act 77 = .ok (.iadd, 1) := by decide +kernel
theorem d_Mod_act_78 : decode b_Mod_act 78 = .ok (.iaload, 1) := by decide +kernel
theorem d_Mod_act_79 : decode b_Mod_act 79 = .ok (.iaload, 1) := by decide +kernel
theorem d_Mod_act_80 : decode b_Mod_act 80 = .ok (.iconst 1, 1) := by decide +kernel
theorem d_Mod_act_81 : decode b_Mod_act 81 = .ok (.if_icmp .eq 334, 3) := by decide +kernel
theorem d_Mod_act_84 : decode b_Mod_act 84 = .ok (.aload_n 0, 1) := by decide +kernel
theorem d_Mod_act_85 : decode b_Mod_act 85 = .ok (.bipush 23, 2) := by decide +kernel
theorem d_Mod_act_87 : decode b_Mod_act 87 = .ok (.aload_n 0, 1) := by decide +kernel
theorem d_Mod_act_88 : decode b_Mod_act 88 = .ok (.getfield 309, 3) := by decide +kernel
theorem d_Mod_act_91 : decode b_Mod_act 91 = .ok (.invokevirtual 159, 3) := by decide +kernel
theorem d_Mod_act_94 : decode b_Mod_act 94 = .ok (.goto 321, 3) := by decide +kernel
theorem d_Mod_act_97 : decode b_Mod_act 97 = .ok (.iload_n 1, 1) := by decide +kernel
theorem d_Mod_act_98 : decode b_Mod_act 98 = .ok (.sipush 153, 3) := by decide +kernel
theorem d_Mod_act_101 : decode b_Mod_act 101 = .ok (.sipush 166, 3) := by decide +kernel
theorem d_Mod_act_104 : decode b_Mod_act 104 = .ok (.invokestatic 136, 3) := by decide +kernel
theorem d_Mod_act_107 : decode b_Mod_act 107 = .ok (.ifCond .eq 45, 3) := by decide +kernel
theorem d_Mod_act_110 : decode b_Mod_act 110 = .ok (.aload_n 0, 1) := by decide +kernel
theorem d_Mod_act_111 : decode b_Mod_act 111 = .ok (.iload_n 1, 1) := by decide +kernel
theorem d_Mod_act_112 : decode b_Mod_act 112 = .ok (.sipush 164, 3) := by decide +kernel
theorem d_Mod_act_115 : decode b_Mod_act 115 = .ok (.if_icmp .le 7, 3) := by decide +kernel
theorem d_Mod_act_118 : decode b_Mod_act 118 = .ok (.iconst 4, 1) := by decide +kernel
theorem d_Mod_act_119 : decode b_Mod_act 119 = .ok (.goto 4, 3) := by decide +kernel
theorem d_Mod_act_122 : decode b_Mod_act 122 = .ok (.iconst 1, 1) := by decide +kernel
theorem d_Mod_act_123 : decode b_Mod_act 123 = .ok (.invokevirtual 324, 3) := by decide +kernel
theorem d_Mod_act_126 : decode b_Mod_act 126 = .ok (.iload_n 1, 1) := by decide +kernel
theorem d_Mod_act_127 : decode b_Mod_act 127 = .ok (.sipush 158, 3) := by decide +kernel
theorem d_Mod_act_130 : decode b_Mod_act 130 = .ok (.if_icmp .le 285, 3) := by decide +kernel
theorem d_Mod_act_133 : decode b_Mod_act 133 = .ok (.aload_n 0, 1) := by decide +kernel
theorem d_Mod_act_134 : decode b_Mod_act 134 = .ok (.iload_n 1, 1) := by decide +kernel
theorem d_Mod_act_135 : decode b_Mod_act 135 = .ok (.sipush 164, 3) := by decide +kernel
theorem d_Mod_act_138 : decode b_Mod_act 138 = .ok (.if_icmp .le 7, 3) := by decide +kernel
theorem d_Mod_act_141 : decode b_Mod_act 141 = .ok (.iconst 4, 1) := by decide +kernel
theorem d_Mod_act_142 : decode b_Mod_act 142 = .ok (.goto 4, 3) := by decide +kernel
theorem d_Mod_act_145 : decode b_Mod_act 145 = .ok (.iconst 1, 1) := by decide +kernel
theorem d_Mod_act_146 : decode b_Mod_act 146 = .ok (.invokevirtual 324, 3) := by decide +kernel
theorem d_Mod_act_149 : decode b_Mod_act 149 = .ok (.goto 266, 3) := by decide +kernel
theorem d_Mod_act_152 : decode b_Mod_act 152 = .ok (.iload_n 1, 1) := by decide +kernel
theorem d_Mod_act_153 : decode b_Mod_act 153 = .ok (.sipush 198, 3) := by decide +kernel
theorem d_Mod_act_156 : decode b_Mod_act 156 = .ok (.if_icmp .eq 10, 3) := by decide +kernel
theorem d_Mod_act_159 : decode b_Mod_act 159 = .ok (.iload_n 1, 1) := by decide +kernel
theorem d_Mod_act_160 : decode b_Mod_act 160 = .ok (.sipush 199, 3) := by decide +kernel
theorem d_Mod_act_163 : decode b_Mod_act 163 = .ok (.if_icmp .ne 11, 3) := by decide +kernel
theorem d_Mod_act_166 : decode b_Mod_act 166 = .ok (.aload_n 0, 1) := by decide +kernel
theorem d_Mod_act_167 : decode b_Mod_act 167 = .ok (.iconst 4, 1) := by decide +kernel
theorem d_Mod_act_168 : decode b_Mod_act 168 = .ok (.invokevirtual 324, 3) := by decide +kernel
theorem d_Mod_act_171 : decode b_Mod_act 171 = .ok (.goto 244, 3) := by decide +kernel
theorem d_Mod_act_174 : decode b_Mod_act 174 = .ok (.iload_n 1, 1) := by decide +kernel
theorem d_Mod_act_175 : decode b_Mod_act 175 = .ok (.sipush 172, 3) := by decide +kernel
theorem d_Mod_act_178 : decode b_Mod_act 178 = .ok (.if_icmp .eq 24, 3) := by decide +kernel
theorem d_Mod_act_181 : decode b_Mod_act 181 = .ok (.iload_n 1, 1) := by decide +kernel
theorem d_Mod_act_182 : decode b_Mod_act 182 = .ok (.sipush 173, 3) := by decide +kernel
theorem d_Mod_act_185 : decode b_Mod_act 185 = .ok (.if_icmp .eq 17, 3) := by decide +kernel
theorem d_Mod_act_188 : decode b_Mod_act 188 = .ok (.iload_n 1, 1) := by decide +kernel
theorem d_Mod_act_189 : decode b_Mod_act 189 = .ok (.sipush 176, 3) := by decide +kernel
theorem d_Mod_act_192 : decode b_Mod_act 192 = .ok (.if_icmp .eq 10, 3) := by decide +kernel
theorem d_Mod_act_195 : decode b_Mod_act 195 = .ok (.iload_n 1, 1) := by decide +kernel
theorem d_Mod_act_196 : decode b_Mod_act 196 = .ok (.sipush 177, 3) := by decide +kernel
theorem d_Mod_act_199 : decode b_Mod_act 199 = .ok (.if_icmp .ne 44, 3) := by decide +kernel
theorem d_Mod_act_202 : decode b_Mod_act 202 = .ok (.aload_n 0, 1) := by decide +kernel
theorem d_Mod_act_203 : decode b_Mod_act 203 = .ok (.iload_n 1, 1) := by decide +kernel
theorem d_Mod_act_204 : decode b_Mod_act 204 = .ok (.sipush 172, 3) := by decide +kernel
theorem d_Mod_act_207 : decode b_Mod_act 207 = .ok (.if_icmp .ne 7, 3) := by decide +kernel
theorem d_Mod_act_210 : decode b_Mod_act 210 = .ok (.iconst 1, 1) := by decide +kernel
theorem d_Mod_act_211 : decode b_Mod_act 211 = .ok (.goto 26, 3) := by decide +kernel
theorem d_Mod_act_214 : decode b_Mod_act 214 = .ok (.iload_n 1, 1) := by decide +kernel
theorem d_Mod_act_215 : decode b_Mod_act 215 = .ok (.sipush 173, 3) := by decide +kernel
theorem d_Mod_act_218 : decode b_Mod_act 218 = .ok (.if_icmp .ne 7, 3) := by decide +kernel
theorem d_Mod_act_221 : decode b_Mod_act 221 = .ok (.iconst 2, 1) := by decide +kernel
theorem d_Mod_act_222 : decode b_Mod_act 222 = .ok (.goto 15, 3) := by decide +kernel
theorem d_Mod_act_225 : decode b_Mod_act 225 = .ok (.iload_n 1, 1) := by decide +kernel
theorem d_Mod_act_226 : decode b_Mod_act 226 = .ok (.sipush 176, 3) := by decide +kernel
theorem d_Mod_act_229 : decode b_Mod_act 229 = .ok (.if_icmp .ne 7, 3) := by decide +kernel
theorem d_Mod_act_232 : decode b_Mod_act 232 = .ok (.iconst 4, 1) := by decide +kernel
theorem d_Mod_act_233 : decode b_Mod_act 233 = .ok (.goto 4, 3) := by decide +kernel
theorem d_Mod_act_236 : decode b_Mod_act 236 = .ok (.iconst 0, 1) := by decide +kernel
theorem d_Mod_act_237 : decode b_Mod_act 237 = .ok (.invokevirtual 352, 3) := by decide +kernel
theorem d_Mod_act_240 : decode b_Mod_act 240 = .ok (.goto 175, 3) := by decide +kernel
theorem d_Mod_act_243 : decode b_Mod_act 243 = .ok (.iload_n 1, 1) := by decide +kernel
theorem d_Mod_act_244 : decode b_Mod_act 244 = .ok (.sipush 178, 3) := by decide +kernel
theorem d_Mod_act_247 : decode b_Mod_act 247 = .ok (.sipush 181, 3) := by decide +kernel
theorem d_Mod_act_250 : decode b_Mod_act 250 = .ok (.invokestatic 136, 3) := by decide +kernel
theorem d_Mod_act_253 : decode b_Mod_act 253 = .ok (.ifCond .eq 12, 3) := by decide +kernel
theorem d_Mod_act_256 : decode b_Mod_act 256 = .ok (.aload_n 0, 1) := by decide +kernel
theorem d_Mod_act_257 : decode b_Mod_act 257 = .ok (.iload_n 1, 1) := by decide +kernel
theorem d_Mod_act_258 : decode b_Mod_act 258 = .ok (.iload_n 2, 1) := by decide +kernel
theorem d_Mod_act_259 : decode b_Mod_act 259 = .ok (.invokevirtual 355, 3) := by decide +kernel
theorem d_Mod_act_262 : decode b_Mod_act 262 = .ok (.goto 153, 3) := by decide +kernel
theorem d_Mod_act_265 : decode b_Mod_act 265 = .ok (.iload_n 1, 1) := by decide +kernel
theorem d_Mod_act_266 : decode b_Mod_act 266 = .ok (.sipush 182, 3) := by decide +kernel
theorem d_Mod_act_269 : decode b_Mod_act 269 = .ok (.sipush 184, 3) := by decide +kernel
theorem d_Mod_act_272 : decode b_Mod_act 272 = .ok (.invokestatic 136, 3) := by decide +kernel
theorem d_Mod_act_275 : decode b_Mod_act 275 = .ok (.ifCond .eq 12, 3) := by decide +kernel
theorem d_Mod_act_278 : decode b_Mod_act 278 = .ok (.aload_n 0, 1) := by decide +kernel
theorem d_Mod_act_279 : decode b_Mod_act 279 = .ok (.iload_n 1, 1) := by decide +kernel
theorem d_Mod_act_280 : decode b_Mod_act 280 = .ok (.iload_n 2, 1) := by decide +kernel
theorem d_Mod_act_281 : decode b_Mod_act 281 = .ok (.invokevirtual 358, 3) := by decide +kernel
theorem d_Mod_act_284 : decode b_Mod_act 284 = .ok (.goto 131, 3) := by decide +kernel
theorem d_Mod_act_287 : decode b_Mod_act 287 = .ok (.iload_n 1, 1) := by decide +kernel
theorem d_Mod_act_288 : decode b_Mod_act 288 = .ok (.sipush 187, 3) := by decide +kernel
theorem d_Mod_act_291 : decode b_Mod_act 291 = .ok (.if_icmp .eq 17, 3) := by decide +kernel
theorem d_Mod_act_294 : decode b_Mod_act 294 = .ok (.iload_n 1, 1) := by decide +kernel
theorem d_Mod_act_295 : decode b_Mod_act 295 = .ok (.sipush 192, 3) := by decide +kernel
theorem d_Mod_act_298 : decode b_Mod_act 298 = .ok (.if_icmp .eq 10, 3) := by decide +kernel
theorem d_Mod_act_301 : decode b_Mod_act 301 = .ok (.iload_n 1, 1) := by decide +kernel
theorem d_Mod_act_302 : decode b_Mod_act 302 = .ok (.sipush 193, 3) := by decide +kernel
theorem d_Mod_act_305 : decode b_Mod_act 305 = .ok (.if_icmp .ne 45, 3) := by decide +kernel
theorem d_Mod_act_308 : decode b_Mod_act 308 = .ok (.aload_n 0, 1) := by decide +kernel
theorem d_Mod_act_309 : decode b_Mod_act 309 = .ok (.aload_n 0, 1) := by decide +kernel
theorem d_Mod_act_310 : decode b_Mod_act 310 = .ok (.iload_n 2, 1) := by decide +kernel
theorem d_Mod_act_311 : decode b_Mod_act 311 = .ok (.bipush 7, 2) := by decide +kernel
theorem d_Mod_act_313 : decode b_Mod_act 313 = .ok (.invokevirtual 184, 3) := by decide +kernel
theorem d_Mod_act_316 : decode b_Mod_act 316 = .ok (.invokevirtual 330, 3) := by decide +kernel
theorem d_Mod_act_319 : decode b_Mod_act 319 = .ok (.iload_n 1, 1) := by decide +kernel
theorem d_Mod_act_320 : decode b_Mod_act 320 = .ok (.sipush 187, 3) := by decide +kernel
theorem d_Mod_act_323 : decode b_Mod_act 323 = .ok (.if_icmp .eq 8, 3) := by decide +kernel
theorem d_Mod_act_326 : decode b_Mod_act 326 = .ok (.aload_n 0, 1) := by decide +kernel
theorem d_Mod_act_327 : decode b_Mod_act 327 = .ok (.iconst 4, 1) := by decide +kernel
theorem d_Mod_act_328 : decode b_Mod_act 328 = .ok (.invokevirtual 324, 3) := by decide +kernel
theorem d_Mod_act_331 : decode b_Mod_act 331 = .ok (.aload_n 0, 1) := by decide +kernel
theorem d_Mod_act_332 : decode b_Mod_act 332 = .ok (.iload_n 1, 1) := by decide +kernel
theorem d_Mod_act_333 : decode b_Mod_act 333 = .ok (.sipush 193, 3) := by decide +kernel
theorem d_Mod_act_336 : decode b_Mod_act 336 = .ok (.if_icmp .ne 7, 3) := by decide +kernel
theorem d_Mod_act_339 : decode b_Mod_act 339 = .ok (.iconst 1, 1) := by decide +kernel
theorem d_Mod_act_340 : decode b_Mod_act 340 = .ok (.goto 4, 3) := by decide +kernel
theorem d_Mod_act_343 : decode b_Mod_act 343 = .ok (.iconst 4, 1) := by decide +kernel
theorem d_Mod_act_344 : decode b_Mod_act 344 = .ok (.invokevirtual 321, 3) := by decide +kernel
theorem d_Mod_act_347 : decode b_Mod_act 347 = .ok (.goto 68, 3) := by decide +kernel
theorem d_Mod_act_350 : decode b_Mod_act 350 = .ok (.iload_n 1, 1) := by decide +kernel
theorem d_Mod_act_351 : decode b_Mod_act 351 = .ok (.sipush 190, 3) := by decide +kernel
theorem d_Mod_act_354 : decode b_Mod_act 354 = .ok (.if_icmp .eq 10, 3) := by decide +kernel
theorem d_Mod_act_357 : decode b_Mod_act 357 = .ok (.iload_n 1, 1) := by decide +kernel
theorem d_Mod_act_358 : decode b_Mod_act 358 = .ok (.sipush 191, 3) := by decide +kernel
theorem d_Mod_act_361 : decode b_Mod_act 361 = .ok (.if_icmp .ne 23, 3) := by decide +kernel
theorem d_Mod_act_364 : decode b_Mod_act 364 = .ok (.aload_n 0, 1) := by decide +kernel
theorem d_Mod_act_365 : decode b_Mod_act 365 = .ok (.iconst 4, 1) := by decide +kernel
theorem d_Mod_act_366 : decode b_Mod_act 366 = .ok (.invokevirtual 324, 3) := by decide +kernel
theorem d_Mod_act_369 : decode b_Mod_act 369 = .ok (.iload_n 1, 1) := by decide +kernel
theorem d_Mod_act_370 : decode b_Mod_act 370 = .ok (.sipush 190, 3) := by decide +kernel
theorem d_Mod_act_373 : decode b_Mod_act 373 = .ok (.if_icmp .ne 42, 3) := by decide +kernel
theorem d_Mod_act_376 : decode b_Mod_act 376 = .ok (.aload_n 0, 1) := by decide +kernel
theorem d_Mod_act_377 : decode b_Mod_act 377 = .ok (.iconst 1, 1) := by decide +kernel
theorem d_Mod_act_378 : decode b_Mod_act 378 = .ok (.invokevirtual 321, 3) := by decide +kernel
theorem d_Mod_act_381 : decode b_Mod_act 381 = .ok (.goto 34, 3) := by decide +kernel
theorem d_Mod_act_384 : decode b_Mod_act 384 = .ok (.iload_n 1, 1) := by decide +kernel
theorem d_Mod_act_385 : decode b_Mod_act 385 = .ok (.sipush 167, 3) := by decide +kernel
theorem d_Mod_act_388 : decode b_Mod_act 388 = .ok (.if_icmp .eq 27, 3) := by decide +kernel
theorem d_Mod_act_391 : decode b_Mod_act 391 = .ok (.iload_n 1, 1) := by decide +kernel
theorem d_Mod_act_392 : decode b_Mod_act 392 = .ok (.bipush 87, 2) := by decide +kernel
theorem d_Mod_act_394 : decode b_Mod_act 394 = .ok (.bipush 95, 2) := by decide +kernel
theorem d_Mod_act_396 : decode b_Mod_act 396 = .ok (.invokestatic 136, 3) := by decide +kernel
theorem d_Mod_act_399 : decode b_Mod_act 399 = .ok (.ifCond .eq 11, 3) := by decide +kernel
theorem d_Mod_act_402 : decode b_Mod_act 402 = .ok (.aload_n 0, 1) := by decide +kernel
theorem d_Mod_act_403 : decode b_Mod_act 403 = .ok (.iload_n 1, 1) := by decide +kernel
theorem d_Mod_act_404 : decode b_Mod_act 404 = .ok (.invokevirtual 361, 3) := by decide +kernel
theorem d_Mod_act_407 : decode b_Mod_act 407 = .ok (.goto 8, 3) := by decide +kernel
theorem d_Mod_act_410 : decode b_Mod_act 410 = .ok (.aload_n 0, 1) := by decide +kernel
theorem d_Mod_act_411 : decode b_Mod_act 411 = .ok (.iload_n 1, 1) := by decide +kernel
theorem d_Mod_act_412 : decode b_Mod_act 412 = .ok (.invokevirtual 364, 3) := by decide +kernel
theorem d_Mod_act_415 : decode b_Mod_act 415 = .ok (.return_, 1) := by decide +kernel
