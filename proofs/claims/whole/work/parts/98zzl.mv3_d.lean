theorem d_Mod_simple_0 : decode b_Mod_simple 0 = .ok (.aload_n 0, 1) := by decide +kernel
theorem d_Mod_simple_1 : decode b_Mod_simple 1 = .ok (.getfield 309, 3) := by decide +kernel
theorem d_Mod_simple_4 : decode b_Mod_simple 4 = .ok (.iconst 1, 1) := by decide +kernel
theorem d_Mod_simple_5 : decode b_Mod_simple 5 = .ok (.iadd, 1) := by decide +kernel
theorem d_Mod_simple_6 : decode b_Mod_simple 6 = .ok (.sipush 600, 3) := by decide +kernel
theorem d_Mod_simple_9 : decode b_Mod_simple 9 = .ok (.if_icmp .ge 17, 3) := by decide +kernel
theorem d_Mod_simple_12 : decode b_Mod_simple 12 = .ok (.aload_n 0, 1) := by decide +kernel
theorem d_Mod_simple_13 : decode b_Mod_simple 13 = .ok (.getfield 7, 3) := by decide +kernel
theorem d_Mod_simple_16 : decode b_Mod_simple 16 = .ok (.aload_n 0, 1) := by decide +kernel
theorem d_Mod_simple_17 : decode b_Mod_simple 17 = .ok (.getfield 309, 3) := by decide +kernel
theorem d_Mod_simple_20 : decode b_Mod_simple 20 = .ok (.iconst 1, 1) := by decide +kernel
theorem d_Mod_simple_21 : decode b_Mod_simple 21 = .ok (.iadd, 1) := by decide +kernel
theorem d_Mod_simple_22 : decode b_Mod_simple 22 = .ok (.iaload, 1) := by decide +kernel
theorem d_Mod_simple_23 : decode b_Mod_simple 23 = .ok (.goto 4, 3) := by decide +kernel
theorem d_Mod_simple_26 : decode b_Mod_simple 26 = .ok (.iconst 0, 1) := by decide +kernel
theorem d_Mod_simple_27 : decode b_Mod_simple 27 = .ok (.istore_n 2, 1) := by decide +kernel
theorem d_Mod_simple_28 : decode b_Mod_simple 28 = .ok (.iload_n 1, 1) := by decide +kernel
theorem d_Mod_simple_29 : decode b_Mod_simple 29 = .ok (.iconst 1, 1) := by decide +kernel
theorem d_Mod_simple_30 : decode b_Mod_simple 30 = .ok (.if_icmp .ne 11, 3) := by decide +kernel
theorem d_Mod_simple_33 : decode b_Mod_simple 33 = .ok (.aload_n 0, 1) := by decide +kernel
theorem d_Mod_simple_34 : decode b_Mod_simple 34 = .ok (.iconst 4, 1) := by decide +kernel
theorem d_Mod_simple_35 : decode b_Mod_simple 35 = .ok (.invokevirtual 321, 3) := by decide +kernel
theorem d_Mod_simple_38 : decode b_Mod_simple 38 = .ok (.goto 361, 3) := by decide +kernel
theorem d_Mod_simple_41 : decode b_Mod_simple 41 = .ok (.iload_n 1, 1) := by decide +kernel
theorem d_Mod_simple_42 : decode b_Mod_simple 42 = .ok (.iconst 2, 1) := by decide +kernel
theorem d_Mod_simple_43 : decode b_Mod_simple 43 = .ok (.bipush 8, 2) := by decide +kernel
theorem d_Mod_simple_45 : decode b_Mod_simple 45 = .ok (.invokestatic 136, 3) := by decide +kernel
theorem d_Mod_simple_48 : decode b_Mod_simple 48 = .ok (.ifCond .ne 15, 3) := by decide +kernel
theorem d_Mod_simple_51 : decode b_Mod_simple 51 = .ok (.iload_n 1, 1) := by decide +kernel
theorem d_Mod_simple_52 : decode b_Mod_simple 52 = .ok (.bipush 16, 2) := by decide +kernel
theorem d_Mod_simple_54 : decode b_Mod_simple 54 = .ok (.if_icmp .eq 9, 3) := by decide +kernel
theorem d_Mod_simple_57 : decode b_Mod_simple 57 = .ok (.iload_n 1, 1) := by decide +kernel
theorem d_Mod_simple_58 : decode b_Mod_simple 58 = .ok (.bipush 17, 2) := by decide +kernel
theorem d_Mod_simple_60 : decode b_Mod_simple 60 = .ok (.if_icmp .ne 11, 3) := by decide +kernel
theorem d_Mod_simple_63 : decode b_Mod_simple 63 = .ok (.aload_n 0, 1) := by decide +kernel
theorem d_Mod_simple_64 : decode b_Mod_simple 64 = .ok (.iconst 1, 1) := by decide +kernel
theorem d_Mod_simple_65 : decode b_Mod_simple 65 = .ok (.invokevirtual 321, 3) := by decide +kernel
theorem d_Mod_simple_68 : decode b_Mod_simple 68 = .ok (.goto 331, 3) := by decide +kernel
theorem d_Mod_simple_71 : decode b_Mod_simple 71 = .ok (.iload_n 1, 1) := by decide +kernel
theorem d_Mod_simple_72 : decode b_Mod_simple 72 = .ok (.bipush 9, 2) := by decide +kernel
theorem d_Mod_simple_74 : decode b_Mod_simple 74 = .ok (.if_icmp .eq 9, 3) := by decide +kernel
theorem d_Mod_simple_77 : decode b_Mod_simple 77 = .ok (.iload_n 1, 1) := by decide +kernel
theorem d_Mod_simple_78 : decode b_Mod_simple 78 = .ok (.bipush 10, 2) := by decide +kernel
theorem d_Mod_simple_80 : decode b_Mod_simple 80 = .ok (.if_icmp .ne 11, 3) := by decide +kernel
theorem d_Mod_simple_83 : decode b_Mod_simple 83 = .ok (.aload_n 0, 1) := by decide +kernel
theorem d_Mod_simple_84 : decode b_Mod_simple 84 = .ok (.iconst 2, 1) := by decide +kernel
theorem d_Mod_simple_85 : decode b_Mod_simple 85 = .ok (.invokevirtual 321, 3) := by decide +kernel
theorem d_Mod_simple_88 : decode b_Mod_simple 88 = .ok (.goto 311, 3) := by decide +kernel
theorem d_Mod_simple_91 : decode b_Mod_simple 91 = .ok (.iload_n 1, 1) := by decide +kernel
theorem d_Mod_simple_92 : decode b_Mod_simple 92 = .ok (.bipush 18, 2) := by decide +kernel
theorem d_Mod_simple_94 : decode b_Mod_simple 94 = .ok (.if_icmp .ne 52, 3) := by decide +kernel
theorem d_Mod_simple_97 : decode b_Mod_simple 97 = .ok (.aload_n 0, 1) := by decide +kernel
theorem d_Mod_simple_98 : decode b_Mod_simple 98 = .ok (.aload_n 0, 1) := by decide +kernel
theorem d_Mod_simple_99 : decode b_Mod_simple 99 = .ok (.iload_n 2, 1) := by decide +kernel
theorem d_Mod_simple_100 : decode b_Mod_simple 100 = .ok (.iconst 3, 1) := by decide +kernel
theorem d_Mod_simple_101 : decode b_Mod_simple 101 = .ok (.invokevirtual 184, 3) := by decide +kernel
theorem d_Mod_simple_104 : decode b_Mod_simple 104 = .ok (.ifCond .ne 13, 3) := by decide +kernel
theorem d_Mod_simple_107 : decode b_Mod_simple 107 = .ok (.aload_n 0, 1) := by decide +kernel
theorem d_Mod_simple_108 : decode b_Mod_simple 108 = .ok (.iload_n 2, 1) := by decide +kernel
theorem d_Mod_simple_109 : decode b_Mod_simple 109 = .ok (.bipush 8, 2) := by decide +kernel
theorem d_Mod_simple_111 : decode b_Mod_simple 111 = .ok (.invokevirtual 184, 3) := by decide +kernel
theorem d_Mod_simple_114 : decode b_Mod_simple 114 = .ok (.ifCond .eq 7, 3) := by decide +kernel
theorem d_Mod_simple_117 : decode b_Mod_simple 117 = .ok (.iconst 1, 1) := by decide +kernel
theorem d_Mod_simple_118 : decode b_Mod_simple 118 = .ok (.goto 4, 3) := by decide +kernel
theorem d_Mod_simple_121 : decode b_Mod_simple 121 = .ok (.iconst 0, 1) := by decide +kernel
theorem d_Mod_simple_122 : decode b_Mod_simple 122 = .ok (.invokevirtual 330, 3) := by decide +kernel
theorem d_Mod_simple_125 : decode b_Mod_simple 125 = .ok (.aload_n 0, 1) := by decide +kernel
theorem d_Mod_simple_126 : decode b_Mod_simple 126 = .ok (.aload_n 0, 1) := by decide +kernel
theorem d_Mod_simple_127 : decode b_Mod_simple 127 = .ok (.iload_n 2, 1) := by decide +kernel
theorem d_Mod_simple_128 : decode b_Mod_simple 128 = .ok (.iconst 3, 1) := by decide +kernel
theorem d_Mod_simple_129 : decode b_Mod_simple 129 = .ok (.invokevirtual 184, 3) := by decide +kernel
theorem d_Mod_simple_132 : decode b_Mod_simple 132 = .ok (.ifCond .eq 7, 3) := by decide +kernel
theorem d_Mod_simple_135 : decode b_Mod_simple 135 = .ok (.iconst 1, 1) := by decide +kernel
theorem d_Mod_simple_136 : decode b_Mod_simple 136 = .ok (.goto 4, 3) := by decide +kernel
theorem d_Mod_simple_139 : decode b_Mod_simple 139 = .ok (.iconst 4, 1) := by decide +kernel
theorem d_Mod_simple_140 : decode b_Mod_simple 140 = .ok (.invokevirtual 321, 3) := by decide +kernel
theorem d_Mod_simple_143 : decode b_Mod_simple 143 = .ok (.goto 256, 3) := by decide +kernel
theorem d_Mod_simple_146 : decode b_Mod_simple 146 = .ok (.iload_n 1, 1) := by decide +kernel
theorem d_Mod_simple_147 : decode b_Mod_simple 147 = .ok (.bipush 20, 2) := by decide +kernel
theorem d_Mod_simple_149 : decode b_Mod_simple 149 = .ok (.if_icmp .ne 30, 3) := by decide +kernel
theorem d_Mod_simple_152 : decode b_Mod_simple 152 = .ok (.aload_n 0, 1) := by decide +kernel
theorem d_Mod_simple_153 : decode b_Mod_simple 153 = .ok (.aload_n 0, 1) := by decide +kernel
theorem d_Mod_simple_154 : decode b_Mod_simple 154 = .ok (.aload_n 0, 1) := by decide +kernel
theorem d_Mod_simple_155 : decode b_Mod_simple 155 = .ok (.aload_n 0, 1) := by decide +kernel
theorem d_Mod_simple_156 : decode b_Mod_simple 156 = .ok (.getfield 309, 3) := by decide +kernel
theorem d_Mod_simple_159 : decode b_Mod_simple 159 = .ok (.iconst 1, 1) := by decide +kernel
theorem d_Mod_simple_160 : decode b_Mod_simple 160 = .ok (.iadd, 1) := by decide +kernel
theorem d_Mod_simple_161 : decode b_Mod_simple 161 = .ok (.invokevirtual 294, 3) := by decide +kernel
theorem d_Mod_simple_164 : decode b_Mod_simple 164 = .ok (.iconst 5, 1) := by decide +kernel
theorem d_Mod_simple_165 : decode b_Mod_simple 165 = .ok (.invokevirtual 184, 3) := by decide +kernel
theorem d_Mod_simple_168 : decode b_Mod_simple 168 = .ok (.invokevirtual 330, 3) := by decide +kernel
theorem d_Mod_simple_171 : decode b_Mod_simple 171 = .ok (.aload_n 0, 1) := by decide +kernel
theorem d_Mod_simple_172 : decode b_Mod_simple 172 = .ok (.iconst 2, 1) := by decide +kernel
theorem d_Mod_simple_173 : decode b_Mod_simple 173 = .ok (.invokevirtual 321, 3) := by decide +kernel
theorem d_Mod_simple_176 : decode b_Mod_simple 176 = .ok (.goto 223, 3) := by decide +kernel
theorem d_Mod_simple_179 : decode b_Mod_simple 179 = .ok (.iload_n 1, 1) := by decide +kernel
theorem d_Mod_simple_180 : decode b_Mod_simple 180 = .ok (.bipush 21, 2) := by decide +kernel
theorem d_Mod_simple_182 : decode b_Mod_simple 182 = .ok (.if_icmp .eq 15, 3) := by decide +kernel
theorem d_Mod_simple_185 : decode b_Mod_simple 185 = .ok (.iload_n 1, 1) := by decide +kernel
theorem d_Mod_simple_186 : decode b_Mod_simple 186 = .ok (.bipush 22, 2) := by decide +kernel
theorem d_Mod_simple_188 : decode b_Mod_simple 188 = .ok (.if_icmp .eq 9, 3) := by decide +kernel
theorem d_Mod_simple_191 : decode b_Mod_simple 191 = .ok (.iload_n 1, 1) := by decide +kernel
theorem d_Mod_simple_192 : decode b_Mod_simple 192 = .ok (.bipush 25, 2) := by decide +kernel
theorem d_Mod_simple_194 : decode b_Mod_simple 194 = .ok (.if_icmp .ne 32, 3) := by decide +kernel
theorem d_Mod_simple_197 : decode b_Mod_simple 197 = .ok (.aload_n 0, 1) := by decide +kernel
theorem d_Mod_simple_198 : decode b_Mod_simple 198 = .ok (.iload_n 2, 1) := by decide +kernel
theorem d_Mod_simple_199 : decode b_Mod_simple 199 = .ok (.iload_n 1, 1) := by decide +kernel
theorem d_Mod_simple_200 : decode b_Mod_simple 200 = .ok (.bipush 21, 2) := by decide +kernel
theorem d_Mod_simple_202 : decode b_Mod_simple 202 = .ok (.if_icmp .ne 7, 3) := by decide +kernel
theorem d_Mod_simple_205 : decode b_Mod_simple 205 = .ok (.iconst 1, 1) := by decide +kernel
theorem d_Mod_simple_206 : decode b_Mod_simple 206 = .ok (.goto 14, 3) := by decide +kernel
theorem d_Mod_simple_209 : decode b_Mod_simple 209 = .ok (.iload_n 1, 1) := by decide +kernel
theorem d_Mod_simple_210 : decode b_Mod_simple 210 = .ok (.bipush 22, 2) := by decide +kernel
theorem d_Mod_simple_212 : decode b_Mod_simple 212 = .ok (.if_icmp .ne 7, 3) := by decide +kernel
theorem d_Mod_simple_215 : decode b_Mod_simple 215 = .ok (.iconst 2, 1) := by decide +kernel
theorem d_Mod_simple_216 : decode b_Mod_simple 216 = .ok (.goto 4, 3) := by decide +kernel
theorem d_Mod_simple_219 : decode b_Mod_simple 219 = .ok (.iconst 4, 1) := by decide +kernel
theorem d_Mod_simple_220 : decode b_Mod_simple 220 = .ok (.invokevirtual 339, 3) := by decide +kernel
theorem d_Mod_simple_223 : decode b_Mod_simple 223 = .ok (.goto 176, 3) := by decide +kernel
theorem d_Mod_simple_226 : decode b_Mod_simple 226 = .ok (.iload_n 1, 1) := by decide +kernel
theorem d_Mod_simple_227 : decode b_Mod_simple 227 = .ok (.bipush 26, 2) := by decide +kernel
theorem d_Mod_simple_229 : decode b_Mod_simple 229 = .ok (.bipush 33, 2) := by decide +kernel
theorem d_Mod_simple_231 : decode b_Mod_simple 231 = .ok (.invokestatic 136, 3) := by decide +kernel
theorem d_Mod_simple_234 : decode b_Mod_simple 234 = .ok (.ifCond .eq 27, 3) := by decide +kernel
theorem d_Mod_simple_237 : decode b_Mod_simple 237 = .ok (.aload_n 0, 1) := by decide +kernel
theorem d_Mod_simple_238 : decode b_Mod_simple 238 = .ok (.iload_n 1, 1) := by decide +kernel
theorem d_Mod_simple_239 : decode b_Mod_simple 239 = .ok (.bipush 26, 2) := by decide +kernel
theorem d_Mod_simple_241 : decode b_Mod_simple 241 = .ok (.isub, 1) := by decide +kernel
theorem d_Mod_simple_242 : decode b_Mod_simple 242 = .ok (.iconst 4, 1) := by decide +kernel
theorem d_Mod_simple_243 : decode b_Mod_simple 243 = .ok (.irem, 1) := by decide +kernel
theorem d_Mod_simple_244 : decode b_Mod_simple 244 = .ok (.iload_n 1, 1) := by decide +kernel
theorem d_Mod_simple_245 : decode b_Mod_simple 245 = .ok (.bipush 30, 2) := by decide +kernel
theorem d_Mod_simple_247 : decode b_Mod_simple 247 = .ok (.if_icmp .ge 7, 3) := by decide +kernel
theorem d_Mod_simple_250 : decode b_Mod_simple 250 = .ok (.iconst 1, 1) := by decide +kernel
theorem d_Mod_simple_251 : decode b_Mod_simple 251 = .ok (.goto 4, 3) := by decide +kernel
theorem d_Mod_simple_254 : decode b_Mod_simple 254 = .ok (.iconst 2, 1) := by decide +kernel
theorem d_Mod_simple_255 : decode b_Mod_simple 255 = .ok (.invokevirtual 339, 3) := by decide +kernel
theorem d_Mod_simple_258 : decode b_Mod_simple 258 = .ok (.goto 141, 3) := by decide +kernel
theorem d_Mod_simple_261 : decode b_Mod_simple 261 = .ok (.iload_n 1, 1) := by decide +kernel
theorem d_Mod_simple_262 : decode b_Mod_simple 262 = .ok (.bipush 42, 2) := by decide +kernel
theorem d_Mod_simple_264 : decode b_Mod_simple 264 = .ok (.bipush 45, 2) := by decide +kernel
theorem d_Mod_simple_266 : decode b_Mod_simple 266 = .ok (.invokestatic 136, 3) := by decide +kernel
theorem d_Mod_simple_269 : decode b_Mod_simple 269 = .ok (.ifCond .eq 15, 3) := by decide +kernel
theorem d_Mod_simple_272 : decode b_Mod_simple 272 = .ok (.aload_n 0, 1) := by decide +kernel
theorem d_Mod_simple_273 : decode b_Mod_simple 273 = .ok (.iload_n 1, 1) := by decide +kernel
theorem d_Mod_simple_274 : decode b_Mod_simple 274 = .ok (.bipush 42, 2) := by decide +kernel
theorem d_Mod_simple_276 : decode b_Mod_simple 276 = .ok (.isub, 1) := by decide +kernel
theorem d_Mod_simple_277 : decode b_Mod_simple 277 = .ok (.iconst 4, 1) := by decide +kernel
theorem d_Mod_simple_278 : decode b_Mod_simple 278 = .ok (.invokevirtual 339, 3) := by decide +kernel
theorem d_Mod_simple_281 : decode b_Mod_simple 281 = .ok (.goto 118, 3) := by decide +kernel
theorem d_Mod_simple_284 : decode b_Mod_simple 284 = .ok (.iload_n 1, 1) := by decide +kernel
theorem d_Mod_simple_285 : decode b_Mod_simple 285 = .ok (.bipush 54, 2) := by decide +kernel
theorem d_Mod_simple_287 : decode b_Mod_simple 287 = .ok (.if_icmp .eq 15, 3) := by decide +kernel
theorem d_Mod_simple_290 : decode b_Mod_simple 290 = .ok (.iload_n 1, 1) := by decide +kernel
theorem d_Mod_simple_291 : decode b_Mod_simple 291 = .ok (.bipush 55, 2) := by decide +kernel
theorem d_Mod_simple_293 : decode b_Mod_simple 293 = .ok (.if_icmp .eq 9, 3) := by decide +kernel
theorem d_Mod_simple_296 : decode b_Mod_simple 296 = .ok (.iload_n 1, 1) := by decide +kernel
theorem d_Mod_simple_297 : decode b_Mod_simple 297 = .ok (.bipush 58, 2) := by decide +kernel
theorem d_Mod_simple_299 : decode b_Mod_simple 299 = .ok (.if_icmp .ne 32, 3) := by decide +kernel
theorem d_Mod_simple_302 : decode b_Mod_simple 302 = .ok (.aload_n 0, 1) := by decide +kernel
theorem d_Mod_simple_303 : decode b_Mod_simple 303 = .ok (.iload_n 2, 1) := by decide +kernel
theorem d_Mod_simple_304 : decode b_Mod_simple 304 = .ok (.iload_n 1, 1) := by decide +kernel
theorem d_Mod_simple_305 : decode b_Mod_simple 305 = .ok (.bipush 54, 2) := by decide +kernel
theorem d_Mod_simple_307 : decode b_Mod_simple 307 = .ok (.if_icmp .ne 7, 3) := by decide +kernel
theorem d_Mod_simple_310 : decode b_Mod_simple 310 = .ok (.iconst 1, 1) := by decide +kernel
theorem d_Mod_simple_311 : decode b_Mod_simple 311 = .ok (.goto 14, 3) := by decide +kernel
theorem d_Mod_simple_314 : decode b_Mod_simple 314 = .ok (.iload_n 1, 1) := by decide +kernel
theorem d_Mod_simple_315 : decode b_Mod_simple 315 = .ok (.bipush 55, 2) := by decide +kernel
theorem d_Mod_simple_317 : decode b_Mod_simple 317 = .ok (.if_icmp .ne 7, 3) := by decide +kernel
theorem d_Mod_simple_320 : decode b_Mod_simple 320 = .ok (.iconst 2, 1) := by decide +kernel
theorem d_Mod_simple_321 : decode b_Mod_simple 321 = .ok (.goto 4, 3) := by decide +kernel
theorem d_Mod_simple_324 : decode b_Mod_simple 324 = .ok (.iconst 4, 1) := by decide +kernel
theorem d_Mod_simple_325 : decode b_Mod_simple 325 = .ok (.invokevirtual 342, 3) := by decide +kernel
theorem d_Mod_simple_328 : decode b_Mod_simple 328 = .ok (.goto 71, 3) := by decide +kernel
theorem d_Mod_simple_331 : decode b_Mod_simple 331 = .ok (.iload_n 1, 1) := by decide +kernel
theorem d_Mod_simple_332 : decode b_Mod_simple 332 = .ok (.bipush 59, 2) := by decide +kernel
theorem d_Mod_simple_334 : decode b_Mod_simple 334 = .ok (.bipush 66, 2) := by decide +kernel
theorem d_Mod_simple_336 : decode b_Mod_simple 336 = .ok (.invokestatic 136, 3) := by decide +kernel
theorem d_Mod_simple_339 : decode b_Mod_simple 339 = .ok (.ifCond .eq 27, 3) := by decide +kernel
theorem d_Mod_simple_342 : decode b_Mod_simple 342 = .ok (.aload_n 0, 1) := by decide +kernel
theorem d_Mod_simple_343 : decode b_Mod_simple 343 = .ok (.iload_n 1, 1) := by decide +kernel
theorem d_Mod_simple_344 : decode b_Mod_simple 344 = .ok (.bipush 59, 2) := by decide +kernel
theorem d_Mod_simple_346 : decode b_Mod_simple 346 = .ok (.isub, 1) := by decide +kernel
theorem d_Mod_simple_347 : decode b_Mod_simple 347 = .ok (.iconst 4, 1) := by decide +kernel
theorem d_Mod_simple_348 : decode b_Mod_simple 348 = .ok (.irem, 1) := by decide +kernel
theorem d_Mod_simple_349 : decode b_Mod_simple 349 = .ok (.iload_n 1, 1) := by decide +kernel
theorem d_Mod_simple_350 : decode b_Mod_simple 350 = .ok (.bipush 63, 2) := by decide +kernel
theorem d_Mod_simple_352 : decode b_Mod_simple 352 = .ok (.if_icmp .ge 7, 3) := by decide +kernel
theorem d_Mod_simple_355 : decode b_Mod_simple 355 = .ok (.iconst 1, 1) := by decide +kernel
theorem d_Mod_simple_356 : decode b_Mod_simple 356 = .ok (.goto 4, 3) := by decide +kernel
theorem d_Mod_simple_359 : decode b_Mod_simple 359 = .ok (.iconst 2, 1) := by decide +kernel
theorem d_Mod_simple_360 : decode b_Mod_simple 360 = .ok (.invokevirtual 342, 3) := by decide +kernel
theorem d_Mod_simple_363 : decode b_Mod_simple 363 = .ok (.goto 36, 3) := by decide +kernel
theorem d_Mod_simple_366 : decode b_Mod_simple 366 = .ok (.iload_n 1, 1) := by decide +kernel
theorem d_Mod_simple_367 : decode b_Mod_simple 367 = .ok (.bipush 75, 2) := by decide +kernel
theorem d_Mod_simple_369 : decode b_Mod_simple 369 = .ok (.bipush 78, 2) := by decide +kernel
theorem d_Mod_simple_371 : decode b_Mod_simple 371 = .ok (.invokestatic 136, 3) := by decide +kernel
theorem d_Mod_simple_374 : decode b_Mod_simple 374 = .ok (.ifCond .eq 15, 3) := by decide +kernel
theorem d_Mod_simple_377 : decode b_Mod_simple 377 = .ok (.aload_n 0, 1) := by decide +kernel
theorem d_Mod_simple_378 : decode b_Mod_simple 378 = .ok (.iload_n 1, 1) := by decide +kernel
theorem d_Mod_simple_379 : decode b_Mod_simple 379 = .ok (.bipush 75, 2) := by decide +kernel
theorem d_Mod_simple_381 : decode b_Mod_simple 381 = .ok (.isub, 1) := by decide +kernel
theorem d_Mod_simple_382 : decode b_Mod_simple 382 = .ok (.iconst 4, 1) := by decide +kernel
theorem d_Mod_simple_383 : decode b_Mod_simple 383 = .ok (.invokevirtual 342, 3) := by decide +kernel
theorem d_Mod_simple_386 : decode b_Mod_simple 386 = .ok (.goto 13, 3) := by decide +kernel
theorem d_Mod_simple_389 : decode b_Mod_simple 389 = .ok (.iload_n 1, 1) := by decide +kernel
theorem d_Mod_simple_390 : decode b_Mod_simple 390 = .ok (.ifCond .ne 7, 3) := by decide +kernel
theorem d_Mod_simple_393 : decode b_Mod_simple 393 = .ok (.iconst 1, 1) := by decide +kernel
theorem d_Mod_simple_394 : decode b_Mod_simple 394 = .ok (.goto 4, 3) := by decide +kernel
theorem d_Mod_simple_397 : decode b_Mod_simple 397 = .ok (.iconst 0, 1) := by decide +kernel
theorem d_Mod_simple_398 : decode b_Mod_simple 398 = .ok (.ireturn, 1) := by decide +kernel
theorem d_Mod_simple_399 : decode b_Mod_simple 399 = .ok (.iconst 1, 1) := by decide +kernel
theorem d_Mod_simple_400 : decode b_Mod_simple 400 = .ok (.ireturn, 1) := by decide +kernel
