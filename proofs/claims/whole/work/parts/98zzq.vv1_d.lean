theorem d_Mod_goOn_0 : decode b_Mod_goOn 0 = .ok (.sipush 128, 3) := by decide +kernel
theorem d_Mod_goOn_3 : decode b_Mod_goOn 3 = .ok (.iload_n 1, 1) := by decide +kernel
theorem d_Mod_goOn_4 : decode b_Mod_goOn 4 = .ok (.imul, 1) := by decide +kernel
theorem d_Mod_goOn_5 : decode b_Mod_goOn 5 = .ok (.istore 4, 2) := by decide +kernel
theorem d_Mod_goOn_7 : decode b_Mod_goOn 7 = .ok (.aload_n 0, 1) := by decide +kernel
theorem d_Mod_goOn_8 : decode b_Mod_goOn 8 = .ok (.getfield 90, 3) := by decide +kernel
theorem d_Mod_goOn_11 : decode b_Mod_goOn 11 = .ok (.iload_n 1, 1) := by decide +kernel
theorem d_Mod_goOn_12 : decode b_Mod_goOn 12 = .ok (.iaload, 1) := by decide +kernel
theorem d_Mod_goOn_13 : decode b_Mod_goOn 13 = .ok (.ifCond .ge 81, 3) := by decide +kernel
theorem d_Mod_goOn_16 : decode b_Mod_goOn 16 = .ok (.iconst 0, 1) := by decide +kernel
theorem d_Mod_goOn_17 : decode b_Mod_goOn 17 = .ok (.istore 5, 2) := by decide +kernel
theorem d_Mod_goOn_19 : decode b_Mod_goOn 19 = .ok (.iload 5, 2) := by decide +kernel
theorem d_Mod_goOn_21 : decode b_Mod_goOn 21 = .ok (.bipush 64, 2) := by decide +kernel
theorem d_Mod_goOn_23 : decode b_Mod_goOn 23 = .ok (.if_icmp .ge 56, 3) := by decide +kernel
theorem d_Mod_goOn_26 : decode b_Mod_goOn 26 = .ok (.aload_n 0, 1) := by decide +kernel
theorem d_Mod_goOn_27 : decode b_Mod_goOn 27 = .ok (.getfield 97, 3) := by decide +kernel
theorem d_Mod_goOn_30 : decode b_Mod_goOn 30 = .ok (.iload 4, 2) := by decide +kernel
theorem d_Mod_goOn_32 : decode b_Mod_goOn 32 = .ok (.iload 5, 2) := by decide +kernel
theorem d_Mod_goOn_34 : decode b_Mod_goOn 34 = .ok (.iadd, 1) := by decide +kernel
theorem d_Mod_goOn_35 : decode b_Mod_goOn 35 = .ok (.aload_n 2, 1) := by decide +kernel
theorem d_Mod_goOn_36 : decode b_Mod_goOn 36 = .ok (.iload 5, 2) := by decide +kernel
theorem d_Mod_goOn_38 : decode b_Mod_goOn 38 = .ok (.iaload, 1) := by decide +kernel
theorem d_Mod_goOn_39 : decode b_Mod_goOn 39 = .ok (.iastore, 1) := by decide +kernel
theorem d_Mod_goOn_40 : decode b_Mod_goOn 40 = .ok (.aload_n 0, 1) := by decide +kernel
theorem d_Mod_goOn_41 : decode b_Mod_goOn 41 = .ok (.getfield 97, 3) := by decide +kernel
theorem d_Mod_goOn_44 : decode b_Mod_goOn 44 = .ok (.iload 4, 2) := by decide +kernel
theorem d_Mod_goOn_46 : decode b_Mod_goOn 46 = .ok (.bipush 64, 2) := by decide +kernel
theorem d_Mod_goOn_48 : decode b_Mod_goOn 48 = .ok (.iadd, 1) := by decide +kernel
theorem d_Mod_goOn_49 : decode b_Mod_goOn 49 = .ok (.iload 5, 2) := by decide +kernel
theorem d_Mod_goOn_51 : decode b_Mod_goOn 51 = .ok (.iadd, 1) := by decide +kernel
theorem d_Mod_goOn_52 : decode b_Mod_goOn 52 = .ok (.iload 5, 2) := by decide +kernel
theorem d_Mod_goOn_54 : decode b_Mod_goOn 54 = .ok (.iload_n 3, 1) := by decide +kernel
theorem d_Mod_goOn_55 : decode b_Mod_goOn 55 = .ok (.if_icmp .ge 16, 3) := by decide +kernel
theorem d_Mod_goOn_58 : decode b_Mod_goOn 58 = .ok (.aload_n 0, 1) := by decide +kernel
theorem d_Mod_goOn_59 : decode b_Mod_goOn 59 = .ok (.getfield 100, 3) := by decide +kernel
theorem d_Mod_goOn_62 : decode b_Mod_goOn 62 = .ok (.bipush 64, 2) := by decide +kernel
theorem d_Mod_goOn_64 : decode b_Mod_goOn 64 = .ok (.iload 5, 2) := by decide +kernel
theorem d_Mod_goOn_66 : decode b_Mod_goOn 66 = .ok (.iadd, 1) := by decide +kernel
theorem d_Mod_goOn_67 : decode b_Mod_goOn 67 = .ok (.iaload, 1) := by decide +kernel
theorem d_Mod_goOn_68 : decode b_Mod_goOn 68 = .ok (.goto 4, 3) := by decide +kernel
theorem d_Mod_goOn_71 : decode b_Mod_goOn 71 = .ok (.iconst 0, 1) := by decide +kernel
theorem d_Mod_goOn_72 : decode b_Mod_goOn 72 = .ok (.iastore, 1) := by decide +kernel
theorem d_Mod_goOn_73 : decode b_Mod_goOn 73 = .ok (.iinc 5 1, 3) := by decide +kernel
theorem d_Mod_goOn_76 : decode b_Mod_goOn 76 = .ok (.goto (-57), 3) := by decide +kernel
theorem d_Mod_goOn_79 : decode b_Mod_goOn 79 = .ok (.aload_n 0, 1) := by decide +kernel
theorem d_Mod_goOn_80 : decode b_Mod_goOn 80 = .ok (.getfield 90, 3) := by decide +kernel
theorem d_Mod_goOn_83 : decode b_Mod_goOn 83 = .ok (.iload_n 1, 1) := by decide +kernel
theorem d_Mod_goOn_84 : decode b_Mod_goOn 84 = .ok (.iload_n 3, 1) := by decide +kernel
theorem d_Mod_goOn_85 : decode b_Mod_goOn 85 = .ok (.iastore, 1) := by decide +kernel
theorem d_Mod_goOn_86 : decode b_Mod_goOn 86 = .ok (.aload_n 0, 1) := by decide +kernel
theorem d_Mod_goOn_87 : decode b_Mod_goOn 87 = .ok (.getfield 93, 3) := by decide +kernel
theorem d_Mod_goOn_90 : decode b_Mod_goOn 90 = .ok (.iload_n 1, 1) := by decide +kernel
theorem d_Mod_goOn_91 : decode b_Mod_goOn 91 = .ok (.iconst 1, 1) := by decide +kernel
theorem d_Mod_goOn_92 : decode b_Mod_goOn 92 = .ok (.bastore, 1) := by decide +kernel
theorem d_Mod_goOn_93 : decode b_Mod_goOn 93 = .ok (.return_, 1) := by decide +kernel
theorem d_Mod_goOn_94 : decode b_Mod_goOn 94 = .ok (.aload_n 0, 1) := by decide +kernel
theorem d_Mod_goOn_95 : decode b_Mod_goOn 95 = .ok (.getfield 90, 3) := by decide +kernel
theorem d_Mod_goOn_98 : decode b_Mod_goOn 98 = .ok (.iload_n 1, 1) := by decide +kernel
theorem d_Mod_goOn_99 : decode b_Mod_goOn 99 = .ok (.iaload, 1) := by decide +kernel
theorem d_Mod_goOn_100 : decode b_Mod_goOn 100 = .ok (.iload_n 3, 1) := by decide +kernel
theorem d_Mod_goOn_101 : decode b_Mod_goOn 101 = .ok (.if_icmp .ne 7, 3) := by decide +kernel
theorem d_Mod_goOn_104 : decode b_Mod_goOn 104 = .ok (.iconst 1, 1) := by decide +kernel
theorem d_Mod_goOn_105 : decode b_Mod_goOn 105 = .ok (.goto 4, 3) := by decide +kernel
theorem d_Mod_goOn_108 : decode b_Mod_goOn 108 = .ok (.iconst 0, 1) := by decide +kernel
theorem d_Mod_goOn_109 : decode b_Mod_goOn 109 = .ok (.istore 5, 2) := by decide +kernel
theorem d_Mod_goOn_111 : decode b_Mod_goOn 111 = .ok (.iconst 0, 1) := by decide +kernel
theorem d_Mod_goOn_112 : decode b_Mod_goOn 112 = .ok (.istore 6, 2) := by decide +kernel
theorem d_Mod_goOn_114 : decode b_Mod_goOn 114 = .ok (.iload 5, 2) := by decide +kernel
theorem d_Mod_goOn_116 : decode b_Mod_goOn 116 = .ok (.ifCond .eq 48, 3) := by decide +kernel
theorem d_Mod_goOn_119 : decode b_Mod_goOn 119 = .ok (.iload 6, 2) := by decide +kernel
theorem d_Mod_goOn_121 : decode b_Mod_goOn 121 = .ok (.iload_n 3, 1) := by decide +kernel
theorem d_Mod_goOn_122 : decode b_Mod_goOn 122 = .ok (.if_icmp .ge 42, 3) := by decide +kernel
theorem d_Mod_goOn_125 : decode b_Mod_goOn 125 = .ok (.aload_n 0, 1) := by decide +kernel
theorem d_Mod_goOn_126 : decode b_Mod_goOn 126 = .ok (.getfield 97, 3) := by decide +kernel
theorem d_Mod_goOn_129 : decode b_Mod_goOn 129 = .ok (.iload 4, 2) := by decide +kernel
theorem d_Mod_goOn_131 : decode b_Mod_goOn 131 = .ok (.bipush 64, 2) := by decide +kernel
theorem d_Mod_goOn_133 : decode b_Mod_goOn 133 = .ok (.iadd, 1) := by decide +kernel
theorem d_Mod_goOn_134 : decode b_Mod_goOn 134 = .ok (.iload 6, 2) := by decide +kernel
theorem d_Mod_goOn_136 : decode b_Mod_goOn 136 = .ok (.iadd, 1) := by decide +kernel
theorem d_Mod_goOn_137 : decode b_Mod_goOn 137 = .ok (.iaload, 1) := by decide +kernel
theorem d_Mod_goOn_138 : decode b_Mod_goOn 138 = .ok (.aload_n 0, 1) := by decide +kernel
theorem d_Mod_goOn_139 : decode b_Mod_goOn 139 = .ok (.getfield 100, 3) := by decide +kernel
theorem d_Mod_goOn_142 : decode b_Mod_goOn 142 = .ok (.bipush 64, 2) := by decide +kernel
theorem d_Mod_goOn_144 : decode b_Mod_goOn 144 = .ok (.iload 6, 2) := by decide +kernel
theorem d_Mod_goOn_146 : decode b_Mod_goOn 146 = .ok (.iadd, 1) := by decide +kernel
theorem d_Mod_goOn_147 : decode b_Mod_goOn 147 = .ok (.iaload, 1) := by decide +kernel
theorem d_Mod_goOn_148 : decode b_Mod_goOn 148 = .ok (.if_icmp .ne 7, 3) := by decide +kernel
theorem d_Mod_goOn_151 : decode b_Mod_goOn 151 = .ok (.iconst 1, 1) := by decide +kernel
theorem d_Mod_goOn_152 : decode b_Mod_goOn 152 = .ok (.goto 4, 3) := by decide +kernel
theorem d_Mod_goOn_155 : decode b_Mod_goOn 155 = .ok (.iconst 0, 1) := by decide +kernel
theorem d_Mod_goOn_156 : decode b_Mod_goOn 156 = .ok (.istore 5, 2) := by decide +kernel
theorem d_Mod_goOn_158 : decode b_Mod_goOn 158 = .ok (.iinc 6 1, 3) := by decide +kernel
theorem d_Mod_goOn_161 : decode b_Mod_goOn 161 = .ok (.goto (-47), 3) := by decide +kernel
theorem d_Mod_goOn_164 : decode b_Mod_goOn 164 = .ok (.iload 5, 2) := by decide +kernel
theorem d_Mod_goOn_166 : decode b_Mod_goOn 166 = .ok (.ifCond .ne 14, 3) := by decide +kernel
theorem d_Mod_goOn_169 : decode b_Mod_goOn 169 = .ok (.aload_n 0, 1) := by decide +kernel
theorem d_Mod_goOn_170 : decode b_Mod_goOn 170 = .ok (.bipush 25, 2) := by decide +kernel
theorem d_Mod_goOn_172 : decode b_Mod_goOn 172 = .ok (.aload_n 0, 1) := by decide +kernel
theorem d_Mod_goOn_173 : decode b_Mod_goOn 173 = .ok (.getfield 309, 3) := by decide +kernel
theorem d_Mod_goOn_176 : decode b_Mod_goOn 176 = .ok (.invokevirtual 159, 3) := by decide +kernel
theorem d_Mod_goOn_179 : decode b_Mod_goOn 179 = .ok (.return_, 1) := by decide +kernel
theorem d_Mod_goOn_180 : decode b_Mod_goOn 180 = .ok (.iconst 0, 1) := by decide +kernel
theorem d_Mod_goOn_181 : decode b_Mod_goOn 181 = .ok (.istore 6, 2) := by decide +kernel
theorem d_Mod_goOn_183 : decode b_Mod_goOn 183 = .ok (.iconst 0, 1) := by decide +kernel
theorem d_Mod_goOn_184 : decode b_Mod_goOn 184 = .ok (.istore 7, 2) := by decide +kernel
theorem d_Mod_goOn_186 : decode b_Mod_goOn 186 = .ok (.iload 7, 2) := by decide +kernel
theorem d_Mod_goOn_188 : decode b_Mod_goOn 188 = .ok (.bipush 64, 2) := by decide +kernel
theorem d_Mod_goOn_190 : decode b_Mod_goOn 190 = .ok (.if_icmp .ge 53, 3) := by decide +kernel
theorem d_Mod_goOn_193 : decode b_Mod_goOn 193 = .ok (.aload_n 0, 1) := by decide +kernel
theorem d_Mod_goOn_194 : decode b_Mod_goOn 194 = .ok (.getfield 97, 3) := by decide +kernel
theorem d_Mod_goOn_197 : decode b_Mod_goOn 197 = .ok (.iload 4, 2) := by decide +kernel
theorem d_Mod_goOn_199 : decode b_Mod_goOn 199 = .ok (.iload 7, 2) := by decide +kernel
theorem d_Mod_goOn_201 : decode b_Mod_goOn 201 = .ok (.iadd, 1) := by decide +kernel
theorem d_Mod_goOn_202 : decode b_Mod_goOn 202 = .ok (.iaload, 1) := by decide +kernel
theorem d_Mod_goOn_203 : decode b_Mod_goOn 203 = .ok (.aload_n 2, 1) := by decide +kernel
theorem d_Mod_goOn_204 : decode b_Mod_goOn 204 = .ok (.iload 7, 2) := by decide +kernel
theorem d_Mod_goOn_206 : decode b_Mod_goOn 206 = .ok (.iaload, 1) := by decide +kernel
theorem d_Mod_goOn_207 : decode b_Mod_goOn 207 = .ok (.if_icmp .eq 30, 3) := by decide +kernel
theorem d_Mod_goOn_210 : decode b_Mod_goOn 210 = .ok (.aload_n 0, 1) := by decide +kernel
theorem d_Mod_goOn_211 : decode b_Mod_goOn 211 = .ok (.getfield 97, 3) := by decide +kernel
theorem d_Mod_goOn_214 : decode b_Mod_goOn 214 = .ok (.iload 4, 2) := by decide +kernel
theorem d_Mod_goOn_216 : decode b_Mod_goOn 216 = .ok (.iload 7, 2) := by decide +kernel
theorem d_Mod_goOn_218 : decode b_Mod_goOn 218 = .ok (.iadd, 1) := by decide +kernel
theorem d_Mod_goOn_219 : decode b_Mod_goOn 219 = .ok (.iaload, 1) := by decide +kernel
theorem d_Mod_goOn_220 : decode b_Mod_goOn 220 = .ok (.ifCond .eq 17, 3) := by decide +kernel
theorem d_Mod_goOn_223 : decode b_Mod_goOn 223 = .ok (.aload_n 0, 1) := by decide +kernel
theorem d_Mod_goOn_224 : decode b_Mod_goOn 224 = .ok (.getfield 97, 3) := by decide +kernel
theorem d_Mod_goOn_227 : decode b_Mod_goOn 227 = .ok (.iload 4, 2) := by decide +kernel
theorem d_Mod_goOn_229 : decode b_Mod_goOn 229 = .ok (.iload 7, 2) := by decide +kernel
theorem d_Mod_goOn_231 : decode b_Mod_goOn 231 = .ok (.iadd, 1) := by decide +kernel
theorem d_Mod_goOn_232 : decode b_Mod_goOn 232 = .ok (.iconst 0, 1) := by decide +kernel
theorem d_Mod_goOn_233 : decode b_Mod_goOn 233 = .ok (.iastore, 1) := by decide +kernel
theorem d_Mod_goOn_234 : decode b_Mod_goOn 234 = .ok (.iconst 1, 1) := by decide +kernel
theorem d_Mod_goOn_235 : decode b_Mod_goOn 235 = .ok (.istore 6, 2) := by decide +kernel
theorem d_Mod_goOn_237 : decode b_Mod_goOn 237 = .ok (.iinc 7 1, 3) := by decide +kernel
theorem d_Mod_goOn_240 : decode b_Mod_goOn 240 = .ok (.goto (-54), 3) := by decide +kernel
theorem d_Mod_goOn_243 : decode b_Mod_goOn 243 = .ok (.iconst 0, 1) := by decide +kernel
theorem d_Mod_goOn_244 : decode b_Mod_goOn 244 = .ok (.istore 7, 2) := by decide +kernel
theorem d_Mod_goOn_246 : decode b_Mod_goOn 246 = .ok (.iload 7, 2) := by decide +kernel
theorem d_Mod_goOn_248 : decode b_Mod_goOn 248 = .ok (.bipush 64, 2) := by decide +kernel
theorem d_Mod_goOn_250 : decode b_Mod_goOn 250 = .ok (.if_icmp .ge 103, 3) := by decide +kernel
theorem d_Mod_goOn_253 : decode b_Mod_goOn 253 = .ok (.aload_n 0, 1) := by decide +kernel
theorem d_Mod_goOn_254 : decode b_Mod_goOn 254 = .ok (.getfield 97, 3) := by decide +kernel
theorem d_Mod_goOn_257 : decode b_Mod_goOn 257 = .ok (.iload 4, 2) := by decide +kernel
theorem d_Mod_goOn_259 : decode b_Mod_goOn 259 = .ok (.iload 7, 2) := by decide +kernel
theorem d_Mod_goOn_261 : decode b_Mod_goOn 261 = .ok (.iadd, 1) := by decide +kernel
theorem d_Mod_goOn_262 : decode b_Mod_goOn 262 = .ok (.iaload, 1) := by decide +kernel
theorem d_Mod_goOn_263 : decode b_Mod_goOn 263 = .ok (.istore 8, 2) := by decide +kernel
theorem d_Mod_goOn_265 : decode b_Mod_goOn 265 = .ok (.iload 8, 2) := by decide +kernel
theorem d_Mod_goOn_267 : decode b_Mod_goOn 267 = .ok (.iconst 2, 1) := by decide +kernel
theorem d_Mod_goOn_268 : decode b_Mod_goOn 268 = .ok (.if_icmp .ne 26, 3) := by decide +kernel
theorem d_Mod_goOn_271 : decode b_Mod_goOn 271 = .ok (.iload 7, 2) := by decide +kernel
theorem d_Mod_goOn_273 : decode b_Mod_goOn 273 = .ok (.bipush 63, 2) := by decide +kernel
theorem d_Mod_goOn_275 : decode b_Mod_goOn 275 = .ok (.if_icmp .eq 46, 3) := by decide +kernel
theorem d_Mod_goOn_278 : decode b_Mod_goOn 278 = .ok (.aload_n 0, 1) := by decide +kernel
theorem d_Mod_goOn_279 : decode b_Mod_goOn 279 = .ok (.getfield 97, 3) := by decide +kernel
theorem d_Mod_goOn_282 : decode b_Mod_goOn 282 = .ok (.iload 4, 2) := by decide +kernel
theorem d_Mod_goOn_284 : decode b_Mod_goOn 284 = .ok (.iload 7, 2) := by decide +kernel
theorem d_Mod_goOn_286 : decode b_Mod_goOn 286 = .ok (.iadd, 1) := by decide +kernel
theorem d_Mod_goOn_287 : decode b_Mod_goOn 287 = .ok (.iconst 1, 1) := by decide +kernel
theorem d_Mod_goOn_288 : decode b_Mod_goOn 288 = .ok (.iadd, 1) := by decide +kernel
theorem d_Mod_goOn_289 : decode b_Mod_goOn 289 = .ok (.iaload, 1) := by decide +kernel
theorem d_Mod_goOn_290 : decode b_Mod_goOn 290 = .ok (.iconst 3, 1) := by decide +kernel
theorem d_Mod_goOn_291 : decode b_Mod_goOn 291 = .ok (.if_icmp .ne 30, 3) := by decide +kernel
theorem d_Mod_goOn_294 : decode b_Mod_goOn 294 = .ok (.iload 8, 2) := by decide +kernel
theorem d_Mod_goOn_296 : decode b_Mod_goOn 296 = .ok (.iconst 3, 1) := by decide +kernel
theorem d_Mod_goOn_297 : decode b_Mod_goOn 297 = .ok (.if_icmp .ne 28, 3) := by decide +kernel
theorem d_Mod_goOn_300 : decode b_Mod_goOn 300 = .ok (.iload 7, 2) := by decide +kernel
theorem d_Mod_goOn_302 : decode b_Mod_goOn 302 = .ok (.ifCond .eq 19, 3) := by decide +kernel
theorem d_Mod_goOn_305 : decode b_Mod_goOn 305 = .ok (.aload_n 0, 1) := by decide +kernel
theorem d_Mod_goOn_306 : decode b_Mod_goOn 306 = .ok (.getfield 97, 3) := by decide +kernel
theorem d_Mod_goOn_309 : decode b_Mod_goOn 309 = .ok (.iload 4, 2) := by decide +kernel
theorem d_Mod_goOn_311 : decode b_Mod_goOn 311 = .ok (.iload 7, 2) := by decide +kernel
theorem d_Mod_goOn_313 : decode b_Mod_goOn 313 = .ok (.iadd, 1) := by decide +kernel
theorem d_Mod_goOn_314 : decode b_Mod_goOn 314 = .ok (.iconst 1, 1) := by decide +kernel
theorem d_Mod_goOn_315 : decode b_Mod_goOn 315 = .ok (.isub, 1) := by decide +kernel
theorem d_Mod_goOn_316 : decode b_Mod_goOn 316 = .ok (.iaload, 1) := by decide +kernel
theorem d_Mod_goOn_317 : decode b_Mod_goOn 317 = .ok (.iconst 2, 1) := by decide +kernel
theorem d_Mod_goOn_318 : decode b_Mod_goOn 318 = .ok (.if_icmp .eq 7, 3) := by decide +kernel
theorem d_Mod_goOn_321 : decode b_Mod_goOn 321 = .ok (.iconst 1, 1) := by decide +kernel
theorem d_Mod_goOn_322 : decode b_Mod_goOn 322 = .ok (.goto 4, 3) := by decide +kernel
theorem d_Mod_goOn_325 : decode b_Mod_goOn 325 = .ok (.iconst 0, 1) := by decide +kernel
theorem d_Mod_goOn_326 : decode b_Mod_goOn 326 = .ok (.istore 9, 2) := by decide +kernel
theorem d_Mod_goOn_328 : decode b_Mod_goOn 328 = .ok (.iload 9, 2) := by decide +kernel
theorem d_Mod_goOn_330 : decode b_Mod_goOn 330 = .ok (.ifCond .eq 17, 3) := by decide +kernel
theorem d_Mod_goOn_333 : decode b_Mod_goOn 333 = .ok (.aload_n 0, 1) := by decide +kernel
theorem d_Mod_goOn_334 : decode b_Mod_goOn 334 = .ok (.getfield 97, 3) := by decide +kernel
theorem d_Mod_goOn_337 : decode b_Mod_goOn 337 = .ok (.iload 4, 2) := by decide +kernel
theorem d_Mod_goOn_339 : decode b_Mod_goOn 339 = .ok (.iload 7, 2) := by decide +kernel
theorem d_Mod_goOn_341 : decode b_Mod_goOn 341 = .ok (.iadd, 1) := by decide +kernel
theorem d_Mod_goOn_342 : decode b_Mod_goOn 342 = .ok (.iconst 0, 1) := by decide +kernel
theorem d_Mod_goOn_343 : decode b_Mod_goOn 343 = .ok (.iastore, 1) := by decide +kernel
theorem d_Mod_goOn_344 : decode b_Mod_goOn 344 = .ok (.iconst 1, 1) := by decide +kernel
theorem d_Mod_goOn_345 : decode b_Mod_goOn 345 = .ok (.istore 6, 2) := by decide +kernel
theorem d_Mod_goOn_347 : decode b_Mod_goOn 347 = .ok (.iinc 7 1, 3) := by decide +kernel
theorem d_Mod_goOn_350 : decode b_Mod_goOn 350 = .ok (.goto (-104), 3) := by decide +kernel
theorem d_Mod_goOn_353 : decode b_Mod_goOn 353 = .ok (.aload_n 0, 1) := by decide +kernel
theorem d_Mod_goOn_354 : decode b_Mod_goOn 354 = .ok (.getfield 93, 3) := by decide +kernel
theorem d_Mod_goOn_357 : decode b_Mod_goOn 357 = .ok (.iload_n 1, 1) := by decide +kernel
theorem d_Mod_goOn_358 : decode b_Mod_goOn 358 = .ok (.aload_n 0, 1) := by decide +kernel
theorem d_Mod_goOn_359 : decode b_Mod_goOn 359 = .ok (.getfield 93, 3) := by decide +kernel
theorem d_Mod_goOn_362 : decode b_Mod_goOn 362 = .ok (.iload_n 1, 1) := by decide +kernel
theorem d_Mod_goOn_363 : decode b_Mod_goOn 363 = .ok (.baload, 1) := by decide +kernel
theorem d_Mod_goOn_364 : decode b_Mod_goOn 364 = .ok (.ifCond .ne 8, 3) := by decide +kernel
theorem d_Mod_goOn_367 : decode b_Mod_goOn 367 = .ok (.iload 6, 2) := by decide +kernel
theorem d_Mod_goOn_369 : decode b_Mod_goOn 369 = .ok (.ifCond .eq 7, 3) := by decide +kernel
theorem d_Mod_goOn_372 : decode b_Mod_goOn 372 = .ok (.iconst 1, 1) := by decide +kernel
theorem d_Mod_goOn_373 : decode b_Mod_goOn 373 = .ok (.goto 4, 3) := by decide +kernel
theorem d_Mod_goOn_376 : decode b_Mod_goOn 376 = .ok (.iconst 0, 1) := by decide +kernel
theorem d_Mod_goOn_377 : decode b_Mod_goOn 377 = .ok (.bastore, 1) := by decide +kernel
theorem d_Mod_goOn_378 : decode b_Mod_goOn 378 = .ok (.return_, 1) := by decide +kernel
