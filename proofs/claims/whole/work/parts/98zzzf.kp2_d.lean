theorem d_Mod_keep_0 : decode b_Mod_keep 0 = .ok (.aload_n 0, 1) := by decide +kernel
theorem d_Mod_keep_1 : decode b_Mod_keep 1 = .ok (.iconst 1, 1) := by decide +kernel
theorem d_Mod_keep_2 : decode b_Mod_keep 2 = .ok (.putfield 407, 3) := by decide +kernel
theorem d_Mod_keep_5 : decode b_Mod_keep 5 = .ok (.iconst 0, 1) := by decide +kernel
theorem d_Mod_keep_6 : decode b_Mod_keep 6 = .ok (.istore_n 1, 1) := by decide +kernel
theorem d_Mod_keep_7 : decode b_Mod_keep 7 = .ok (.iload_n 1, 1) := by decide +kernel
theorem d_Mod_keep_8 : decode b_Mod_keep 8 = .ok (.sipush 600, 3) := by decide +kernel
theorem d_Mod_keep_11 : decode b_Mod_keep 11 = .ok (.if_icmp .ge 28, 3) := by decide +kernel
theorem d_Mod_keep_14 : decode b_Mod_keep 14 = .ok (.aload_n 0, 1) := by decide +kernel
theorem d_Mod_keep_15 : decode b_Mod_keep 15 = .ok (.getfield 109, 3) := by decide +kernel
theorem d_Mod_keep_18 : decode b_Mod_keep 18 = .ok (.iload_n 1, 1) := by decide +kernel
theorem d_Mod_keep_19 : decode b_Mod_keep 19 = .ok (.aload_n 0, 1) := by decide +kernel
theorem d_Mod_keep_20 : decode b_Mod_keep 20 = .ok (.getfield 7, 3) := by decide +kernel
theorem d_Mod_keep_23 : decode b_Mod_keep 23 = .ok (.iload_n 1, 1) := by decide +kernel
theorem d_Mod_keep_24 : decode b_Mod_keep 24 = .ok (.iaload, 1) := by decide +kernel
theorem d_Mod_keep_25 : decode b_Mod_keep 25 = .ok (.iastore, 1) := by decide +kernel
theorem d_Mod_keep_26 : decode b_Mod_keep 26 = .ok (.aload_n 0, 1) := by decide +kernel
theorem d_Mod_keep_27 : decode b_Mod_keep 27 = .ok (.getfield 127, 3) := by decide +kernel
theorem d_Mod_keep_30 : decode b_Mod_keep 30 = .ok (.iload_n 1, 1) := by decide +kernel
theorem d_Mod_keep_31 : decode b_Mod_keep 31 = .ok (.iconst (-1), 1) := by decide +kernel
theorem d_Mod_keep_32 : decode b_Mod_keep 32 = .ok (.iastore, 1) := by decide +kernel
theorem d_Mod_keep_33 : decode b_Mod_keep 33 = .ok (.iinc 1 1, 3) := by decide +kernel
theorem d_Mod_keep_36 : decode b_Mod_keep 36 = .ok (.goto (-29), 3) := by decide +kernel
theorem d_Mod_keep_39 : decode b_Mod_keep 39 = .ok (.aload_n 0, 1) := by decide +kernel
theorem d_Mod_keep_40 : decode b_Mod_keep 40 = .ok (.getfield 112, 3) := by decide +kernel
theorem d_Mod_keep_43 : decode b_Mod_keep 43 = .ok (.iconst 0, 1) := by decide +kernel
theorem d_Mod_keep_44 : decode b_Mod_keep 44 = .ok (.aload_n 0, 1) := by decide +kernel
theorem d_Mod_keep_45 : decode b_Mod_keep 45 = .ok (.getfield 169, 3) := by decide +kernel
theorem d_Mod_keep_48 : decode b_Mod_keep 48 = .ok (.ifCond .ne 7, 3) := by decide +kernel
theorem d_Mod_keep_51 : decode b_Mod_keep 51 = .ok (.iconst 0, 1) := by decide +kernel
theorem d_Mod_keep_52 : decode b_Mod_keep 52 = .ok (.goto 9, 3) := by decide +kernel
theorem d_Mod_keep_55 : decode b_Mod_keep 55 = .ok (.aload_n 0, 1) := by decide +kernel
theorem d_Mod_keep_56 : decode b_Mod_keep 56 = .ok (.getfield 169, 3) := by decide +kernel
theorem d_Mod_keep_59 : decode b_Mod_keep 59 = .ok (.iconst 1, 1) := by decide +kernel
theorem d_Mod_keep_60 : decode b_Mod_keep 60 = .ok (.isub, 1) := by decide +kernel
theorem d_Mod_keep_61 : decode b_Mod_keep 61 = .ok (.iastore, 1) := by decide +kernel
theorem d_Mod_keep_62 : decode b_Mod_keep 62 = .ok (.aload_n 0, 1) := by decide +kernel
theorem d_Mod_keep_63 : decode b_Mod_keep 63 = .ok (.getfield 112, 3) := by decide +kernel
theorem d_Mod_keep_66 : decode b_Mod_keep 66 = .ok (.iconst 1, 1) := by decide +kernel
theorem d_Mod_keep_67 : decode b_Mod_keep 67 = .ok (.aload_n 0, 1) := by decide +kernel
theorem d_Mod_keep_68 : decode b_Mod_keep 68 = .ok (.getfield 225, 3) := by decide +kernel
theorem d_Mod_keep_71 : decode b_Mod_keep 71 = .ok (.iastore, 1) := by decide +kernel
theorem d_Mod_keep_72 : decode b_Mod_keep 72 = .ok (.aload_n 0, 1) := by decide +kernel
theorem d_Mod_keep_73 : decode b_Mod_keep 73 = .ok (.getfield 112, 3) := by decide +kernel
theorem d_Mod_keep_76 : decode b_Mod_keep 76 = .ok (.iconst 2, 1) := by decide +kernel
theorem d_Mod_keep_77 : decode b_Mod_keep 77 = .ok (.aload_n 0, 1) := by decide +kernel
theorem d_Mod_keep_78 : decode b_Mod_keep 78 = .ok (.getfield 232, 3) := by decide +kernel
theorem d_Mod_keep_81 : decode b_Mod_keep 81 = .ok (.iastore, 1) := by decide +kernel
theorem d_Mod_keep_82 : decode b_Mod_keep 82 = .ok (.aload_n 0, 1) := by decide +kernel
theorem d_Mod_keep_83 : decode b_Mod_keep 83 = .ok (.getfield 112, 3) := by decide +kernel
theorem d_Mod_keep_86 : decode b_Mod_keep 86 = .ok (.iconst 3, 1) := by decide +kernel
theorem d_Mod_keep_87 : decode b_Mod_keep 87 = .ok (.aload_n 0, 1) := by decide +kernel
theorem d_Mod_keep_88 : decode b_Mod_keep 88 = .ok (.getfield 205, 3) := by decide +kernel
theorem d_Mod_keep_91 : decode b_Mod_keep 91 = .ok (.aload_n 0, 1) := by decide +kernel
theorem d_Mod_keep_92 : decode b_Mod_keep 92 = .ok (.getfield 232, 3) := by decide +kernel
theorem d_Mod_keep_95 : decode b_Mod_keep 95 = .ok (.isub, 1) := by decide +kernel
theorem d_Mod_keep_96 : decode b_Mod_keep 96 = .ok (.iastore, 1) := by decide +kernel
theorem d_Mod_keep_97 : decode b_Mod_keep 97 = .ok (.aload_n 0, 1) := by decide +kernel
theorem d_Mod_keep_98 : decode b_Mod_keep 98 = .ok (.getfield 112, 3) := by decide +kernel
theorem d_Mod_keep_101 : decode b_Mod_keep 101 = .ok (.iconst 4, 1) := by decide +kernel
theorem d_Mod_keep_102 : decode b_Mod_keep 102 = .ok (.iconst 0, 1) := by decide +kernel
theorem d_Mod_keep_103 : decode b_Mod_keep 103 = .ok (.iastore, 1) := by decide +kernel
theorem d_Mod_keep_104 : decode b_Mod_keep 104 = .ok (.aload_n 0, 1) := by decide +kernel
theorem d_Mod_keep_105 : decode b_Mod_keep 105 = .ok (.getfield 112, 3) := by decide +kernel
theorem d_Mod_keep_108 : decode b_Mod_keep 108 = .ok (.iconst 5, 1) := by decide +kernel
theorem d_Mod_keep_109 : decode b_Mod_keep 109 = .ok (.iconst 0, 1) := by decide +kernel
theorem d_Mod_keep_110 : decode b_Mod_keep 110 = .ok (.iastore, 1) := by decide +kernel
theorem d_Mod_keep_111 : decode b_Mod_keep 111 = .ok (.aload_n 0, 1) := by decide +kernel
theorem d_Mod_keep_112 : decode b_Mod_keep 112 = .ok (.getfield 112, 3) := by decide +kernel
theorem d_Mod_keep_115 : decode b_Mod_keep 115 = .ok (.bipush 6, 2) := by decide +kernel
theorem d_Mod_keep_117 : decode b_Mod_keep 117 = .ok (.iconst 0, 1) := by decide +kernel
theorem d_Mod_keep_118 : decode b_Mod_keep 118 = .ok (.iastore, 1) := by decide +kernel
theorem d_Mod_keep_119 : decode b_Mod_keep 119 = .ok (.aload_n 0, 1) := by decide +kernel
theorem d_Mod_keep_120 : decode b_Mod_keep 120 = .ok (.iconst 0, 1) := by decide +kernel
theorem d_Mod_keep_121 : decode b_Mod_keep 121 = .ok (.aload_n 0, 1) := by decide +kernel
theorem d_Mod_keep_122 : decode b_Mod_keep 122 = .ok (.getfield 38, 3) := by decide +kernel
theorem d_Mod_keep_125 : decode b_Mod_keep 125 = .ok (.aload_n 0, 1) := by decide +kernel
theorem d_Mod_keep_126 : decode b_Mod_keep 126 = .ok (.getfield 219, 3) := by decide +kernel
theorem d_Mod_keep_129 : decode b_Mod_keep 129 = .ok (.iaload, 1) := by decide +kernel
theorem d_Mod_keep_130 : decode b_Mod_keep 130 = .ok (.invokevirtual 411, 3) := by decide +kernel
theorem d_Mod_keep_133 : decode b_Mod_keep 133 = .ok (.aload_n 0, 1) := by decide +kernel
theorem d_Mod_keep_134 : decode b_Mod_keep 134 = .ok (.iconst 2, 1) := by decide +kernel
theorem d_Mod_keep_135 : decode b_Mod_keep 135 = .ok (.aload_n 0, 1) := by decide +kernel
theorem d_Mod_keep_136 : decode b_Mod_keep 136 = .ok (.getfield 38, 3) := by decide +kernel
theorem d_Mod_keep_139 : decode b_Mod_keep 139 = .ok (.aload_n 0, 1) := by decide +kernel
theorem d_Mod_keep_140 : decode b_Mod_keep 140 = .ok (.getfield 222, 3) := by decide +kernel
theorem d_Mod_keep_143 : decode b_Mod_keep 143 = .ok (.iaload, 1) := by decide +kernel
theorem d_Mod_keep_144 : decode b_Mod_keep 144 = .ok (.invokevirtual 411, 3) := by decide +kernel
theorem d_Mod_keep_147 : decode b_Mod_keep 147 = .ok (.iconst 0, 1) := by decide +kernel
theorem d_Mod_keep_148 : decode b_Mod_keep 148 = .ok (.istore_n 1, 1) := by decide +kernel
theorem d_Mod_keep_149 : decode b_Mod_keep 149 = .ok (.iload_n 1, 1) := by decide +kernel
theorem d_Mod_keep_150 : decode b_Mod_keep 150 = .ok (.aload_n 0, 1) := by decide +kernel
theorem d_Mod_keep_151 : decode b_Mod_keep 151 = .ok (.getfield 205, 3) := by decide +kernel
theorem d_Mod_keep_154 : decode b_Mod_keep 154 = .ok (.if_icmp .ge 40, 3) := by decide +kernel
theorem d_Mod_keep_157 : decode b_Mod_keep 157 = .ok (.aload_n 0, 1) := by decide +kernel
theorem d_Mod_keep_158 : decode b_Mod_keep 158 = .ok (.iconst 4, 1) := by decide +kernel
theorem d_Mod_keep_159 : decode b_Mod_keep 159 = .ok (.iconst 4, 1) := by decide +kernel
theorem d_Mod_keep_160 : decode b_Mod_keep 160 = .ok (.iload_n 1, 1) := by decide +kernel
theorem d_Mod_keep_161 : decode b_Mod_keep 161 = .ok (.imul, 1) := by decide +kernel
theorem d_Mod_keep_162 : decode b_Mod_keep 162 = .ok (.iadd, 1) := by decide +kernel
theorem d_Mod_keep_163 : decode b_Mod_keep 163 = .ok (.aload_n 0, 1) := by decide +kernel
theorem d_Mod_keep_164 : decode b_Mod_keep 164 = .ok (.getfield 56, 3) := by decide +kernel
theorem d_Mod_keep_167 : decode b_Mod_keep 167 = .ok (.iload_n 1, 1) := by decide +kernel
theorem d_Mod_keep_168 : decode b_Mod_keep 168 = .ok (.iaload, 1) := by decide +kernel
theorem d_Mod_keep_169 : decode b_Mod_keep 169 = .ok (.invokevirtual 411, 3) := by decide +kernel
theorem d_Mod_keep_172 : decode b_Mod_keep 172 = .ok (.aload_n 0, 1) := by decide +kernel
theorem d_Mod_keep_173 : decode b_Mod_keep 173 = .ok (.bipush 6, 2) := by decide +kernel
theorem d_Mod_keep_175 : decode b_Mod_keep 175 = .ok (.iconst 4, 1) := by decide +kernel
theorem d_Mod_keep_176 : decode b_Mod_keep 176 = .ok (.iload_n 1, 1) := by decide +kernel
theorem d_Mod_keep_177 : decode b_Mod_keep 177 = .ok (.imul, 1) := by decide +kernel
theorem d_Mod_keep_178 : decode b_Mod_keep 178 = .ok (.iadd, 1) := by decide +kernel
theorem d_Mod_keep_179 : decode b_Mod_keep 179 = .ok (.aload_n 0, 1) := by decide +kernel
theorem d_Mod_keep_180 : decode b_Mod_keep 180 = .ok (.getfield 59, 3) := by decide +kernel
theorem d_Mod_keep_183 : decode b_Mod_keep 183 = .ok (.iload_n 1, 1) := by decide +kernel
theorem d_Mod_keep_184 : decode b_Mod_keep 184 = .ok (.iaload, 1) := by decide +kernel
theorem d_Mod_keep_185 : decode b_Mod_keep 185 = .ok (.invokevirtual 411, 3) := by decide +kernel
theorem d_Mod_keep_188 : decode b_Mod_keep 188 = .ok (.iinc 1 1, 3) := by decide +kernel
theorem d_Mod_keep_191 : decode b_Mod_keep 191 = .ok (.goto (-42), 3) := by decide +kernel
theorem d_Mod_keep_194 : decode b_Mod_keep 194 = .ok (.iconst 0, 1) := by decide +kernel
theorem d_Mod_keep_195 : decode b_Mod_keep 195 = .ok (.istore_n 1, 1) := by decide +kernel
theorem d_Mod_keep_196 : decode b_Mod_keep 196 = .ok (.iload_n 1, 1) := by decide +kernel
theorem d_Mod_keep_197 : decode b_Mod_keep 197 = .ok (.aload_n 0, 1) := by decide +kernel
theorem d_Mod_keep_198 : decode b_Mod_keep 198 = .ok (.getfield 225, 3) := by decide +kernel
theorem d_Mod_keep_201 : decode b_Mod_keep 201 = .ok (.if_icmp .ge 31, 3) := by decide +kernel
theorem d_Mod_keep_204 : decode b_Mod_keep 204 = .ok (.aload_n 0, 1) := by decide +kernel
theorem d_Mod_keep_205 : decode b_Mod_keep 205 = .ok (.sipush 400, 3) := by decide +kernel
theorem d_Mod_keep_208 : decode b_Mod_keep 208 = .ok (.iconst 2, 1) := by decide +kernel
theorem d_Mod_keep_209 : decode b_Mod_keep 209 = .ok (.iload_n 1, 1) := by decide +kernel
theorem d_Mod_keep_210 : decode b_Mod_keep 210 = .ok (.imul, 1) := by decide +kernel
theorem d_Mod_keep_211 : decode b_Mod_keep 211 = .ok (.iadd, 1) := by decide +kernel
theorem d_Mod_keep_212 : decode b_Mod_keep 212 = .ok (.aload_n 0, 1) := by decide +kernel
theorem d_Mod_keep_213 : decode b_Mod_keep 213 = .ok (.getfield 38, 3) := by decide +kernel
theorem d_Mod_keep_216 : decode b_Mod_keep 216 = .ok (.aload_n 0, 1) := by decide +kernel
theorem d_Mod_keep_217 : decode b_Mod_keep 217 = .ok (.getfield 44, 3) := by decide +kernel
theorem d_Mod_keep_220 : decode b_Mod_keep 220 = .ok (.iload_n 1, 1) := by decide +kernel
theorem d_Mod_keep_221 : decode b_Mod_keep 221 = .ok (.iaload, 1) := by decide +kernel
theorem d_Mod_keep_222 : decode b_Mod_keep 222 = .ok (.iaload, 1) := by decide +kernel
theorem d_Mod_keep_223 : decode b_Mod_keep 223 = .ok (.invokevirtual 411, 3) := by decide +kernel
theorem d_Mod_keep_226 : decode b_Mod_keep 226 = .ok (.iinc 1 1, 3) := by decide +kernel
theorem d_Mod_keep_229 : decode b_Mod_keep 229 = .ok (.goto (-33), 3) := by decide +kernel
theorem d_Mod_keep_232 : decode b_Mod_keep 232 = .ok (.aload_n 0, 1) := by decide +kernel
theorem d_Mod_keep_233 : decode b_Mod_keep 233 = .ok (.getfield 232, 3) := by decide +kernel
theorem d_Mod_keep_236 : decode b_Mod_keep 236 = .ok (.istore_n 1, 1) := by decide +kernel
theorem d_Mod_keep_237 : decode b_Mod_keep 237 = .ok (.iload_n 1, 1) := by decide +kernel
theorem d_Mod_keep_238 : decode b_Mod_keep 238 = .ok (.aload_n 0, 1) := by decide +kernel
theorem d_Mod_keep_239 : decode b_Mod_keep 239 = .ok (.getfield 205, 3) := by decide +kernel
theorem d_Mod_keep_242 : decode b_Mod_keep 242 = .ok (.if_icmp .ge 119, 3) := by decide +kernel
theorem d_Mod_keep_245 : decode b_Mod_keep 245 = .ok (.iload_n 1, 1) := by decide +kernel
theorem d_Mod_keep_246 : decode b_Mod_keep 246 = .ok (.aload_n 0, 1) := by decide +kernel
theorem d_Mod_keep_247 : decode b_Mod_keep 247 = .ok (.getfield 232, 3) := by decide +kernel
theorem d_Mod_keep_250 : decode b_Mod_keep 250 = .ok (.isub, 1) := by decide +kernel
theorem d_Mod_keep_251 : decode b_Mod_keep 251 = .ok (.istore_n 2, 1) := by decide +kernel
theorem d_Mod_keep_252 : decode b_Mod_keep 252 = .ok (.aload_n 0, 1) := by decide +kernel
theorem d_Mod_keep_253 : decode b_Mod_keep 253 = .ok (.getfield 118, 3) := by decide +kernel
theorem d_Mod_keep_256 : decode b_Mod_keep 256 = .ok (.iload_n 2, 1) := by decide +kernel
theorem d_Mod_keep_257 : decode b_Mod_keep 257 = .ok (.aload_n 0, 1) := by decide +kernel
theorem d_Mod_keep_258 : decode b_Mod_keep 258 = .ok (.getfield 71, 3) := by decide +kernel
theorem d_Mod_keep_261 : decode b_Mod_keep 261 = .ok (.iload_n 1, 1) := by decide +kernel
theorem d_Mod_keep_262 : decode b_Mod_keep 262 = .ok (.iaload, 1) := by decide +kernel
theorem d_Mod_keep_263 : decode b_Mod_keep 263 = .ok (.iastore, 1) := by decide +kernel
theorem d_Mod_keep_264 : decode b_Mod_keep 264 = .ok (.aload_n 0, 1) := by decide +kernel
theorem d_Mod_keep_265 : decode b_Mod_keep 265 = .ok (.getfield 121, 3) := by decide +kernel
theorem d_Mod_keep_268 : decode b_Mod_keep 268 = .ok (.iload_n 2, 1) := by decide +kernel
theorem d_Mod_keep_269 : decode b_Mod_keep 269 = .ok (.aload_n 0, 1) := by decide +kernel
theorem d_Mod_keep_270 : decode b_Mod_keep 270 = .ok (.getfield 62, 3) := by decide +kernel
theorem d_Mod_keep_273 : decode b_Mod_keep 273 = .ok (.iload_n 1, 1) := by decide +kernel
theorem d_Mod_keep_274 : decode b_Mod_keep 274 = .ok (.iaload, 1) := by decide +kernel
theorem d_Mod_keep_275 : decode b_Mod_keep 275 = .ok (.ifCond .le 12, 3) := by decide +kernel
theorem d_Mod_keep_278 : decode b_Mod_keep 278 = .ok (.aload_n 0, 1) := by decide +kernel
theorem d_Mod_keep_279 : decode b_Mod_keep 279 = .ok (.getfield 74, 3) := by decide +kernel
theorem d_Mod_keep_282 : decode b_Mod_keep 282 = .ok (.iload_n 1, 1) := by decide +kernel
theorem d_Mod_keep_283 : decode b_Mod_keep 283 = .ok (.iaload, 1) := by decide +kernel
theorem d_Mod_keep_284 : decode b_Mod_keep 284 = .ok (.goto 4, 3) := by decide +kernel
theorem d_Mod_keep_287 : decode b_Mod_keep 287 = .ok (.iconst 0, 1) := by decide +kernel
theorem d_Mod_keep_288 : decode b_Mod_keep 288 = .ok (.iastore, 1) := by decide +kernel
theorem d_Mod_keep_289 : decode b_Mod_keep 289 = .ok (.aload_n 0, 1) := by decide +kernel
theorem d_Mod_keep_290 : decode b_Mod_keep 290 = .ok (.getfield 124, 3) := by decide +kernel
theorem d_Mod_keep_293 : decode b_Mod_keep 293 = .ok (.iload_n 2, 1) := by decide +kernel
theorem d_Mod_keep_294 : decode b_Mod_keep 294 = .ok (.aload_n 0, 1) := by decide +kernel
theorem d_Mod_keep_295 : decode b_Mod_keep 295 = .ok (.getfield 68, 3) := by decide +kernel
theorem d_Mod_keep_298 : decode b_Mod_keep 298 = .ok (.iload_n 1, 1) := by decide +kernel
theorem d_Mod_keep_299 : decode b_Mod_keep 299 = .ok (.iaload, 1) := by decide +kernel
theorem d_Mod_keep_300 : decode b_Mod_keep 300 = .ok (.iastore, 1) := by decide +kernel
theorem d_Mod_keep_301 : decode b_Mod_keep 301 = .ok (.aload_n 0, 1) := by decide +kernel
theorem d_Mod_keep_302 : decode b_Mod_keep 302 = .ok (.getfield 112, 3) := by decide +kernel
theorem d_Mod_keep_305 : decode b_Mod_keep 305 = .ok (.iconst 4, 1) := by decide +kernel
theorem d_Mod_keep_306 : decode b_Mod_keep 306 = .ok (.aload_n 0, 1) := by decide +kernel
theorem d_Mod_keep_307 : decode b_Mod_keep 307 = .ok (.getfield 112, 3) := by decide +kernel
theorem d_Mod_keep_310 : decode b_Mod_keep 310 = .ok (.iconst 4, 1) := by decide +kernel
theorem d_Mod_keep_311 : decode b_Mod_keep 311 = .ok (.iaload, 1) := by decide +kernel
theorem d_Mod_keep_312 : decode b_Mod_keep 312 = .ok (.aload_n 0, 1) := by decide +kernel
theorem d_Mod_keep_313 : decode b_Mod_keep 313 = .ok (.getfield 121, 3) := by decide +kernel
theorem d_Mod_keep_316 : decode b_Mod_keep 316 = .ok (.iload_n 2, 1) := by decide +kernel
theorem d_Mod_keep_317 : decode b_Mod_keep 317 = .ok (.iaload, 1) := by decide +kernel
theorem d_Mod_keep_318 : decode b_Mod_keep 318 = .ok (.iadd, 1) := by decide +kernel
theorem d_Mod_keep_319 : decode b_Mod_keep 319 = .ok (.iastore, 1) := by decide +kernel
theorem d_Mod_keep_320 : decode b_Mod_keep 320 = .ok (.aload_n 0, 1) := by decide +kernel
theorem d_Mod_keep_321 : decode b_Mod_keep 321 = .ok (.getfield 71, 3) := by decide +kernel
theorem d_Mod_keep_324 : decode b_Mod_keep 324 = .ok (.iload_n 1, 1) := by decide +kernel
theorem d_Mod_keep_325 : decode b_Mod_keep 325 = .ok (.iaload, 1) := by decide +kernel
theorem d_Mod_keep_326 : decode b_Mod_keep 326 = .ok (.istore_n 3, 1) := by decide +kernel
theorem d_Mod_keep_327 : decode b_Mod_keep 327 = .ok (.iload_n 3, 1) := by decide +kernel
theorem d_Mod_keep_328 : decode b_Mod_keep 328 = .ok (.aload_n 0, 1) := by decide +kernel
theorem d_Mod_keep_329 : decode b_Mod_keep 329 = .ok (.getfield 71, 3) := by decide +kernel
theorem d_Mod_keep_332 : decode b_Mod_keep 332 = .ok (.iload_n 1, 1) := by decide +kernel
theorem d_Mod_keep_333 : decode b_Mod_keep 333 = .ok (.iaload, 1) := by decide +kernel
theorem d_Mod_keep_334 : decode b_Mod_keep 334 = .ok (.aload_n 0, 1) := by decide +kernel
theorem d_Mod_keep_335 : decode b_Mod_keep 335 = .ok (.getfield 121, 3) := by decide +kernel
theorem d_Mod_keep_338 : decode b_Mod_keep 338 = .ok (.iload_n 2, 1) := by decide +kernel
theorem d_Mod_keep_339 : decode b_Mod_keep 339 = .ok (.iaload, 1) := by decide +kernel
theorem d_Mod_keep_340 : decode b_Mod_keep 340 = .ok (.iadd, 1) := by decide +kernel
theorem d_Mod_keep_341 : decode b_Mod_keep 341 = .ok (.if_icmp .ge 14, 3) := by decide +kernel
theorem d_Mod_keep_344 : decode b_Mod_keep 344 = .ok (.aload_n 0, 1) := by decide +kernel
theorem d_Mod_keep_345 : decode b_Mod_keep 345 = .ok (.iload_n 3, 1) := by decide +kernel
theorem d_Mod_keep_346 : decode b_Mod_keep 346 = .ok (.invokevirtual 414, 3) := by decide +kernel
theorem d_Mod_keep_349 : decode b_Mod_keep 349 = .ok (.iinc 3 1, 3) := by decide +kernel
theorem d_Mod_keep_352 : decode b_Mod_keep 352 = .ok (.goto (-25), 3) := by decide +kernel
theorem d_Mod_keep_355 : decode b_Mod_keep 355 = .ok (.iinc 1 1, 3) := by decide +kernel
theorem d_Mod_keep_358 : decode b_Mod_keep 358 = .ok (.goto (-121), 3) := by decide +kernel
theorem d_Mod_keep_361 : decode b_Mod_keep 361 = .ok (.return_, 1) := by decide +kernel
