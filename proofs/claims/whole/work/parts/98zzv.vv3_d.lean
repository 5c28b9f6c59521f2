theorem d_Mod_through_0 : decode b_Mod_through 0 = .ok (.aload_n 0, 1) := by decide +kernel
theorem d_Mod_through_1 : decode b_Mod_through 1 = .ok (.getfield 93, 3) := by decide +kernel
theorem d_Mod_through_4 : decode b_Mod_through 4 = .ok (.iload_n 2, 1) := by decide +kernel
theorem d_Mod_through_5 : decode b_Mod_through 5 = .ok (.iconst 0, 1) := by decide +kernel
theorem d_Mod_through_6 : decode b_Mod_through 6 = .ok (.bastore, 1) := by decide +kernel
theorem d_Mod_through_7 : decode b_Mod_through 7 = .ok (.aload_n 0, 1) := by decide +kernel
theorem d_Mod_through_8 : decode b_Mod_through 8 = .ok (.iload_n 2, 1) := by decide +kernel
theorem d_Mod_through_9 : decode b_Mod_through 9 = .ok (.putfield 309, 3) := by decide +kernel
theorem d_Mod_through_12 : decode b_Mod_through 12 = .ok (.aload_n 0, 1) := by decide +kernel
theorem d_Mod_through_13 : decode b_Mod_through 13 = .ok (.aload_n 0, 1) := by decide +kernel
theorem d_Mod_through_14 : decode b_Mod_through 14 = .ok (.getfield 90, 3) := by decide +kernel
theorem d_Mod_through_17 : decode b_Mod_through 17 = .ok (.iload_n 2, 1) := by decide +kernel
theorem d_Mod_through_18 : decode b_Mod_through 18 = .ok (.iaload, 1) := by decide +kernel
theorem d_Mod_through_19 : decode b_Mod_through 19 = .ok (.putfield 312, 3) := by decide +kernel
theorem d_Mod_through_22 : decode b_Mod_through 22 = .ok (.iconst 0, 1) := by decide +kernel
theorem d_Mod_through_23 : decode b_Mod_through 23 = .ok (.istore_n 3, 1) := by decide +kernel
theorem d_Mod_through_24 : decode b_Mod_through 24 = .ok (.iload_n 3, 1) := by decide +kernel
theorem d_Mod_through_25 : decode b_Mod_through 25 = .ok (.sipush 128, 3) := by decide +kernel
theorem d_Mod_through_28 : decode b_Mod_through 28 = .ok (.if_icmp .ge 27, 3) := by decide +kernel
theorem d_Mod_through_31 : decode b_Mod_through 31 = .ok (.aload_n 0, 1) := by decide +kernel
theorem d_Mod_through_32 : decode b_Mod_through 32 = .ok (.getfield 100, 3) := by decide +kernel
theorem d_Mod_through_35 : decode b_Mod_through 35 = .ok (.iload_n 3, 1) := by decide +kernel
theorem d_Mod_through_36 : decode b_Mod_through 36 = .ok (.aload_n 0, 1) := by decide +kernel
theorem d_Mod_through_37 : decode b_Mod_through 37 = .ok (.getfield 97, 3) := by decide +kernel
theorem d_Mod_through_40 : decode b_Mod_through 40 = .ok (.sipush 128, 3) := by decide +kernel
theorem d_Mod_through_43 : decode b_Mod_through 43 = .ok (.iload_n 2, 1) := by decide +kernel
theorem d_Mod_through_44 : decode b_Mod_through 44 = .ok (.imul, 1) := by decide +kernel
theorem d_Mod_through_45 : decode b_Mod_through 45 = .ok (.iload_n 3, 1) := by decide +kernel
theorem d_Mod_through_46 : decode b_Mod_through 46 = .ok (.iadd, 1) := by decide +kernel
theorem d_Mod_through_47 : decode b_Mod_through 47 = .ok (.iaload, 1) := by decide +kernel
theorem d_Mod_through_48 : decode b_Mod_through 48 = .ok (.iastore, 1) := by decide +kernel
theorem d_Mod_through_49 : decode b_Mod_through 49 = .ok (.iinc 3 1, 3) := by decide +kernel
theorem d_Mod_through_52 : decode b_Mod_through 52 = .ok (.goto (-28), 3) := by decide +kernel
theorem d_Mod_through_55 : decode b_Mod_through 55 = .ok (.iconst 0, 1) := by decide +kernel
theorem d_Mod_through_56 : decode b_Mod_through 56 = .ok (.istore_n 3, 1) := by decide +kernel
theorem d_Mod_through_57 : decode b_Mod_through 57 = .ok (.iload_n 3, 1) := by decide +kernel
theorem d_Mod_through_58 : decode b_Mod_through 58 = .ok (.bipush 64, 2) := by decide +kernel
theorem d_Mod_through_60 : decode b_Mod_through 60 = .ok (.if_icmp .ge 21, 3) := by decide +kernel
theorem d_Mod_through_63 : decode b_Mod_through 63 = .ok (.aload_n 0, 1) := by decide +kernel
theorem d_Mod_through_64 : decode b_Mod_through 64 = .ok (.getfield 103, 3) := by decide +kernel
theorem d_Mod_through_67 : decode b_Mod_through 67 = .ok (.iload_n 3, 1) := by decide +kernel
theorem d_Mod_through_68 : decode b_Mod_through 68 = .ok (.aload_n 0, 1) := by decide +kernel
theorem d_Mod_through_69 : decode b_Mod_through 69 = .ok (.getfield 100, 3) := by decide +kernel
theorem d_Mod_through_72 : decode b_Mod_through 72 = .ok (.iload_n 3, 1) := by decide +kernel
theorem d_Mod_through_73 : decode b_Mod_through 73 = .ok (.iaload, 1) := by decide +kernel
theorem d_Mod_through_74 : decode b_Mod_through 74 = .ok (.iastore, 1) := by decide +kernel
theorem d_Mod_through_75 : decode b_Mod_through 75 = .ok (.iinc 3 1, 3) := by decide +kernel
theorem d_Mod_through_78 : decode b_Mod_through 78 = .ok (.goto (-21), 3) := by decide +kernel
theorem d_Mod_through_81 : decode b_Mod_through 81 = .ok (.aload_n 0, 1) := by decide +kernel
theorem d_Mod_through_82 : decode b_Mod_through 82 = .ok (.getfield 7, 3) := by decide +kernel
theorem d_Mod_through_85 : decode b_Mod_through 85 = .ok (.iload_n 2, 1) := by decide +kernel
theorem d_Mod_through_86 : decode b_Mod_through 86 = .ok (.iaload, 1) := by decide +kernel
theorem d_Mod_through_87 : decode b_Mod_through 87 = .ok (.istore_n 3, 1) := by decide +kernel
theorem d_Mod_through_88 : decode b_Mod_through 88 = .ok (.aload_n 0, 1) := by decide +kernel
theorem d_Mod_through_89 : decode b_Mod_through 89 = .ok (.iload_n 3, 1) := by decide +kernel
theorem d_Mod_through_90 : decode b_Mod_through 90 = .ok (.invokevirtual 367, 3) := by decide +kernel
theorem d_Mod_through_93 : decode b_Mod_through 93 = .ok (.ifCond .ne 8, 3) := by decide +kernel
theorem d_Mod_through_96 : decode b_Mod_through 96 = .ok (.aload_n 0, 1) := by decide +kernel
theorem d_Mod_through_97 : decode b_Mod_through 97 = .ok (.iload_n 3, 1) := by decide +kernel
theorem d_Mod_through_98 : decode b_Mod_through 98 = .ok (.invokevirtual 370, 3) := by decide +kernel
theorem d_Mod_through_101 : decode b_Mod_through 101 = .ok (.aload_n 0, 1) := by decide +kernel
theorem d_Mod_through_102 : decode b_Mod_through 102 = .ok (.iload_n 1, 1) := by decide +kernel
theorem d_Mod_through_103 : decode b_Mod_through 103 = .ok (.iload_n 2, 1) := by decide +kernel
theorem d_Mod_through_104 : decode b_Mod_through 104 = .ok (.aload_n 0, 1) := by decide +kernel
theorem d_Mod_through_105 : decode b_Mod_through 105 = .ok (.getfield 71, 3) := by decide +kernel
theorem d_Mod_through_108 : decode b_Mod_through 108 = .ok (.iload_n 1, 1) := by decide +kernel
theorem d_Mod_through_109 : decode b_Mod_through 109 = .ok (.iaload, 1) := by decide +kernel
theorem d_Mod_through_110 : decode b_Mod_through 110 = .ok (.isub, 1) := by decide +kernel
theorem d_Mod_through_111 : decode b_Mod_through 111 = .ok (.invokevirtual 373, 3) := by decide +kernel
theorem d_Mod_through_114 : decode b_Mod_through 114 = .ok (.iload_n 3, 1) := by decide +kernel
theorem d_Mod_through_115 : decode b_Mod_through 115 = .ok (.sipush 167, 3) := by decide +kernel
theorem d_Mod_through_118 : decode b_Mod_through 118 = .ok (.if_icmp .eq 23, 3) := by decide +kernel
theorem d_Mod_through_121 : decode b_Mod_through 121 = .ok (.iload_n 3, 1) := by decide +kernel
theorem d_Mod_through_122 : decode b_Mod_through 122 = .ok (.sipush 172, 3) := by decide +kernel
theorem d_Mod_through_125 : decode b_Mod_through 125 = .ok (.sipush 177, 3) := by decide +kernel
theorem d_Mod_through_128 : decode b_Mod_through 128 = .ok (.invokestatic 136, 3) := by decide +kernel
theorem d_Mod_through_131 : decode b_Mod_through 131 = .ok (.ifCond .ne 10, 3) := by decide +kernel
theorem d_Mod_through_134 : decode b_Mod_through 134 = .ok (.iload_n 3, 1) := by decide +kernel
theorem d_Mod_through_135 : decode b_Mod_through 135 = .ok (.sipush 191, 3) := by decide +kernel
theorem d_Mod_through_138 : decode b_Mod_through 138 = .ok (.if_icmp .ne 7, 3) := by decide +kernel
theorem d_Mod_through_141 : decode b_Mod_through 141 = .ok (.iconst 1, 1) := by decide +kernel
theorem d_Mod_through_142 : decode b_Mod_through 142 = .ok (.goto 4, 3) := by decide +kernel
theorem d_Mod_through_145 : decode b_Mod_through 145 = .ok (.iconst 0, 1) := by decide +kernel
theorem d_Mod_through_146 : decode b_Mod_through 146 = .ok (.istore 4, 2) := by decide +kernel
theorem d_Mod_through_148 : decode b_Mod_through 148 = .ok (.iload_n 2, 1) := by decide +kernel
theorem d_Mod_through_149 : decode b_Mod_through 149 = .ok (.iconst 1, 1) := by decide +kernel
theorem d_Mod_through_150 : decode b_Mod_through 150 = .ok (.iadd, 1) := by decide +kernel
theorem d_Mod_through_151 : decode b_Mod_through 151 = .ok (.iload_n 3, 1) := by decide +kernel
theorem d_Mod_through_152 : decode b_Mod_through 152 = .ok (.invokestatic 291, 3) := by decide +kernel
theorem d_Mod_through_155 : decode b_Mod_through 155 = .ok (.iadd, 1) := by decide +kernel
theorem d_Mod_through_156 : decode b_Mod_through 156 = .ok (.istore 5, 2) := by decide +kernel
theorem d_Mod_through_158 : decode b_Mod_through 158 = .ok (.aload_n 0, 1) := by decide +kernel
theorem d_Mod_through_159 : decode b_Mod_through 159 = .ok (.getfield 147, 3) := by decide +kernel
theorem d_Mod_through_162 : decode b_Mod_through 162 = .ok (.ifCond .ne 50, 3) := by decide +kernel
theorem d_Mod_through_165 : decode b_Mod_through 165 = .ok (.iload 4, 2) := by decide +kernel
theorem d_Mod_through_167 : decode b_Mod_through 167 = .ok (.ifCond .ne 45, 3) := by decide +kernel
theorem d_Mod_through_170 : decode b_Mod_through 170 = .ok (.iload 5, 2) := by decide +kernel
theorem d_Mod_through_172 : decode b_Mod_through 172 = .ok (.aload_n 0, 1) := by decide +kernel
theorem d_Mod_through_173 : decode b_Mod_through 173 = .ok (.getfield 71, 3) := by decide +kernel
theorem d_Mod_through_176 : decode b_Mod_through 176 = .ok (.iload_n 1, 1) := by decide +kernel
theorem d_Mod_through_177 : decode b_Mod_through 177 = .ok (.iaload, 1) := by decide +kernel
theorem d_Mod_through_178 : decode b_Mod_through 178 = .ok (.aload_n 0, 1) := by decide +kernel
theorem d_Mod_through_179 : decode b_Mod_through 179 = .ok (.getfield 74, 3) := by decide +kernel
theorem d_Mod_through_182 : decode b_Mod_through 182 = .ok (.iload_n 1, 1) := by decide +kernel
theorem d_Mod_through_183 : decode b_Mod_through 183 = .ok (.iaload, 1) := by decide +kernel
theorem d_Mod_through_184 : decode b_Mod_through 184 = .ok (.iadd, 1) := by decide +kernel
theorem d_Mod_through_185 : decode b_Mod_through 185 = .ok (.if_icmp .ne 13, 3) := by decide +kernel
theorem d_Mod_through_188 : decode b_Mod_through 188 = .ok (.aload_n 0, 1) := by decide +kernel
theorem d_Mod_through_189 : decode b_Mod_through 189 = .ok (.bipush 19, 2) := by decide +kernel
theorem d_Mod_through_191 : decode b_Mod_through 191 = .ok (.iload_n 2, 1) := by decide +kernel
theorem d_Mod_through_192 : decode b_Mod_through 192 = .ok (.invokevirtual 159, 3) := by decide +kernel
theorem d_Mod_through_195 : decode b_Mod_through 195 = .ok (.goto 17, 3) := by decide +kernel
theorem d_Mod_through_198 : decode b_Mod_through 198 = .ok (.aload_n 0, 1) := by decide +kernel
theorem d_Mod_through_199 : decode b_Mod_through 199 = .ok (.iload 5, 2) := by decide +kernel
theorem d_Mod_through_201 : decode b_Mod_through 201 = .ok (.aload_n 0, 1) := by decide +kernel
theorem d_Mod_through_202 : decode b_Mod_through 202 = .ok (.getfield 100, 3) := by decide +kernel
theorem d_Mod_through_205 : decode b_Mod_through 205 = .ok (.aload_n 0, 1) := by decide +kernel
theorem d_Mod_through_206 : decode b_Mod_through 206 = .ok (.getfield 312, 3) := by decide +kernel
theorem d_Mod_through_209 : decode b_Mod_through 209 = .ok (.invokevirtual 376, 3) := by decide +kernel
theorem d_Mod_through_212 : decode b_Mod_through 212 = .ok (.aload_n 0, 1) := by decide +kernel
theorem d_Mod_through_213 : decode b_Mod_through 213 = .ok (.getfield 147, 3) := by decide +kernel
theorem d_Mod_through_216 : decode b_Mod_through 216 = .ok (.ifCond .ne 94, 3) := by decide +kernel
theorem d_Mod_through_219 : decode b_Mod_through 219 = .ok (.iload_n 3, 1) := by decide +kernel
theorem d_Mod_through_220 : decode b_Mod_through 220 = .ok (.sipush 153, 3) := by decide +kernel
theorem d_Mod_through_223 : decode b_Mod_through 223 = .ok (.sipush 167, 3) := by decide +kernel
theorem d_Mod_through_226 : decode b_Mod_through 226 = .ok (.invokestatic 136, 3) := by decide +kernel
theorem d_Mod_through_229 : decode b_Mod_through 229 = .ok (.ifCond .ne 17, 3) := by decide +kernel
theorem d_Mod_through_232 : decode b_Mod_through 232 = .ok (.iload_n 3, 1) := by decide +kernel
theorem d_Mod_through_233 : decode b_Mod_through 233 = .ok (.sipush 198, 3) := by decide +kernel
theorem d_Mod_through_236 : decode b_Mod_through 236 = .ok (.if_icmp .eq 10, 3) := by decide +kernel
theorem d_Mod_through_239 : decode b_Mod_through 239 = .ok (.iload_n 3, 1) := by decide +kernel
theorem d_Mod_through_240 : decode b_Mod_through 240 = .ok (.sipush 199, 3) := by decide +kernel
theorem d_Mod_through_243 : decode b_Mod_through 243 = .ok (.if_icmp .ne 67, 3) := by decide +kernel
theorem d_Mod_through_246 : decode b_Mod_through 246 = .ok (.aload_n 0, 1) := by decide +kernel
theorem d_Mod_through_247 : decode b_Mod_through 247 = .ok (.iload_n 2, 1) := by decide +kernel
theorem d_Mod_through_248 : decode b_Mod_through 248 = .ok (.iconst 1, 1) := by decide +kernel
theorem d_Mod_through_249 : decode b_Mod_through 249 = .ok (.iadd, 1) := by decide +kernel
theorem d_Mod_through_250 : decode b_Mod_through 250 = .ok (.invokevirtual 294, 3) := by decide +kernel
theorem d_Mod_through_253 : decode b_Mod_through 253 = .ok (.i2s, 1) := by decide +kernel
theorem d_Mod_through_254 : decode b_Mod_through 254 = .ok (.istore 6, 2) := by decide +kernel
theorem d_Mod_through_256 : decode b_Mod_through 256 = .ok (.iload_n 2, 1) := by decide +kernel
theorem d_Mod_through_257 : decode b_Mod_through 257 = .ok (.aload_n 0, 1) := by decide +kernel
theorem d_Mod_through_258 : decode b_Mod_through 258 = .ok (.getfield 71, 3) := by decide +kernel
theorem d_Mod_through_261 : decode b_Mod_through 261 = .ok (.iload_n 1, 1) := by decide +kernel
theorem d_Mod_through_262 : decode b_Mod_through 262 = .ok (.iaload, 1) := by decide +kernel
theorem d_Mod_through_263 : decode b_Mod_through 263 = .ok (.isub, 1) := by decide +kernel
theorem d_Mod_through_264 : decode b_Mod_through 264 = .ok (.iload 6, 2) := by decide +kernel
theorem d_Mod_through_266 : decode b_Mod_through 266 = .ok (.iadd, 1) := by decide +kernel
theorem d_Mod_through_267 : decode b_Mod_through 267 = .ok (.istore 7, 2) := by decide +kernel
theorem d_Mod_through_269 : decode b_Mod_through 269 = .ok (.aload_n 0, 1) := by decide +kernel
theorem d_Mod_through_270 : decode b_Mod_through 270 = .ok (.iload_n 1, 1) := by decide +kernel
theorem d_Mod_through_271 : decode b_Mod_through 271 = .ok (.iload 7, 2) := by decide +kernel
theorem d_Mod_through_273 : decode b_Mod_through 273 = .ok (.invokevirtual 297, 3) := by decide +kernel
theorem d_Mod_through_276 : decode b_Mod_through 276 = .ok (.ifCond .eq 27, 3) := by decide +kernel
theorem d_Mod_through_279 : decode b_Mod_through 279 = .ok (.aload_n 0, 1) := by decide +kernel
theorem d_Mod_through_280 : decode b_Mod_through 280 = .ok (.aload_n 0, 1) := by decide +kernel
theorem d_Mod_through_281 : decode b_Mod_through 281 = .ok (.getfield 71, 3) := by decide +kernel
theorem d_Mod_through_284 : decode b_Mod_through 284 = .ok (.iload_n 1, 1) := by decide +kernel
theorem d_Mod_through_285 : decode b_Mod_through 285 = .ok (.iaload, 1) := by decide +kernel
theorem d_Mod_through_286 : decode b_Mod_through 286 = .ok (.iload 7, 2) := by decide +kernel
theorem d_Mod_through_288 : decode b_Mod_through 288 = .ok (.iadd, 1) := by decide +kernel
theorem d_Mod_through_289 : decode b_Mod_through 289 = .ok (.aload_n 0, 1) := by decide +kernel
theorem d_Mod_through_290 : decode b_Mod_through 290 = .ok (.getfield 100, 3) := by decide +kernel
theorem d_Mod_through_293 : decode b_Mod_through 293 = .ok (.aload_n 0, 1) := by decide +kernel
theorem d_Mod_through_294 : decode b_Mod_through 294 = .ok (.getfield 312, 3) := by decide +kernel
theorem d_Mod_through_297 : decode b_Mod_through 297 = .ok (.invokevirtual 376, 3) := by decide +kernel
theorem d_Mod_through_300 : decode b_Mod_through 300 = .ok (.goto 10, 3) := by decide +kernel
theorem d_Mod_through_303 : decode b_Mod_through 303 = .ok (.aload_n 0, 1) := by decide +kernel
theorem d_Mod_through_304 : decode b_Mod_through 304 = .ok (.bipush 24, 2) := by decide +kernel
theorem d_Mod_through_306 : decode b_Mod_through 306 = .ok (.iload_n 2, 1) := by decide +kernel
theorem d_Mod_through_307 : decode b_Mod_through 307 = .ok (.invokevirtual 159, 3) := by decide +kernel
theorem d_Mod_through_310 : decode b_Mod_through 310 = .ok (.return_, 1) := by decide +kernel
