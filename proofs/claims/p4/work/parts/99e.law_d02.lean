theorem d_Law_law_229 : decode b_Law_law 229 = .ok (.aload_n 2, 1) := by decide +kernel
theorem d_Law_law_230 : decode b_Law_law 230 = .ok (.aload_n 0, 1) := by decide +kernel
theorem d_Law_law_231 : decode b_Law_law 231 = .ok (.iload 4, 2) := by decide +kernel
theorem d_Law_law_233 : decode b_Law_law 233 = .ok (.iconst 1, 1) := by decide +kernel
theorem d_Law_law_234 : decode b_Law_law 234 = .ok (.iadd, 1) := by decide +kernel
theorem d_Law_law_235 : decode b_Law_law 235 = .ok (.iaload, 1) := by decide +kernel
theorem d_Law_law_236 : decode b_Law_law 236 = .ok (.invokevirtual 65, 3) := by decide +kernel
theorem d_Law_law_239 : decode b_Law_law 239 = .ok (.istore 6, 2) := by decide +kernel
theorem d_Law_law_241 : decode b_Law_law 241 = .ok (.aload_n 2, 1) := by decide +kernel
theorem d_Law_law_242 : decode b_Law_law 242 = .ok (.invokevirtual 66, 3) := by decide +kernel
theorem d_Law_law_245 : decode b_Law_law 245 = .ok (.iload 5, 2) := by decide +kernel
theorem d_Law_law_247 : decode b_Law_law 247 = .ok (.if_icmp .eq 5, 3) := by decide +kernel
theorem d_Law_law_252 : decode b_Law_law 252 = .ok (.iload 5, 2) := by decide +kernel
theorem d_Law_law_254 : decode b_Law_law 254 = .ok (.ifCond .ne 15, 3) := by decide +kernel
theorem d_Law_law_257 : decode b_Law_law 257 = .ok (.aload_n 3, 1) := by decide +kernel
theorem d_Law_law_258 : decode b_Law_law 258 = .ok (.iconst 0, 1) := by decide +kernel
theorem d_Law_law_259 : decode b_Law_law 259 = .ok (.laload, 1) := by decide +kernel
theorem d_Law_law_260 : decode b_Law_law 260 = .ok (.iload 6, 2) := by decide +kernel
theorem d_Law_law_262 : decode b_Law_law 262 = .ok (.i2l, 1) := by decide +kernel
theorem d_Law_law_263 : decode b_Law_law 263 = .ok (.lcmp, 1) := by decide +kernel
theorem d_Law_law_264 : decode b_Law_law 264 = .ok (.ifCond .eq 5, 3) := by decide +kernel
theorem d_Law_law_269 : decode b_Law_law 269 = .ok (.goto 325, 3) := by decide +kernel
theorem d_Law_law_272 : decode b_Law_law 272 = .ok (.aload_n 1, 1) := by decide +kernel
theorem d_Law_law_273 : decode b_Law_law 273 = .ok (.aload_n 0, 1) := by decide +kernel
theorem d_Law_law_274 : decode b_Law_law 274 = .ok (.iload 4, 2) := by decide +kernel
theorem d_Law_law_276 : decode b_Law_law 276 = .ok (.iconst 1, 1) := by decide +kernel
theorem d_Law_law_277 : decode b_Law_law 277 = .ok (.iadd, 1) := by decide +kernel
theorem d_Law_law_278 : decode b_Law_law 278 = .ok (.iaload, 1) := by decide +kernel
theorem d_Law_law_279 : decode b_Law_law 279 = .ok (.ifCond .eq 7, 3) := by decide +kernel
theorem d_Law_law_282 : decode b_Law_law 282 = .ok (.iconst 1, 1) := by decide +kernel
theorem d_Law_law_283 : decode b_Law_law 283 = .ok (.goto 4, 3) := by decide +kernel
theorem d_Law_law_286 : decode b_Law_law 286 = .ok (.iconst 0, 1) := by decide +kernel
theorem d_Law_law_287 : decode b_Law_law 287 = .ok (.aload_n 0, 1) := by decide +kernel
theorem d_Law_law_288 : decode b_Law_law 288 = .ok (.iload 4, 2) := by decide +kernel
theorem d_Law_law_290 : decode b_Law_law 290 = .ok (.iconst 2, 1) := by decide +kernel
theorem d_Law_law_291 : decode b_Law_law 291 = .ok (.iadd, 1) := by decide +kernel
theorem d_Law_law_292 : decode b_Law_law 292 = .ok (.iaload, 1) := by decide +kernel
theorem d_Law_law_293 : decode b_Law_law 293 = .ok (.aload_n 3, 1) := by decide +kernel
theorem d_Law_law_294 : decode b_Law_law 294 = .ok (.invokestatic 70, 3) := by decide +kernel
theorem d_Law_law_297 : decode b_Law_law 297 = .ok (.istore 5, 2) := by decide +kernel
theorem d_Law_law_299 : decode b_Law_law 299 = .ok (.aload_n 2, 1) := by decide +kernel
theorem d_Law_law_300 : decode b_Law_law 300 = .ok (.aload_n 0, 1) := by decide +kernel
theorem d_Law_law_301 : decode b_Law_law 301 = .ok (.iload 4, 2) := by decide +kernel
theorem d_Law_law_303 : decode b_Law_law 303 = .ok (.iconst 1, 1) := by decide +kernel
theorem d_Law_law_304 : decode b_Law_law 304 = .ok (.iadd, 1) := by decide +kernel
theorem d_Law_law_305 : decode b_Law_law 305 = .ok (.iaload, 1) := by decide +kernel
theorem d_Law_law_306 : decode b_Law_law 306 = .ok (.ifCond .eq 7, 3) := by decide +kernel
theorem d_Law_law_309 : decode b_Law_law 309 = .ok (.iconst 1, 1) := by decide +kernel
theorem d_Law_law_310 : decode b_Law_law 310 = .ok (.goto 4, 3) := by decide +kernel
theorem d_Law_law_313 : decode b_Law_law 313 = .ok (.iconst 0, 1) := by decide +kernel
theorem d_Law_law_314 : decode b_Law_law 314 = .ok (.aload_n 0, 1) := by decide +kernel
theorem d_Law_law_315 : decode b_Law_law 315 = .ok (.iload 4, 2) := by decide +kernel
theorem d_Law_law_317 : decode b_Law_law 317 = .ok (.iconst 2, 1) := by decide +kernel
theorem d_Law_law_318 : decode b_Law_law 318 = .ok (.iadd, 1) := by decide +kernel
theorem d_Law_law_319 : decode b_Law_law 319 = .ok (.iaload, 1) := by decide +kernel
theorem d_Law_law_320 : decode b_Law_law 320 = .ok (.invokevirtual 73, 3) := by decide +kernel
theorem d_Law_law_323 : decode b_Law_law 323 = .ok (.istore 6, 2) := by decide +kernel
theorem d_Law_law_325 : decode b_Law_law 325 = .ok (.goto 269, 3) := by decide +kernel
theorem d_Law_law_328 : decode b_Law_law 328 = .ok (.aload_n 1, 1) := by decide +kernel
theorem d_Law_law_329 : decode b_Law_law 329 = .ok (.aload_n 0, 1) := by decide +kernel
