theorem d_Law_law_229 : decode b_Law_law 229 = .ok (.aload_n 2, 1) := by decide +kernel
theorem d_Law_law_230 : decode b_Law_law 230 = .ok (.aload_n 0, 1) := by decide +kernel
theorem d_Law_law_231 : decode b_Law_law 231 = .ok (.iload 4, 2) := by decide +kernel
theorem d_Law_law_233 : decode b_Law_law 233 = .ok (.iconst 1, 1) := by decide +kernel
theorem d_Law_law_234 : decode b_Law_law 234 = .ok (.iadd, 1) := by decide +kernel
theorem d_Law_law_235 : decode b_Law_law 235 = .ok (.iaload, 1) := by decide +kernel
theorem d_Law_law_236 : decode b_Law_law 236 = .ok (.invokevirtual 65, 3) := by decide +kernel
theorem d_Law_law_239 : decode b_Law_law 239 = .ok (.istore 6, 2) := by decide +kernel
theorem d_Law_law_241 : decode b_Law_law 241 = .ok (.goto 353, 3) := by decide +kernel
theorem d_Law_law_244 : decode b_Law_law 244 = .ok (.aload_n 1, 1) := by decide +kernel
theorem d_Law_law_245 : decode b_Law_law 245 = .ok (.aload_n 0, 1) := by decide +kernel
theorem d_Law_law_246 : decode b_Law_law 246 = .ok (.iload 4, 2) := by decide +kernel
theorem d_Law_law_248 : decode b_Law_law 248 = .ok (.iconst 1, 1) := by decide +kernel
theorem d_Law_law_249 : decode b_Law_law 249 = .ok (.iadd, 1) := by decide +kernel
theorem d_Law_law_250 : decode b_Law_law 250 = .ok (.iaload, 1) := by decide +kernel
theorem d_Law_law_251 : decode b_Law_law 251 = .ok (.ifCond .eq 7, 3) := by decide +kernel
theorem d_Law_law_254 : decode b_Law_law 254 = .ok (.iconst 1, 1) := by decide +kernel
theorem d_Law_law_255 : decode b_Law_law 255 = .ok (.goto 4, 3) := by decide +kernel
theorem d_Law_law_258 : decode b_Law_law 258 = .ok (.iconst 0, 1) := by decide +kernel
theorem d_Law_law_259 : decode b_Law_law 259 = .ok (.aload_n 0, 1) := by decide +kernel
theorem d_Law_law_260 : decode b_Law_law 260 = .ok (.iload 4, 2) := by decide +kernel
theorem d_Law_law_262 : decode b_Law_law 262 = .ok (.iconst 2, 1) := by decide +kernel
theorem d_Law_law_263 : decode b_Law_law 263 = .ok (.iadd, 1) := by decide +kernel
theorem d_Law_law_264 : decode b_Law_law 264 = .ok (.iaload, 1) := by decide +kernel
theorem d_Law_law_265 : decode b_Law_law 265 = .ok (.aload_n 3, 1) := by decide +kernel
theorem d_Law_law_266 : decode b_Law_law 266 = .ok (.invokestatic 66, 3) := by decide +kernel
theorem d_Law_law_269 : decode b_Law_law 269 = .ok (.istore 5, 2) := by decide +kernel
theorem d_Law_law_271 : decode b_Law_law 271 = .ok (.aload_n 2, 1) := by decide +kernel
theorem d_Law_law_272 : decode b_Law_law 272 = .ok (.aload_n 0, 1) := by decide +kernel
theorem d_Law_law_273 : decode b_Law_law 273 = .ok (.iload 4, 2) := by decide +kernel
theorem d_Law_law_275 : decode b_Law_law 275 = .ok (.iconst 1, 1) := by decide +kernel
theorem d_Law_law_276 : decode b_Law_law 276 = .ok (.iadd, 1) := by decide +kernel
theorem d_Law_law_277 : decode b_Law_law 277 = .ok (.iaload, 1) := by decide +kernel
theorem d_Law_law_278 : decode b_Law_law 278 = .ok (.ifCond .eq 7, 3) := by decide +kernel
theorem d_Law_law_281 : decode b_Law_law 281 = .ok (.iconst 1, 1) := by decide +kernel
theorem d_Law_law_282 : decode b_Law_law 282 = .ok (.goto 4, 3) := by decide +kernel
theorem d_Law_law_285 : decode b_Law_law 285 = .ok (.iconst 0, 1) := by decide +kernel
theorem d_Law_law_286 : decode b_Law_law 286 = .ok (.aload_n 0, 1) := by decide +kernel
theorem d_Law_law_287 : decode b_Law_law 287 = .ok (.iload 4, 2) := by decide +kernel
theorem d_Law_law_289 : decode b_Law_law 289 = .ok (.iconst 2, 1) := by decide +kernel
theorem d_Law_law_290 : decode b_Law_law 290 = .ok (.iadd, 1) := by decide +kernel
theorem d_Law_law_291 : decode b_Law_law 291 = .ok (.iaload, 1) := by decide +kernel
theorem d_Law_law_292 : decode b_Law_law 292 = .ok (.invokevirtual 69, 3) := by decide +kernel
theorem d_Law_law_295 : decode b_Law_law 295 = .ok (.istore 6, 2) := by decide +kernel
theorem d_Law_law_297 : decode b_Law_law 297 = .ok (.goto 297, 3) := by decide +kernel
theorem d_Law_law_300 : decode b_Law_law 300 = .ok (.aload_n 1, 1) := by decide +kernel
theorem d_Law_law_301 : decode b_Law_law 301 = .ok (.aload_n 0, 1) := by decide +kernel
theorem d_Law_law_302 : decode b_Law_law 302 = .ok (.iload 4, 2) := by decide +kernel
theorem d_Law_law_304 : decode b_Law_law 304 = .ok (.iconst 1, 1) := by decide +kernel
theorem d_Law_law_305 : decode b_Law_law 305 = .ok (.iadd, 1) := by decide +kernel
theorem d_Law_law_306 : decode b_Law_law 306 = .ok (.iaload, 1) := by decide +kernel
theorem d_Law_law_307 : decode b_Law_law 307 = .ok (.aload_n 0, 1) := by decide +kernel
theorem d_Law_law_308 : decode b_Law_law 308 = .ok (.iload 4, 2) := by decide +kernel
theorem d_Law_law_310 : decode b_Law_law 310 = .ok (.iconst 2, 1) := by decide +kernel
theorem d_Law_law_311 : decode b_Law_law 311 = .ok (.iadd, 1) := by decide +kernel
theorem d_Law_law_312 : decode b_Law_law 312 = .ok (.iaload, 1) := by decide +kernel
theorem d_Law_law_313 : decode b_Law_law 313 = .ok (.aload_n 3, 1) := by decide +kernel
theorem d_Law_law_314 : decode b_Law_law 314 = .ok (.invokestatic 70, 3) := by decide +kernel
theorem d_Law_law_317 : decode b_Law_law 317 = .ok (.istore 5, 2) := by decide +kernel
theorem d_Law_law_319 : decode b_Law_law 319 = .ok (.aload_n 2, 1) := by decide +kernel
