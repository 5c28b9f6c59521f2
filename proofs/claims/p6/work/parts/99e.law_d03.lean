theorem d_Law_law_320 : decode b_Law_law 320 = .ok (.aload_n 0, 1) := by decide +kernel
theorem d_Law_law_321 : decode b_Law_law 321 = .ok (.iload 4, 2) := by decide +kernel
theorem d_Law_law_323 : decode b_Law_law 323 = .ok (.iconst 1, 1) := by decide +kernel
theorem d_Law_law_324 : decode b_Law_law 324 = .ok (.iadd, 1) := by decide +kernel
theorem d_Law_law_325 : decode b_Law_law 325 = .ok (.iaload, 1) := by decide +kernel
theorem d_Law_law_326 : decode b_Law_law 326 = .ok (.aload_n 0, 1) := by decide +kernel
theorem d_Law_law_327 : decode b_Law_law 327 = .ok (.iload 4, 2) := by decide +kernel
theorem d_Law_law_329 : decode b_Law_law 329 = .ok (.iconst 2, 1) := by decide +kernel
theorem d_Law_law_330 : decode b_Law_law 330 = .ok (.iadd, 1) := by decide +kernel
theorem d_Law_law_331 : decode b_Law_law 331 = .ok (.iaload, 1) := by decide +kernel
theorem d_Law_law_332 : decode b_Law_law 332 = .ok (.invokevirtual 72, 3) := by decide +kernel
theorem d_Law_law_335 : decode b_Law_law 335 = .ok (.istore 6, 2) := by decide +kernel
theorem d_Law_law_337 : decode b_Law_law 337 = .ok (.aload_n 2, 1) := by decide +kernel
theorem d_Law_law_338 : decode b_Law_law 338 = .ok (.invokevirtual 73, 3) := by decide +kernel
theorem d_Law_law_341 : decode b_Law_law 341 = .ok (.iload 5, 2) := by decide +kernel
theorem d_Law_law_343 : decode b_Law_law 343 = .ok (.if_icmp .eq 5, 3) := by decide +kernel
theorem d_Law_law_348 : decode b_Law_law 348 = .ok (.iload 5, 2) := by decide +kernel
theorem d_Law_law_350 : decode b_Law_law 350 = .ok (.ifCond .ne 15, 3) := by decide +kernel
theorem d_Law_law_353 : decode b_Law_law 353 = .ok (.aload_n 3, 1) := by decide +kernel
theorem d_Law_law_354 : decode b_Law_law 354 = .ok (.iconst 0, 1) := by decide +kernel
theorem d_Law_law_355 : decode b_Law_law 355 = .ok (.laload, 1) := by decide +kernel
theorem d_Law_law_356 : decode b_Law_law 356 = .ok (.iload 6, 2) := by decide +kernel
theorem d_Law_law_358 : decode b_Law_law 358 = .ok (.i2l, 1) := by decide +kernel
theorem d_Law_law_359 : decode b_Law_law 359 = .ok (.lcmp, 1) := by decide +kernel
theorem d_Law_law_360 : decode b_Law_law 360 = .ok (.ifCond .eq 5, 3) := by decide +kernel
theorem d_Law_law_365 : decode b_Law_law 365 = .ok (.goto 229, 3) := by decide +kernel
theorem d_Law_law_368 : decode b_Law_law 368 = .ok (.aload_n 1, 1) := by decide +kernel
theorem d_Law_law_369 : decode b_Law_law 369 = .ok (.invokevirtual 77, 3) := by decide +kernel
theorem d_Law_law_372 : decode b_Law_law 372 = .ok (.pop, 1) := by decide +kernel
theorem d_Law_law_373 : decode b_Law_law 373 = .ok (.aload_n 2, 1) := by decide +kernel
theorem d_Law_law_374 : decode b_Law_law 374 = .ok (.invokevirtual 80, 3) := by decide +kernel
theorem d_Law_law_377 : decode b_Law_law 377 = .ok (.pop, 1) := by decide +kernel
theorem d_Law_law_378 : decode b_Law_law 378 = .ok (.goto 216, 3) := by decide +kernel
theorem d_Law_law_381 : decode b_Law_law 381 = .ok (.aload_n 1, 1) := by decide +kernel
theorem d_Law_law_382 : decode b_Law_law 382 = .ok (.invokevirtual 81, 3) := by decide +kernel
theorem d_Law_law_385 : decode b_Law_law 385 = .ok (.pop, 1) := by decide +kernel
theorem d_Law_law_386 : decode b_Law_law 386 = .ok (.aload_n 2, 1) := by decide +kernel
theorem d_Law_law_387 : decode b_Law_law 387 = .ok (.invokevirtual 84, 3) := by decide +kernel
theorem d_Law_law_390 : decode b_Law_law 390 = .ok (.pop, 1) := by decide +kernel
theorem d_Law_law_391 : decode b_Law_law 391 = .ok (.goto 203, 3) := by decide +kernel
theorem d_Law_law_394 : decode b_Law_law 394 = .ok (.aload_n 1, 1) := by decide +kernel
theorem d_Law_law_395 : decode b_Law_law 395 = .ok (.aload_n 0, 1) := by decide +kernel
theorem d_Law_law_396 : decode b_Law_law 396 = .ok (.iload 4, 2) := by decide +kernel
theorem d_Law_law_398 : decode b_Law_law 398 = .ok (.iconst 1, 1) := by decide +kernel
theorem d_Law_law_399 : decode b_Law_law 399 = .ok (.iadd, 1) := by decide +kernel
theorem d_Law_law_400 : decode b_Law_law 400 = .ok (.iaload, 1) := by decide +kernel
theorem d_Law_law_401 : decode b_Law_law 401 = .ok (.aload_n 3, 1) := by decide +kernel
theorem d_Law_law_402 : decode b_Law_law 402 = .ok (.invokestatic 85, 3) := by decide +kernel
theorem d_Law_law_405 : decode b_Law_law 405 = .ok (.istore 5, 2) := by decide +kernel
theorem d_Law_law_407 : decode b_Law_law 407 = .ok (.aload_n 2, 1) := by decide +kernel
theorem d_Law_law_408 : decode b_Law_law 408 = .ok (.aload_n 0, 1) := by decide +kernel
theorem d_Law_law_409 : decode b_Law_law 409 = .ok (.iload 4, 2) := by decide +kernel
theorem d_Law_law_411 : decode b_Law_law 411 = .ok (.iconst 1, 1) := by decide +kernel
theorem d_Law_law_412 : decode b_Law_law 412 = .ok (.iadd, 1) := by decide +kernel
theorem d_Law_law_413 : decode b_Law_law 413 = .ok (.iaload, 1) := by decide +kernel
theorem d_Law_law_414 : decode b_Law_law 414 = .ok (.invokevirtual 87, 3) := by decide +kernel
theorem d_Law_law_417 : decode b_Law_law 417 = .ok (.istore 6, 2) := by decide +kernel
theorem d_Law_law_419 : decode b_Law_law 419 = .ok (.goto 175, 3) := by decide +kernel
theorem d_Law_law_422 : decode b_Law_law 422 = .ok (.aload_n 1, 1) := by decide +kernel
theorem d_Law_law_423 : decode b_Law_law 423 = .ok (.aload_n 0, 1) := by decide +kernel
