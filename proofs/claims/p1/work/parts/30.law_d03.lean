theorem d_Law_law_346 : decode b_Law_law 346 = .ok (.iconst 2, 1) := by decide +kernel
theorem d_Law_law_347 : decode b_Law_law 347 = .ok (.iadd, 1) := by decide +kernel
theorem d_Law_law_348 : decode b_Law_law 348 = .ok (.iaload, 1) := by decide +kernel
theorem d_Law_law_349 : decode b_Law_law 349 = .ok (.aload_n 3, 1) := by decide +kernel
theorem d_Law_law_350 : decode b_Law_law 350 = .ok (.invokestatic 70, 3) := by decide +kernel
theorem d_Law_law_353 : decode b_Law_law 353 = .ok (.istore 5, 2) := by decide +kernel
theorem d_Law_law_355 : decode b_Law_law 355 = .ok (.aload_n 2, 1) := by decide +kernel
theorem d_Law_law_356 : decode b_Law_law 356 = .ok (.aload_n 0, 1) := by decide +kernel
theorem d_Law_law_357 : decode b_Law_law 357 = .ok (.iload 4, 2) := by decide +kernel
theorem d_Law_law_359 : decode b_Law_law 359 = .ok (.iconst 1, 1) := by decide +kernel
theorem d_Law_law_360 : decode b_Law_law 360 = .ok (.iadd, 1) := by decide +kernel
theorem d_Law_law_361 : decode b_Law_law 361 = .ok (.iaload, 1) := by decide +kernel
theorem d_Law_law_362 : decode b_Law_law 362 = .ok (.ifCond .eq 7, 3) := by decide +kernel
theorem d_Law_law_365 : decode b_Law_law 365 = .ok (.iconst 1, 1) := by decide +kernel
theorem d_Law_law_366 : decode b_Law_law 366 = .ok (.goto 4, 3) := by decide +kernel
theorem d_Law_law_369 : decode b_Law_law 369 = .ok (.iconst 0, 1) := by decide +kernel
theorem d_Law_law_370 : decode b_Law_law 370 = .ok (.aload_n 0, 1) := by decide +kernel
theorem d_Law_law_371 : decode b_Law_law 371 = .ok (.iload 4, 2) := by decide +kernel
theorem d_Law_law_373 : decode b_Law_law 373 = .ok (.iconst 2, 1) := by decide +kernel
theorem d_Law_law_374 : decode b_Law_law 374 = .ok (.iadd, 1) := by decide +kernel
theorem d_Law_law_375 : decode b_Law_law 375 = .ok (.iaload, 1) := by decide +kernel
theorem d_Law_law_376 : decode b_Law_law 376 = .ok (.invokevirtual 73, 3) := by decide +kernel
theorem d_Law_law_379 : decode b_Law_law 379 = .ok (.istore 6, 2) := by decide +kernel
theorem d_Law_law_381 : decode b_Law_law 381 = .ok (.aload_n 2, 1) := by decide +kernel
theorem d_Law_law_382 : decode b_Law_law 382 = .ok (.invokevirtual 58, 3) := by decide +kernel
theorem d_Law_law_385 : decode b_Law_law 385 = .ok (.iload 5, 2) := by decide +kernel
theorem d_Law_law_387 : decode b_Law_law 387 = .ok (.if_icmp .eq 5, 3) := by decide +kernel
theorem d_Law_law_392 : decode b_Law_law 392 = .ok (.iload 5, 2) := by decide +kernel
theorem d_Law_law_394 : decode b_Law_law 394 = .ok (.ifCond .ne 15, 3) := by decide +kernel
theorem d_Law_law_409 : decode b_Law_law 409 = .ok (.goto 409, 3) := by decide +kernel
theorem d_Law_law_412 : decode b_Law_law 412 = .ok (.aload_n 1, 1) := by decide +kernel
theorem d_Law_law_413 : decode b_Law_law 413 = .ok (.aload_n 0, 1) := by decide +kernel
theorem d_Law_law_414 : decode b_Law_law 414 = .ok (.iload 4, 2) := by decide +kernel
theorem d_Law_law_416 : decode b_Law_law 416 = .ok (.iconst 1, 1) := by decide +kernel
theorem d_Law_law_417 : decode b_Law_law 417 = .ok (.iadd, 1) := by decide +kernel
theorem d_Law_law_418 : decode b_Law_law 418 = .ok (.iaload, 1) := by decide +kernel
theorem d_Law_law_419 : decode b_Law_law 419 = .ok (.aload_n 0, 1) := by decide +kernel
theorem d_Law_law_420 : decode b_Law_law 420 = .ok (.iload 4, 2) := by decide +kernel
theorem d_Law_law_422 : decode b_Law_law 422 = .ok (.iconst 2, 1) := by decide +kernel
theorem d_Law_law_423 : decode b_Law_law 423 = .ok (.iadd, 1) := by decide +kernel
theorem d_Law_law_424 : decode b_Law_law 424 = .ok (.iaload, 1) := by decide +kernel
theorem d_Law_law_425 : decode b_Law_law 425 = .ok (.aload_n 3, 1) := by decide +kernel
theorem d_Law_law_426 : decode b_Law_law 426 = .ok (.invokestatic 74, 3) := by decide +kernel
theorem d_Law_law_429 : decode b_Law_law 429 = .ok (.istore 5, 2) := by decide +kernel
theorem d_Law_law_431 : decode b_Law_law 431 = .ok (.aload_n 2, 1) := by decide +kernel
theorem d_Law_law_432 : decode b_Law_law 432 = .ok (.aload_n 0, 1) := by decide +kernel
theorem d_Law_law_433 : decode b_Law_law 433 = .ok (.iload 4, 2) := by decide +kernel
theorem d_Law_law_435 : decode b_Law_law 435 = .ok (.iconst 1, 1) := by decide +kernel
theorem d_Law_law_436 : decode b_Law_law 436 = .ok (.iadd, 1) := by decide +kernel
theorem d_Law_law_437 : decode b_Law_law 437 = .ok (.iaload, 1) := by decide +kernel
theorem d_Law_law_438 : decode b_Law_law 438 = .ok (.aload_n 0, 1) := by decide +kernel
theorem d_Law_law_439 : decode b_Law_law 439 = .ok (.iload 4, 2) := by decide +kernel
theorem d_Law_law_441 : decode b_Law_law 441 = .ok (.iconst 2, 1) := by decide +kernel
theorem d_Law_law_442 : decode b_Law_law 442 = .ok (.iadd, 1) := by decide +kernel
theorem d_Law_law_443 : decode b_Law_law 443 = .ok (.iaload, 1) := by decide +kernel
theorem d_Law_law_444 : decode b_Law_law 444 = .ok (.invokevirtual 76, 3) := by decide +kernel
theorem d_Law_law_447 : decode b_Law_law 447 = .ok (.istore 6, 2) := by decide +kernel
theorem d_Law_law_449 : decode b_Law_law 449 = .ok (.aload_n 2, 1) := by decide +kernel
theorem d_Law_law_450 : decode b_Law_law 450 = .ok (.invokevirtual 58, 3) := by decide +kernel
theorem d_Law_law_453 : decode b_Law_law 453 = .ok (.iload 5, 2) := by decide +kernel
