theorem d_Law_law_455 : decode b_Law_law 455 = .ok (.if_icmp .eq 5, 3) := by decide +kernel
theorem d_Law_law_460 : decode b_Law_law 460 = .ok (.iload 5, 2) := by decide +kernel
theorem d_Law_law_462 : decode b_Law_law 462 = .ok (.ifCond .ne 15, 3) := by decide +kernel
theorem d_Law_law_465 : decode b_Law_law 465 = .ok (.aload_n 3, 1) := by decide +kernel
theorem d_Law_law_466 : decode b_Law_law 466 = .ok (.iconst 0, 1) := by decide +kernel
theorem d_Law_law_467 : decode b_Law_law 467 = .ok (.laload, 1) := by decide +kernel
theorem d_Law_law_468 : decode b_Law_law 468 = .ok (.iload 6, 2) := by decide +kernel
theorem d_Law_law_470 : decode b_Law_law 470 = .ok (.i2l, 1) := by decide +kernel
theorem d_Law_law_471 : decode b_Law_law 471 = .ok (.lcmp, 1) := by decide +kernel
theorem d_Law_law_472 : decode b_Law_law 472 = .ok (.ifCond .eq 5, 3) := by decide +kernel
theorem d_Law_law_477 : decode b_Law_law 477 = .ok (.goto 341, 3) := by decide +kernel
theorem d_Law_law_480 : decode b_Law_law 480 = .ok (.aload_n 1, 1) := by decide +kernel
theorem d_Law_law_481 : decode b_Law_law 481 = .ok (.invokevirtual 77, 3) := by decide +kernel
theorem d_Law_law_484 : decode b_Law_law 484 = .ok (.aload_n 2, 1) := by decide +kernel
theorem d_Law_law_485 : decode b_Law_law 485 = .ok (.invokevirtual 80, 3) := by decide +kernel
theorem d_Law_law_488 : decode b_Law_law 488 = .ok (.if_icmp .eq 330, 3) := by decide +kernel
theorem d_Law_law_493 : decode b_Law_law 493 = .ok (.aload_n 1, 1) := by decide +kernel
theorem d_Law_law_494 : decode b_Law_law 494 = .ok (.invokevirtual 81, 3) := by decide +kernel
theorem d_Law_law_497 : decode b_Law_law 497 = .ok (.aload_n 2, 1) := by decide +kernel
theorem d_Law_law_498 : decode b_Law_law 498 = .ok (.invokevirtual 84, 3) := by decide +kernel
theorem d_Law_law_501 : decode b_Law_law 501 = .ok (.if_icmp .eq 317, 3) := by decide +kernel
theorem d_Law_law_506 : decode b_Law_law 506 = .ok (.aload_n 1, 1) := by decide +kernel
theorem d_Law_law_507 : decode b_Law_law 507 = .ok (.aload_n 0, 1) := by decide +kernel
theorem d_Law_law_508 : decode b_Law_law 508 = .ok (.iload 4, 2) := by decide +kernel
theorem d_Law_law_510 : decode b_Law_law 510 = .ok (.iconst 1, 1) := by decide +kernel
theorem d_Law_law_511 : decode b_Law_law 511 = .ok (.iadd, 1) := by decide +kernel
theorem d_Law_law_512 : decode b_Law_law 512 = .ok (.iaload, 1) := by decide +kernel
theorem d_Law_law_513 : decode b_Law_law 513 = .ok (.aload_n 3, 1) := by decide +kernel
theorem d_Law_law_514 : decode b_Law_law 514 = .ok (.invokestatic 85, 3) := by decide +kernel
theorem d_Law_law_517 : decode b_Law_law 517 = .ok (.istore 5, 2) := by decide +kernel
theorem d_Law_law_519 : decode b_Law_law 519 = .ok (.aload_n 2, 1) := by decide +kernel
theorem d_Law_law_520 : decode b_Law_law 520 = .ok (.aload_n 0, 1) := by decide +kernel
theorem d_Law_law_521 : decode b_Law_law 521 = .ok (.iload 4, 2) := by decide +kernel
theorem d_Law_law_523 : decode b_Law_law 523 = .ok (.iconst 1, 1) := by decide +kernel
theorem d_Law_law_524 : decode b_Law_law 524 = .ok (.iadd, 1) := by decide +kernel
theorem d_Law_law_525 : decode b_Law_law 525 = .ok (.iaload, 1) := by decide +kernel
theorem d_Law_law_526 : decode b_Law_law 526 = .ok (.invokevirtual 87, 3) := by decide +kernel
theorem d_Law_law_529 : decode b_Law_law 529 = .ok (.istore 6, 2) := by decide +kernel
theorem d_Law_law_531 : decode b_Law_law 531 = .ok (.aload_n 2, 1) := by decide +kernel
theorem d_Law_law_532 : decode b_Law_law 532 = .ok (.invokevirtual 58, 3) := by decide +kernel
theorem d_Law_law_535 : decode b_Law_law 535 = .ok (.iload 5, 2) := by decide +kernel
theorem d_Law_law_537 : decode b_Law_law 537 = .ok (.if_icmp .eq 5, 3) := by decide +kernel
theorem d_Law_law_542 : decode b_Law_law 542 = .ok (.iload 5, 2) := by decide +kernel
theorem d_Law_law_544 : decode b_Law_law 544 = .ok (.ifCond .ne 15, 3) := by decide +kernel
theorem d_Law_law_559 : decode b_Law_law 559 = .ok (.goto 259, 3) := by decide +kernel
theorem d_Law_law_562 : decode b_Law_law 562 = .ok (.aload_n 1, 1) := by decide +kernel
theorem d_Law_law_563 : decode b_Law_law 563 = .ok (.aload_n 0, 1) := by decide +kernel
theorem d_Law_law_564 : decode b_Law_law 564 = .ok (.iload 4, 2) := by decide +kernel
theorem d_Law_law_566 : decode b_Law_law 566 = .ok (.iconst 1, 1) := by decide +kernel
theorem d_Law_law_567 : decode b_Law_law 567 = .ok (.iadd, 1) := by decide +kernel
theorem d_Law_law_568 : decode b_Law_law 568 = .ok (.iaload, 1) := by decide +kernel
theorem d_Law_law_569 : decode b_Law_law 569 = .ok (.aload_n 0, 1) := by decide +kernel
theorem d_Law_law_570 : decode b_Law_law 570 = .ok (.iload 4, 2) := by decide +kernel
theorem d_Law_law_572 : decode b_Law_law 572 = .ok (.iconst 2, 1) := by decide +kernel
theorem d_Law_law_573 : decode b_Law_law 573 = .ok (.iadd, 1) := by decide +kernel
theorem d_Law_law_574 : decode b_Law_law 574 = .ok (.iaload, 1) := by decide +kernel
theorem d_Law_law_575 : decode b_Law_law 575 = .ok (.aload_n 0, 1) := by decide +kernel
theorem d_Law_law_576 : decode b_Law_law 576 = .ok (.iload 4, 2) := by decide +kernel
theorem d_Law_law_578 : decode b_Law_law 578 = .ok (.iconst 3, 1) := by decide +kernel
theorem d_Law_law_579 : decode b_Law_law 579 = .ok (.iadd, 1) := by decide +kernel
