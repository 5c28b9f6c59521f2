theorem d_Law_law_505 : decode b_Law_law 505 = .ok (.iaload, 1) := by decide +kernel
theorem d_Law_law_506 : decode b_Law_law 506 = .ok (.invokevirtual 94, 3) := by decide +kernel
theorem d_Law_law_509 : decode b_Law_law 509 = .ok (.istore 6, 2) := by decide +kernel
theorem d_Law_law_511 : decode b_Law_law 511 = .ok (.goto 83, 3) := by decide +kernel
theorem d_Law_law_514 : decode b_Law_law 514 = .ok (.aload_n 1, 1) := by decide +kernel
theorem d_Law_law_515 : decode b_Law_law 515 = .ok (.aload_n 0, 1) := by decide +kernel
theorem d_Law_law_516 : decode b_Law_law 516 = .ok (.iload 4, 2) := by decide +kernel
theorem d_Law_law_518 : decode b_Law_law 518 = .ok (.iconst 1, 1) := by decide +kernel
theorem d_Law_law_519 : decode b_Law_law 519 = .ok (.iadd, 1) := by decide +kernel
theorem d_Law_law_520 : decode b_Law_law 520 = .ok (.iaload, 1) := by decide +kernel
theorem d_Law_law_521 : decode b_Law_law 521 = .ok (.aload_n 0, 1) := by decide +kernel
theorem d_Law_law_522 : decode b_Law_law 522 = .ok (.iload 4, 2) := by decide +kernel
theorem d_Law_law_524 : decode b_Law_law 524 = .ok (.iconst 2, 1) := by decide +kernel
theorem d_Law_law_525 : decode b_Law_law 525 = .ok (.iadd, 1) := by decide +kernel
theorem d_Law_law_526 : decode b_Law_law 526 = .ok (.iaload, 1) := by decide +kernel
theorem d_Law_law_527 : decode b_Law_law 527 = .ok (.aload_n 0, 1) := by decide +kernel
theorem d_Law_law_528 : decode b_Law_law 528 = .ok (.iload 4, 2) := by decide +kernel
theorem d_Law_law_530 : decode b_Law_law 530 = .ok (.iconst 3, 1) := by decide +kernel
theorem d_Law_law_531 : decode b_Law_law 531 = .ok (.iadd, 1) := by decide +kernel
theorem d_Law_law_532 : decode b_Law_law 532 = .ok (.iaload, 1) := by decide +kernel
theorem d_Law_law_533 : decode b_Law_law 533 = .ok (.ifCond .eq 7, 3) := by decide +kernel
theorem d_Law_law_536 : decode b_Law_law 536 = .ok (.iconst 1, 1) := by decide +kernel
theorem d_Law_law_537 : decode b_Law_law 537 = .ok (.goto 4, 3) := by decide +kernel
theorem d_Law_law_540 : decode b_Law_law 540 = .ok (.iconst 0, 1) := by decide +kernel
theorem d_Law_law_541 : decode b_Law_law 541 = .ok (.aload_n 0, 1) := by decide +kernel
theorem d_Law_law_542 : decode b_Law_law 542 = .ok (.iload 4, 2) := by decide +kernel
theorem d_Law_law_544 : decode b_Law_law 544 = .ok (.iconst 4, 1) := by decide +kernel
theorem d_Law_law_545 : decode b_Law_law 545 = .ok (.iadd, 1) := by decide +kernel
theorem d_Law_law_546 : decode b_Law_law 546 = .ok (.iaload, 1) := by decide +kernel
theorem d_Law_law_547 : decode b_Law_law 547 = .ok (.aload_n 3, 1) := by decide +kernel
theorem d_Law_law_548 : decode b_Law_law 548 = .ok (.invokestatic 95, 3) := by decide +kernel
theorem d_Law_law_551 : decode b_Law_law 551 = .ok (.istore 5, 2) := by decide +kernel
theorem d_Law_law_553 : decode b_Law_law 553 = .ok (.aload_n 2, 1) := by decide +kernel
theorem d_Law_law_554 : decode b_Law_law 554 = .ok (.aload_n 0, 1) := by decide +kernel
theorem d_Law_law_555 : decode b_Law_law 555 = .ok (.iload 4, 2) := by decide +kernel
theorem d_Law_law_557 : decode b_Law_law 557 = .ok (.iconst 1, 1) := by decide +kernel
theorem d_Law_law_558 : decode b_Law_law 558 = .ok (.iadd, 1) := by decide +kernel
theorem d_Law_law_559 : decode b_Law_law 559 = .ok (.iaload, 1) := by decide +kernel
theorem d_Law_law_560 : decode b_Law_law 560 = .ok (.aload_n 0, 1) := by decide +kernel
theorem d_Law_law_561 : decode b_Law_law 561 = .ok (.iload 4, 2) := by decide +kernel
theorem d_Law_law_563 : decode b_Law_law 563 = .ok (.iconst 2, 1) := by decide +kernel
theorem d_Law_law_564 : decode b_Law_law 564 = .ok (.iadd, 1) := by decide +kernel
theorem d_Law_law_565 : decode b_Law_law 565 = .ok (.iaload, 1) := by decide +kernel
theorem d_Law_law_566 : decode b_Law_law 566 = .ok (.aload_n 0, 1) := by decide +kernel
theorem d_Law_law_567 : decode b_Law_law 567 = .ok (.iload 4, 2) := by decide +kernel
theorem d_Law_law_569 : decode b_Law_law 569 = .ok (.iconst 3, 1) := by decide +kernel
theorem d_Law_law_570 : decode b_Law_law 570 = .ok (.iadd, 1) := by decide +kernel
theorem d_Law_law_571 : decode b_Law_law 571 = .ok (.iaload, 1) := by decide +kernel
theorem d_Law_law_572 : decode b_Law_law 572 = .ok (.ifCond .eq 7, 3) := by decide +kernel
theorem d_Law_law_575 : decode b_Law_law 575 = .ok (.iconst 1, 1) := by decide +kernel
theorem d_Law_law_576 : decode b_Law_law 576 = .ok (.goto 4, 3) := by decide +kernel
theorem d_Law_law_579 : decode b_Law_law 579 = .ok (.iconst 0, 1) := by decide +kernel
theorem d_Law_law_580 : decode b_Law_law 580 = .ok (.aload_n 0, 1) := by decide +kernel
theorem d_Law_law_581 : decode b_Law_law 581 = .ok (.iload 4, 2) := by decide +kernel
theorem d_Law_law_583 : decode b_Law_law 583 = .ok (.iconst 4, 1) := by decide +kernel
theorem d_Law_law_584 : decode b_Law_law 584 = .ok (.iadd, 1) := by decide +kernel
theorem d_Law_law_585 : decode b_Law_law 585 = .ok (.iaload, 1) := by decide +kernel
theorem d_Law_law_586 : decode b_Law_law 586 = .ok (.invokevirtual 98, 3) := by decide +kernel
theorem d_Law_law_589 : decode b_Law_law 589 = .ok (.istore 6, 2) := by decide +kernel
theorem d_Law_law_591 : decode b_Law_law 591 = .ok (.goto 3, 3) := by decide +kernel
