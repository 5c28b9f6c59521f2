theorem d_Law_law_580 : decode b_Law_law 580 = .ok (.iaload, 1) := by decide +kernel
theorem d_Law_law_581 : decode b_Law_law 581 = .ok (.aload_n 3, 1) := by decide +kernel
theorem d_Law_law_582 : decode b_Law_law 582 = .ok (.invokestatic 88, 3) := by decide +kernel
theorem d_Law_law_585 : decode b_Law_law 585 = .ok (.istore 5, 2) := by decide +kernel
theorem d_Law_law_587 : decode b_Law_law 587 = .ok (.aload_n 2, 1) := by decide +kernel
theorem d_Law_law_588 : decode b_Law_law 588 = .ok (.aload_n 0, 1) := by decide +kernel
theorem d_Law_law_589 : decode b_Law_law 589 = .ok (.iload 4, 2) := by decide +kernel
theorem d_Law_law_591 : decode b_Law_law 591 = .ok (.iconst 1, 1) := by decide +kernel
theorem d_Law_law_592 : decode b_Law_law 592 = .ok (.iadd, 1) := by decide +kernel
theorem d_Law_law_593 : decode b_Law_law 593 = .ok (.iaload, 1) := by decide +kernel
theorem d_Law_law_594 : decode b_Law_law 594 = .ok (.aload_n 0, 1) := by decide +kernel
theorem d_Law_law_595 : decode b_Law_law 595 = .ok (.iload 4, 2) := by decide +kernel
theorem d_Law_law_597 : decode b_Law_law 597 = .ok (.iconst 2, 1) := by decide +kernel
theorem d_Law_law_598 : decode b_Law_law 598 = .ok (.iadd, 1) := by decide +kernel
theorem d_Law_law_599 : decode b_Law_law 599 = .ok (.iaload, 1) := by decide +kernel
theorem d_Law_law_600 : decode b_Law_law 600 = .ok (.aload_n 0, 1) := by decide +kernel
theorem d_Law_law_601 : decode b_Law_law 601 = .ok (.iload 4, 2) := by decide +kernel
theorem d_Law_law_603 : decode b_Law_law 603 = .ok (.iconst 3, 1) := by decide +kernel
theorem d_Law_law_604 : decode b_Law_law 604 = .ok (.iadd, 1) := by decide +kernel
theorem d_Law_law_605 : decode b_Law_law 605 = .ok (.iaload, 1) := by decide +kernel
theorem d_Law_law_606 : decode b_Law_law 606 = .ok (.invokevirtual 91, 3) := by decide +kernel
theorem d_Law_law_609 : decode b_Law_law 609 = .ok (.istore 6, 2) := by decide +kernel
theorem d_Law_law_611 : decode b_Law_law 611 = .ok (.aload_n 2, 1) := by decide +kernel
theorem d_Law_law_612 : decode b_Law_law 612 = .ok (.invokevirtual 58, 3) := by decide +kernel
theorem d_Law_law_615 : decode b_Law_law 615 = .ok (.iload 5, 2) := by decide +kernel
theorem d_Law_law_617 : decode b_Law_law 617 = .ok (.if_icmp .eq 5, 3) := by decide +kernel
theorem d_Law_law_622 : decode b_Law_law 622 = .ok (.iload 5, 2) := by decide +kernel
theorem d_Law_law_624 : decode b_Law_law 624 = .ok (.ifCond .ne 15, 3) := by decide +kernel
theorem d_Law_law_639 : decode b_Law_law 639 = .ok (.goto 179, 3) := by decide +kernel
theorem d_Law_law_642 : decode b_Law_law 642 = .ok (.aload_n 1, 1) := by decide +kernel
theorem d_Law_law_643 : decode b_Law_law 643 = .ok (.aload_n 0, 1) := by decide +kernel
theorem d_Law_law_644 : decode b_Law_law 644 = .ok (.iload 4, 2) := by decide +kernel
theorem d_Law_law_646 : decode b_Law_law 646 = .ok (.iconst 1, 1) := by decide +kernel
theorem d_Law_law_647 : decode b_Law_law 647 = .ok (.iadd, 1) := by decide +kernel
theorem d_Law_law_648 : decode b_Law_law 648 = .ok (.iaload, 1) := by decide +kernel
theorem d_Law_law_649 : decode b_Law_law 649 = .ok (.aload_n 0, 1) := by decide +kernel
theorem d_Law_law_650 : decode b_Law_law 650 = .ok (.iload 4, 2) := by decide +kernel
theorem d_Law_law_652 : decode b_Law_law 652 = .ok (.iconst 2, 1) := by decide +kernel
theorem d_Law_law_653 : decode b_Law_law 653 = .ok (.iadd, 1) := by decide +kernel
theorem d_Law_law_654 : decode b_Law_law 654 = .ok (.iaload, 1) := by decide +kernel
theorem d_Law_law_655 : decode b_Law_law 655 = .ok (.aload_n 3, 1) := by decide +kernel
theorem d_Law_law_656 : decode b_Law_law 656 = .ok (.invokestatic 92, 3) := by decide +kernel
theorem d_Law_law_659 : decode b_Law_law 659 = .ok (.istore 5, 2) := by decide +kernel
theorem d_Law_law_661 : decode b_Law_law 661 = .ok (.aload_n 2, 1) := by decide +kernel
theorem d_Law_law_662 : decode b_Law_law 662 = .ok (.aload_n 0, 1) := by decide +kernel
theorem d_Law_law_663 : decode b_Law_law 663 = .ok (.iload 4, 2) := by decide +kernel
theorem d_Law_law_665 : decode b_Law_law 665 = .ok (.iconst 1, 1) := by decide +kernel
theorem d_Law_law_666 : decode b_Law_law 666 = .ok (.iadd, 1) := by decide +kernel
theorem d_Law_law_667 : decode b_Law_law 667 = .ok (.iaload, 1) := by decide +kernel
theorem d_Law_law_668 : decode b_Law_law 668 = .ok (.aload_n 0, 1) := by decide +kernel
theorem d_Law_law_669 : decode b_Law_law 669 = .ok (.iload 4, 2) := by decide +kernel
theorem d_Law_law_671 : decode b_Law_law 671 = .ok (.iconst 2, 1) := by decide +kernel
theorem d_Law_law_672 : decode b_Law_law 672 = .ok (.iadd, 1) := by decide +kernel
theorem d_Law_law_673 : decode b_Law_law 673 = .ok (.iaload, 1) := by decide +kernel
theorem d_Law_law_674 : decode b_Law_law 674 = .ok (.invokevirtual 94, 3) := by decide +kernel
theorem d_Law_law_677 : decode b_Law_law 677 = .ok (.istore 6, 2) := by decide +kernel
theorem d_Law_law_679 : decode b_Law_law 679 = .ok (.aload_n 2, 1) := by decide +kernel
theorem d_Law_law_680 : decode b_Law_law 680 = .ok (.invokevirtual 58, 3) := by decide +kernel
theorem d_Law_law_683 : decode b_Law_law 683 = .ok (.iload 5, 2) := by decide +kernel
theorem d_Law_law_685 : decode b_Law_law 685 = .ok (.if_icmp .eq 5, 3) := by decide +kernel
