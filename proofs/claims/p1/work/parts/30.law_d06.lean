theorem d_Law_law_690 : decode b_Law_law 690 = .ok (.iload 5, 2) := by decide +kernel
theorem d_Law_law_692 : decode b_Law_law 692 = .ok (.ifCond .ne 15, 3) := by decide +kernel
theorem d_Law_law_707 : decode b_Law_law 707 = .ok (.goto 111, 3) := by decide +kernel
theorem d_Law_law_710 : decode b_Law_law 710 = .ok (.aload_n 1, 1) := by decide +kernel
theorem d_Law_law_711 : decode b_Law_law 711 = .ok (.aload_n 0, 1) := by decide +kernel
theorem d_Law_law_712 : decode b_Law_law 712 = .ok (.iload 4, 2) := by decide +kernel
theorem d_Law_law_714 : decode b_Law_law 714 = .ok (.iconst 1, 1) := by decide +kernel
theorem d_Law_law_715 : decode b_Law_law 715 = .ok (.iadd, 1) := by decide +kernel
theorem d_Law_law_716 : decode b_Law_law 716 = .ok (.iaload, 1) := by decide +kernel
theorem d_Law_law_717 : decode b_Law_law 717 = .ok (.aload_n 0, 1) := by decide +kernel
theorem d_Law_law_718 : decode b_Law_law 718 = .ok (.iload 4, 2) := by decide +kernel
theorem d_Law_law_720 : decode b_Law_law 720 = .ok (.iconst 2, 1) := by decide +kernel
theorem d_Law_law_721 : decode b_Law_law 721 = .ok (.iadd, 1) := by decide +kernel
theorem d_Law_law_722 : decode b_Law_law 722 = .ok (.iaload, 1) := by decide +kernel
theorem d_Law_law_723 : decode b_Law_law 723 = .ok (.aload_n 0, 1) := by decide +kernel
theorem d_Law_law_724 : decode b_Law_law 724 = .ok (.iload 4, 2) := by decide +kernel
theorem d_Law_law_726 : decode b_Law_law 726 = .ok (.iconst 3, 1) := by decide +kernel
theorem d_Law_law_727 : decode b_Law_law 727 = .ok (.iadd, 1) := by decide +kernel
theorem d_Law_law_728 : decode b_Law_law 728 = .ok (.iaload, 1) := by decide +kernel
theorem d_Law_law_729 : decode b_Law_law 729 = .ok (.ifCond .eq 7, 3) := by decide +kernel
theorem d_Law_law_732 : decode b_Law_law 732 = .ok (.iconst 1, 1) := by decide +kernel
theorem d_Law_law_733 : decode b_Law_law 733 = .ok (.goto 4, 3) := by decide +kernel
theorem d_Law_law_736 : decode b_Law_law 736 = .ok (.iconst 0, 1) := by decide +kernel
theorem d_Law_law_737 : decode b_Law_law 737 = .ok (.aload_n 0, 1) := by decide +kernel
theorem d_Law_law_738 : decode b_Law_law 738 = .ok (.iload 4, 2) := by decide +kernel
theorem d_Law_law_740 : decode b_Law_law 740 = .ok (.iconst 4, 1) := by decide +kernel
theorem d_Law_law_741 : decode b_Law_law 741 = .ok (.iadd, 1) := by decide +kernel
theorem d_Law_law_742 : decode b_Law_law 742 = .ok (.iaload, 1) := by decide +kernel
theorem d_Law_law_743 : decode b_Law_law 743 = .ok (.aload_n 3, 1) := by decide +kernel
theorem d_Law_law_744 : decode b_Law_law 744 = .ok (.invokestatic 95, 3) := by decide +kernel
theorem d_Law_law_747 : decode b_Law_law 747 = .ok (.istore 5, 2) := by decide +kernel
theorem d_Law_law_749 : decode b_Law_law 749 = .ok (.aload_n 2, 1) := by decide +kernel
theorem d_Law_law_750 : decode b_Law_law 750 = .ok (.aload_n 0, 1) := by decide +kernel
theorem d_Law_law_751 : decode b_Law_law 751 = .ok (.iload 4, 2) := by decide +kernel
theorem d_Law_law_753 : decode b_Law_law 753 = .ok (.iconst 1, 1) := by decide +kernel
theorem d_Law_law_754 : decode b_Law_law 754 = .ok (.iadd, 1) := by decide +kernel
theorem d_Law_law_755 : decode b_Law_law 755 = .ok (.iaload, 1) := by decide +kernel
theorem d_Law_law_756 : decode b_Law_law 756 = .ok (.aload_n 0, 1) := by decide +kernel
theorem d_Law_law_757 : decode b_Law_law 757 = .ok (.iload 4, 2) := by decide +kernel
theorem d_Law_law_759 : decode b_Law_law 759 = .ok (.iconst 2, 1) := by decide +kernel
theorem d_Law_law_760 : decode b_Law_law 760 = .ok (.iadd, 1) := by decide +kernel
theorem d_Law_law_761 : decode b_Law_law 761 = .ok (.iaload, 1) := by decide +kernel
theorem d_Law_law_762 : decode b_Law_law 762 = .ok (.aload_n 0, 1) := by decide +kernel
theorem d_Law_law_763 : decode b_Law_law 763 = .ok (.iload 4, 2) := by decide +kernel
theorem d_Law_law_765 : decode b_Law_law 765 = .ok (.iconst 3, 1) := by decide +kernel
theorem d_Law_law_766 : decode b_Law_law 766 = .ok (.iadd, 1) := by decide +kernel
theorem d_Law_law_767 : decode b_Law_law 767 = .ok (.iaload, 1) := by decide +kernel
theorem d_Law_law_768 : decode b_Law_law 768 = .ok (.ifCond .eq 7, 3) := by decide +kernel
theorem d_Law_law_771 : decode b_Law_law 771 = .ok (.iconst 1, 1) := by decide +kernel
theorem d_Law_law_772 : decode b_Law_law 772 = .ok (.goto 4, 3) := by decide +kernel
theorem d_Law_law_775 : decode b_Law_law 775 = .ok (.iconst 0, 1) := by decide +kernel
theorem d_Law_law_776 : decode b_Law_law 776 = .ok (.aload_n 0, 1) := by decide +kernel
theorem d_Law_law_777 : decode b_Law_law 777 = .ok (.iload 4, 2) := by decide +kernel
theorem d_Law_law_779 : decode b_Law_law 779 = .ok (.iconst 4, 1) := by decide +kernel
theorem d_Law_law_780 : decode b_Law_law 780 = .ok (.iadd, 1) := by decide +kernel
theorem d_Law_law_781 : decode b_Law_law 781 = .ok (.iaload, 1) := by decide +kernel
theorem d_Law_law_782 : decode b_Law_law 782 = .ok (.invokevirtual 98, 3) := by decide +kernel
theorem d_Law_law_785 : decode b_Law_law 785 = .ok (.istore 6, 2) := by decide +kernel
theorem d_Law_law_787 : decode b_Law_law 787 = .ok (.aload_n 2, 1) := by decide +kernel
theorem d_Law_law_788 : decode b_Law_law 788 = .ok (.invokevirtual 58, 3) := by decide +kernel
