theorem d_Mod_isInstruction_0 : decode b_Mod_isInstruction 0 = .ok (.iload_n 2, 1) := by decide +kernel
theorem d_Mod_isInstruction_1 : decode b_Mod_isInstruction 1 = .ok (.ifCond .lt 33, 3) := by decide +kernel
theorem d_Mod_isInstruction_4 : decode b_Mod_isInstruction 4 = .ok (.iload_n 2, 1) := by decide +kernel
theorem d_Mod_isInstruction_5 : decode b_Mod_isInstruction 5 = .ok (.aload_n 0, 1) := by decide +kernel
theorem d_Mod_isInstruction_6 : decode b_Mod_isInstruction 6 = .ok (.getfield 74, 3) := by decide +kernel
theorem d_Mod_isInstruction_9 : decode b_Mod_isInstruction 9 = .ok (.iload_n 1, 1) := by decide +kernel
theorem d_Mod_isInstruction_10 : decode b_Mod_isInstruction 10 = .ok (.iaload, 1) := by decide +kernel
theorem d_Mod_isInstruction_11 : decode b_Mod_isInstruction 11 = .ok (.if_icmp .ge 23, 3) := by decide +kernel
theorem d_Mod_isInstruction_14 : decode b_Mod_isInstruction 14 = .ok (.aload_n 0, 1) := by decide +kernel
theorem d_Mod_isInstruction_15 : decode b_Mod_isInstruction 15 = .ok (.getfield 86, 3) := by decide +kernel
theorem d_Mod_isInstruction_18 : decode b_Mod_isInstruction 18 = .ok (.aload_n 0, 1) := by decide +kernel
theorem d_Mod_isInstruction_19 : decode b_Mod_isInstruction 19 = .ok (.getfield 71, 3) := by decide +kernel
theorem d_Mod_isInstruction_22 : decode b_Mod_isInstruction 22 = .ok (.iload_n 1, 1) := by decide +kernel
theorem d_Mod_isInstruction_23 : decode b_Mod_isInstruction 23 = .ok (.iaload, 1) := by decide +kernel
theorem d_Mod_isInstruction_24 : decode b_Mod_isInstruction 24 = .ok (.iload_n 2, 1) := by decide +kernel
theorem d_Mod_isInstruction_25 : decode b_Mod_isInstruction 25 = .ok (.iadd, 1) := by decide +kernel
theorem d_Mod_isInstruction_26 : decode b_Mod_isInstruction 26 = .ok (.baload, 1) := by decide +kernel
theorem d_Mod_isInstruction_27 : decode b_Mod_isInstruction 27 = .ok (.ifCond .eq 7, 3) := by decide +kernel
theorem d_Mod_isInstruction_30 : decode b_Mod_isInstruction 30 = .ok (.iconst 1, 1) := by decide +kernel
theorem d_Mod_isInstruction_31 : decode b_Mod_isInstruction 31 = .ok (.goto 4, 3) := by decide +kernel
theorem d_Mod_isInstruction_34 : decode b_Mod_isInstruction 34 = .ok (.iconst 0, 1) := by decide +kernel
theorem d_Mod_isInstruction_35 : decode b_Mod_isInstruction 35 = .ok (.ireturn, 1) := by decide +kernel
theorem d_Mod_kindAt_0 : decode b_Mod_kindAt 0 = .ok (.aload_n 0, 1) := by decide +kernel
theorem d_Mod_kindAt_1 : decode b_Mod_kindAt 1 = .ok (.getfield 7, 3) := by decide +kernel
theorem d_Mod_kindAt_4 : decode b_Mod_kindAt 4 = .ok (.iload_n 1, 1) := by decide +kernel
theorem d_Mod_kindAt_5 : decode b_Mod_kindAt 5 = .ok (.iaload, 1) := by decide +kernel
theorem d_Mod_kindAt_6 : decode b_Mod_kindAt 6 = .ok (.istore_n 2, 1) := by decide +kernel
theorem d_Mod_kindAt_7 : decode b_Mod_kindAt 7 = .ok (.iload_n 2, 1) := by decide +kernel
theorem d_Mod_kindAt_8 : decode b_Mod_kindAt 8 = .ok (.bipush 74, 2) := by decide +kernel
theorem d_Mod_kindAt_10 : decode b_Mod_kindAt 10 = .ok (.if_icmp .ne 7, 3) := by decide +kernel
theorem d_Mod_kindAt_13 : decode b_Mod_kindAt 13 = .ok (.iconst 2, 1) := by decide +kernel
theorem d_Mod_kindAt_14 : decode b_Mod_kindAt 14 = .ok (.goto 52, 3) := by decide +kernel
theorem d_Mod_kindAt_17 : decode b_Mod_kindAt 17 = .ok (.iload_n 2, 1) := by decide +kernel
theorem d_Mod_kindAt_18 : decode b_Mod_kindAt 18 = .ok (.bipush 76, 2) := by decide +kernel
theorem d_Mod_kindAt_20 : decode b_Mod_kindAt 20 = .ok (.if_icmp .eq 9, 3) := by decide +kernel
theorem d_Mod_kindAt_23 : decode b_Mod_kindAt 23 = .ok (.iload_n 2, 1) := by decide +kernel
theorem d_Mod_kindAt_24 : decode b_Mod_kindAt 24 = .ok (.bipush 91, 2) := by decide +kernel
theorem d_Mod_kindAt_26 : decode b_Mod_kindAt 26 = .ok (.if_icmp .ne 7, 3) := by decide +kernel
theorem d_Mod_kindAt_29 : decode b_Mod_kindAt 29 = .ok (.iconst 4, 1) := by decide +kernel
theorem d_Mod_kindAt_30 : decode b_Mod_kindAt 30 = .ok (.goto 36, 3) := by decide +kernel
theorem d_Mod_kindAt_33 : decode b_Mod_kindAt 33 = .ok (.iload_n 2, 1) := by decide +kernel
theorem d_Mod_kindAt_34 : decode b_Mod_kindAt 34 = .ok (.bipush 70, 2) := by decide +kernel
theorem d_Mod_kindAt_36 : decode b_Mod_kindAt 36 = .ok (.if_icmp .ne 8, 3) := by decide +kernel
theorem d_Mod_kindAt_39 : decode b_Mod_kindAt 39 = .ok (.bipush 9, 2) := by decide +kernel
theorem d_Mod_kindAt_41 : decode b_Mod_kindAt 41 = .ok (.goto 25, 3) := by decide +kernel
theorem d_Mod_kindAt_44 : decode b_Mod_kindAt 44 = .ok (.iload_n 2, 1) := by decide +kernel
theorem d_Mod_kindAt_45 : decode b_Mod_kindAt 45 = .ok (.bipush 68, 2) := by decide +kernel
theorem d_Mod_kindAt_47 : decode b_Mod_kindAt 47 = .ok (.if_icmp .ne 8, 3) := by decide +kernel
theorem d_Mod_kindAt_50 : decode b_Mod_kindAt 50 = .ok (.bipush 10, 2) := by decide +kernel
theorem d_Mod_kindAt_52 : decode b_Mod_kindAt 52 = .ok (.goto 14, 3) := by decide +kernel
theorem d_Mod_kindAt_55 : decode b_Mod_kindAt 55 = .ok (.iload_n 2, 1) := by decide +kernel
theorem d_Mod_kindAt_56 : decode b_Mod_kindAt 56 = .ok (.bipush 86, 2) := by decide +kernel
theorem d_Mod_kindAt_58 : decode b_Mod_kindAt 58 = .ok (.if_icmp .ne 7, 3) := by decide +kernel
theorem d_Mod_kindAt_61 : decode b_Mod_kindAt 61 = .ok (.iconst 0, 1) := by decide +kernel
theorem d_Mod_kindAt_62 : decode b_Mod_kindAt 62 = .ok (.goto 4, 3) := by decide +kernel
theorem d_Mod_kindAt_65 : decode b_Mod_kindAt 65 = .ok (.iconst 1, 1) := by decide +kernel
theorem d_Mod_kindAt_66 : decode b_Mod_kindAt 66 = .ok (.ireturn, 1) := by decide +kernel
theorem d_Mod_markInstructions_0 : decode b_Mod_markInstructions 0 = .ok (.aload_n 0, 1) := by decide +kernel
theorem d_Mod_markInstructions_1 : decode b_Mod_markInstructions 1 = .ok (.getfield 71, 3) := by decide +kernel
theorem d_Mod_markInstructions_4 : decode b_Mod_markInstructions 4 = .ok (.iload_n 1, 1) := by decide +kernel
theorem d_Mod_markInstructions_5 : decode b_Mod_markInstructions 5 = .ok (.iaload, 1) := by decide +kernel
theorem d_Mod_markInstructions_6 : decode b_Mod_markInstructions 6 = .ok (.aload_n 0, 1) := by decide +kernel
theorem d_Mod_markInstructions_7 : decode b_Mod_markInstructions 7 = .ok (.getfield 74, 3) := by decide +kernel
theorem d_Mod_markInstructions_10 : decode b_Mod_markInstructions 10 = .ok (.iload_n 1, 1) := by decide +kernel
theorem d_Mod_markInstructions_11 : decode b_Mod_markInstructions 11 = .ok (.iaload, 1) := by decide +kernel
theorem d_Mod_markInstructions_12 : decode b_Mod_markInstructions 12 = .ok (.iadd, 1) := by decide +kernel
theorem d_Mod_markInstructions_13 : decode b_Mod_markInstructions 13 = .ok (.istore_n 2, 1) := by decide +kernel
theorem d_Mod_markInstructions_14 : decode b_Mod_markInstructions 14 = .ok (.aload_n 0, 1) := by decide +kernel
theorem d_Mod_markInstructions_15 : decode b_Mod_markInstructions 15 = .ok (.getfield 71, 3) := by decide +kernel
theorem d_Mod_markInstructions_18 : decode b_Mod_markInstructions 18 = .ok (.iload_n 1, 1) := by decide +kernel
theorem d_Mod_markInstructions_19 : decode b_Mod_markInstructions 19 = .ok (.iaload, 1) := by decide +kernel
theorem d_Mod_markInstructions_20 : decode b_Mod_markInstructions 20 = .ok (.istore_n 3, 1) := by decide +kernel
theorem d_Mod_markInstructions_21 : decode b_Mod_markInstructions 21 = .ok (.iload_n 3, 1) := by decide +kernel
theorem d_Mod_markInstructions_22 : decode b_Mod_markInstructions 22 = .ok (.iload_n 2, 1) := by decide +kernel
theorem d_Mod_markInstructions_23 : decode b_Mod_markInstructions 23 = .ok (.if_icmp .ge 30, 3) := by decide +kernel
theorem d_Mod_markInstructions_26 : decode b_Mod_markInstructions 26 = .ok (.aload_n 0, 1) := by decide +kernel
theorem d_Mod_markInstructions_27 : decode b_Mod_markInstructions 27 = .ok (.getfield 86, 3) := by decide +kernel
theorem d_Mod_markInstructions_30 : decode b_Mod_markInstructions 30 = .ok (.iload_n 3, 1) := by decide +kernel
theorem d_Mod_markInstructions_31 : decode b_Mod_markInstructions 31 = .ok (.iconst 0, 1) := by decide +kernel
theorem d_Mod_markInstructions_32 : decode b_Mod_markInstructions 32 = .ok (.bastore, 1) := by decide +kernel
theorem d_Mod_markInstructions_33 : decode b_Mod_markInstructions 33 = .ok (.aload_n 0, 1) := by decide +kernel
theorem d_Mod_markInstructions_34 : decode b_Mod_markInstructions 34 = .ok (.getfield 93, 3) := by decide +kernel
theorem d_Mod_markInstructions_37 : decode b_Mod_markInstructions 37 = .ok (.iload_n 3, 1) := by decide +kernel
theorem d_Mod_markInstructions_38 : decode b_Mod_markInstructions 38 = .ok (.iconst 0, 1) := by decide +kernel
theorem d_Mod_markInstructions_39 : decode b_Mod_markInstructions 39 = .ok (.bastore, 1) := by decide +kernel
theorem d_Mod_markInstructions_40 : decode b_Mod_markInstructions 40 = .ok (.aload_n 0, 1) := by decide +kernel
theorem d_Mod_markInstructions_41 : decode b_Mod_markInstructions 41 = .ok (.getfield 90, 3) := by decide +kernel
theorem d_Mod_markInstructions_44 : decode b_Mod_markInstructions 44 = .ok (.iload_n 3, 1) := by decide +kernel
theorem d_Mod_markInstructions_45 : decode b_Mod_markInstructions 45 = .ok (.iconst (-1), 1) := by decide +kernel
theorem d_Mod_markInstructions_46 : decode b_Mod_markInstructions 46 = .ok (.iastore, 1) := by decide +kernel
theorem d_Mod_markInstructions_47 : decode b_Mod_markInstructions 47 = .ok (.iinc 3 1, 3) := by decide +kernel
theorem d_Mod_markInstructions_50 : decode b_Mod_markInstructions 50 = .ok (.goto (-29), 3) := by decide +kernel
theorem d_Mod_markInstructions_53 : decode b_Mod_markInstructions 53 = .ok (.aload_n 0, 1) := by decide +kernel
theorem d_Mod_markInstructions_54 : decode b_Mod_markInstructions 54 = .ok (.getfield 71, 3) := by decide +kernel
theorem d_Mod_markInstructions_57 : decode b_Mod_markInstructions 57 = .ok (.iload_n 1, 1) := by decide +kernel
theorem d_Mod_markInstructions_58 : decode b_Mod_markInstructions 58 = .ok (.iaload, 1) := by decide +kernel
theorem d_Mod_markInstructions_59 : decode b_Mod_markInstructions 59 = .ok (.istore_n 3, 1) := by decide +kernel
theorem d_Mod_markInstructions_60 : decode b_Mod_markInstructions 60 = .ok (.iload_n 3, 1) := by decide +kernel
theorem d_Mod_markInstructions_61 : decode b_Mod_markInstructions 61 = .ok (.iload_n 2, 1) := by decide +kernel
theorem d_Mod_markInstructions_62 : decode b_Mod_markInstructions 62 = .ok (.if_icmp .ge 68, 3) := by decide +kernel
theorem d_Mod_markInstructions_65 : decode b_Mod_markInstructions 65 = .ok (.aload_n 0, 1) := by decide +kernel
theorem d_Mod_markInstructions_66 : decode b_Mod_markInstructions 66 = .ok (.getfield 147, 3) := by decide +kernel
theorem d_Mod_markInstructions_69 : decode b_Mod_markInstructions 69 = .ok (.ifCond .ne 61, 3) := by decide +kernel
theorem d_Mod_markInstructions_72 : decode b_Mod_markInstructions 72 = .ok (.aload_n 0, 1) := by decide +kernel
theorem d_Mod_markInstructions_73 : decode b_Mod_markInstructions 73 = .ok (.getfield 7, 3) := by decide +kernel
theorem d_Mod_markInstructions_76 : decode b_Mod_markInstructions 76 = .ok (.iload_n 3, 1) := by decide +kernel
theorem d_Mod_markInstructions_77 : decode b_Mod_markInstructions 77 = .ok (.iaload, 1) := by decide +kernel
theorem d_Mod_markInstructions_78 : decode b_Mod_markInstructions 78 = .ok (.invokestatic 291, 3) := by decide +kernel
theorem d_Mod_markInstructions_81 : decode b_Mod_markInstructions 81 = .ok (.istore 4, 2) := by decide +kernel
theorem d_Mod_markInstructions_83 : decode b_Mod_markInstructions 83 = .ok (.aload_n 0, 1) := by decide +kernel
theorem d_Mod_markInstructions_84 : decode b_Mod_markInstructions 84 = .ok (.getfield 86, 3) := by decide +kernel
theorem d_Mod_markInstructions_87 : decode b_Mod_markInstructions 87 = .ok (.iload_n 3, 1) := by decide +kernel
theorem d_Mod_markInstructions_88 : decode b_Mod_markInstructions 88 = .ok (.iconst 1, 1) := by decide +kernel
theorem d_Mod_markInstructions_89 : decode b_Mod_markInstructions 89 = .ok (.bastore, 1) := by decide +kernel
theorem d_Mod_markInstructions_90 : decode b_Mod_markInstructions 90 = .ok (.iload 4, 2) := by decide +kernel
theorem d_Mod_markInstructions_92 : decode b_Mod_markInstructions 92 = .ok (.ifCond .ge 13, 3) := by decide +kernel
theorem d_Mod_markInstructions_95 : decode b_Mod_markInstructions 95 = .ok (.aload_n 0, 1) := by decide +kernel
theorem d_Mod_markInstructions_96 : decode b_Mod_markInstructions 96 = .ok (.bipush 18, 2) := by decide +kernel
theorem d_Mod_markInstructions_98 : decode b_Mod_markInstructions 98 = .ok (.iload_n 3, 1) := by decide +kernel
theorem d_Mod_markInstructions_99 : decode b_Mod_markInstructions 99 = .ok (.invokevirtual 159, 3) := by decide +kernel
theorem d_Mod_markInstructions_102 : decode b_Mod_markInstructions 102 = .ok (.goto 18, 3) := by decide +kernel
theorem d_Mod_markInstructions_105 : decode b_Mod_markInstructions 105 = .ok (.iload_n 3, 1) := by decide +kernel
theorem d_Mod_markInstructions_106 : decode b_Mod_markInstructions 106 = .ok (.iload 4, 2) := by decide +kernel
theorem d_Mod_markInstructions_108 : decode b_Mod_markInstructions 108 = .ok (.iadd, 1) := by decide +kernel
theorem d_Mod_markInstructions_109 : decode b_Mod_markInstructions 109 = .ok (.iload_n 2, 1) := by decide +kernel
theorem d_Mod_markInstructions_110 : decode b_Mod_markInstructions 110 = .ok (.if_icmp .lt 10, 3) := by decide +kernel
theorem d_Mod_markInstructions_113 : decode b_Mod_markInstructions 113 = .ok (.aload_n 0, 1) := by decide +kernel
theorem d_Mod_markInstructions_114 : decode b_Mod_markInstructions 114 = .ok (.bipush 19, 2) := by decide +kernel
theorem d_Mod_markInstructions_116 : decode b_Mod_markInstructions 116 = .ok (.iload_n 3, 1) := by decide +kernel
theorem d_Mod_markInstructions_117 : decode b_Mod_markInstructions 117 = .ok (.invokevirtual 159, 3) := by decide +kernel
theorem d_Mod_markInstructions_120 : decode b_Mod_markInstructions 120 = .ok (.iload_n 3, 1) := by decide +kernel
theorem d_Mod_markInstructions_121 : decode b_Mod_markInstructions 121 = .ok (.iconst 1, 1) := by decide +kernel
theorem d_Mod_markInstructions_122 : decode b_Mod_markInstructions 122 = .ok (.iadd, 1) := by decide +kernel
theorem d_Mod_markInstructions_123 : decode b_Mod_markInstructions 123 = .ok (.iload 4, 2) := by decide +kernel
theorem d_Mod_markInstructions_125 : decode b_Mod_markInstructions 125 = .ok (.iadd, 1) := by decide +kernel
theorem d_Mod_markInstructions_126 : decode b_Mod_markInstructions 126 = .ok (.istore_n 3, 1) := by decide +kernel
theorem d_Mod_markInstructions_127 : decode b_Mod_markInstructions 127 = .ok (.goto (-67), 3) := by decide +kernel
theorem d_Mod_markInstructions_130 : decode b_Mod_markInstructions 130 = .ok (.return_, 1) := by decide +kernel
theorem d_Mod_twoAt_0 : decode b_Mod_twoAt 0 = .ok (.sipush 256, 3) := by decide +kernel
theorem d_Mod_twoAt_3 : decode b_Mod_twoAt 3 = .ok (.aload_n 0, 1) := by decide +kernel
theorem d_Mod_twoAt_4 : decode b_Mod_twoAt 4 = .ok (.getfield 7, 3) := by decide +kernel
theorem d_Mod_twoAt_7 : decode b_Mod_twoAt 7 = .ok (.iload_n 1, 1) := by decide +kernel
theorem d_Mod_twoAt_8 : decode b_Mod_twoAt 8 = .ok (.iaload, 1) := by decide +kernel
theorem d_Mod_twoAt_9 : decode b_Mod_twoAt 9 = .ok (.imul, 1) := by decide +kernel
theorem d_Mod_twoAt_10 : decode b_Mod_twoAt 10 = .ok (.aload_n 0, 1) := by decide +kernel
theorem d_Mod_twoAt_11 : decode b_Mod_twoAt 11 = .ok (.getfield 7, 3) := by decide +kernel
theorem d_Mod_twoAt_14 : decode b_Mod_twoAt 14 = .ok (.iload_n 1, 1) := by decide +kernel
theorem d_Mod_twoAt_15 : decode b_Mod_twoAt 15 = .ok (.iconst 1, 1) := by decide +kernel
theorem d_Mod_twoAt_16 : decode b_Mod_twoAt 16 = .ok (.iadd, 1) := by decide +kernel
theorem d_Mod_twoAt_17 : decode b_Mod_twoAt 17 = .ok (.iaload, 1) := by decide +kernel
theorem d_Mod_twoAt_18 : decode b_Mod_twoAt 18 = .ok (.iadd, 1) := by decide +kernel
theorem d_Mod_twoAt_19 : decode b_Mod_twoAt 19 = .ok (.ireturn, 1) := by decide +kernel
