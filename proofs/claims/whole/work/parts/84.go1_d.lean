theorem d_Frames_goOn_0 : decode b_Frames_goOn 0 = .ok (.iload_n 1, 1) := by decide +kernel
theorem d_Frames_goOn_1 : decode b_Frames_goOn 1 = .ok (.invokestatic 35, 3) := by decide +kernel
theorem d_Frames_goOn_4 : decode b_Frames_goOn 4 = .ok (.ifCond .ne 5, 3) := by decide +kernel
theorem d_Frames_goOn_7 : decode b_Frames_goOn 7 = .ok (.iconst 0, 1) := by decide +kernel
theorem d_Frames_goOn_8 : decode b_Frames_goOn 8 = .ok (.ireturn, 1) := by decide +kernel
theorem d_Frames_goOn_9 : decode b_Frames_goOn 9 = .ok (.iload_n 1, 1) := by decide +kernel
theorem d_Frames_goOn_10 : decode b_Frames_goOn 10 = .ok (.bipush 8, 2) := by decide +kernel
theorem d_Frames_goOn_12 : decode b_Frames_goOn 12 = .ok (.imul, 1) := by decide +kernel
theorem d_Frames_goOn_13 : decode b_Frames_goOn 13 = .ok (.istore 4, 2) := by decide +kernel
theorem d_Frames_goOn_15 : decode b_Frames_goOn 15 = .ok (.aload_n 0, 1) := by decide +kernel
theorem d_Frames_goOn_16 : decode b_Frames_goOn 16 = .ok (.getfield 22, 3) := by decide +kernel
theorem d_Frames_goOn_19 : decode b_Frames_goOn 19 = .ok (.iload_n 1, 1) := by decide +kernel
theorem d_Frames_goOn_20 : decode b_Frames_goOn 20 = .ok (.baload, 1) := by decide +kernel
theorem d_Frames_goOn_21 : decode b_Frames_goOn 21 = .ok (.iconst (-1), 1) := by decide +kernel
theorem d_Frames_goOn_22 : decode b_Frames_goOn 22 = .ok (.if_icmp .ne 31, 3) := by decide +kernel
theorem d_Frames_goOn_25 : decode b_Frames_goOn 25 = .ok (.aload_n 2, 1) := by decide +kernel
theorem d_Frames_goOn_26 : decode b_Frames_goOn 26 = .ok (.iconst 0, 1) := by decide +kernel
theorem d_Frames_goOn_27 : decode b_Frames_goOn 27 = .ok (.aload_n 0, 1) := by decide +kernel
theorem d_Frames_goOn_28 : decode b_Frames_goOn 28 = .ok (.getfield 11, 3) := by decide +kernel
theorem d_Frames_goOn_31 : decode b_Frames_goOn 31 = .ok (.iload 4, 2) := by decide +kernel
theorem d_Frames_goOn_33 : decode b_Frames_goOn 33 = .ok (.bipush 8, 2) := by decide +kernel
theorem d_Frames_goOn_35 : decode b_Frames_goOn 35 = .ok (.invokestatic 78, 3) := by decide +kernel
theorem d_Frames_goOn_38 : decode b_Frames_goOn 38 = .ok (.aload_n 0, 1) := by decide +kernel
theorem d_Frames_goOn_39 : decode b_Frames_goOn 39 = .ok (.getfield 22, 3) := by decide +kernel
theorem d_Frames_goOn_42 : decode b_Frames_goOn 42 = .ok (.iload_n 1, 1) := by decide +kernel
theorem d_Frames_goOn_43 : decode b_Frames_goOn 43 = .ok (.iload_n 3, 1) := by decide +kernel
theorem d_Frames_goOn_44 : decode b_Frames_goOn 44 = .ok (.i2b, 1) := by decide +kernel
theorem d_Frames_goOn_45 : decode b_Frames_goOn 45 = .ok (.bastore, 1) := by decide +kernel
theorem d_Frames_goOn_46 : decode b_Frames_goOn 46 = .ok (.aload_n 0, 1) := by decide +kernel
theorem d_Frames_goOn_47 : decode b_Frames_goOn 47 = .ok (.iload_n 1, 1) := by decide +kernel
theorem d_Frames_goOn_48 : decode b_Frames_goOn 48 = .ok (.invokevirtual 84, 3) := by decide +kernel
theorem d_Frames_goOn_51 : decode b_Frames_goOn 51 = .ok (.iconst 0, 1) := by decide +kernel
theorem d_Frames_goOn_52 : decode b_Frames_goOn 52 = .ok (.ireturn, 1) := by decide +kernel
theorem d_Frames_goOn_53 : decode b_Frames_goOn 53 = .ok (.iconst 0, 1) := by decide +kernel
theorem d_Frames_goOn_54 : decode b_Frames_goOn 54 = .ok (.istore 5, 2) := by decide +kernel
theorem d_Frames_goOn_56 : decode b_Frames_goOn 56 = .ok (.iload 5, 2) := by decide +kernel
theorem d_Frames_goOn_58 : decode b_Frames_goOn 58 = .ok (.iconst 4, 1) := by decide +kernel
theorem d_Frames_goOn_59 : decode b_Frames_goOn 59 = .ok (.if_icmp .ge 30, 3) := by decide +kernel
theorem d_Frames_goOn_62 : decode b_Frames_goOn 62 = .ok (.aload_n 0, 1) := by decide +kernel
theorem d_Frames_goOn_63 : decode b_Frames_goOn 63 = .ok (.getfield 11, 3) := by decide +kernel
theorem d_Frames_goOn_66 : decode b_Frames_goOn 66 = .ok (.iload 4, 2) := by decide +kernel
theorem d_Frames_goOn_68 : decode b_Frames_goOn 68 = .ok (.iload 5, 2) := by decide +kernel
theorem d_Frames_goOn_70 : decode b_Frames_goOn 70 = .ok (.iadd, 1) := by decide +kernel
theorem d_Frames_goOn_71 : decode b_Frames_goOn 71 = .ok (.laload, 1) := by decide +kernel
theorem d_Frames_goOn_72 : decode b_Frames_goOn 72 = .ok (.aload_n 2, 1) := by decide +kernel
theorem d_Frames_goOn_73 : decode b_Frames_goOn 73 = .ok (.iload 5, 2) := by decide +kernel
theorem d_Frames_goOn_75 : decode b_Frames_goOn 75 = .ok (.laload, 1) := by decide +kernel
theorem d_Frames_goOn_76 : decode b_Frames_goOn 76 = .ok (.lcmp, 1) := by decide +kernel
theorem d_Frames_goOn_77 : decode b_Frames_goOn 77 = .ok (.ifCond .eq 6, 3) := by decide +kernel
theorem d_Frames_goOn_80 : decode b_Frames_goOn 80 = .ok (.bipush 25, 2) := by decide +kernel
theorem d_Frames_goOn_82 : decode b_Frames_goOn 82 = .ok (.ireturn, 1) := by decide +kernel
theorem d_Frames_goOn_83 : decode b_Frames_goOn 83 = .ok (.iinc 5 1, 3) := by decide +kernel
theorem d_Frames_goOn_86 : decode b_Frames_goOn 86 = .ok (.goto (-30), 3) := by decide +kernel
theorem d_Frames_goOn_89 : decode b_Frames_goOn 89 = .ok (.iconst 4, 1) := by decide +kernel
theorem d_Frames_goOn_90 : decode b_Frames_goOn 90 = .ok (.istore 5, 2) := by decide +kernel
theorem d_Frames_goOn_92 : decode b_Frames_goOn 92 = .ok (.iload 5, 2) := by decide +kernel
theorem d_Frames_goOn_94 : decode b_Frames_goOn 94 = .ok (.bipush 8, 2) := by decide +kernel
theorem d_Frames_goOn_96 : decode b_Frames_goOn 96 = .ok (.if_icmp .ge 44, 3) := by decide +kernel
theorem d_Frames_goOn_99 : decode b_Frames_goOn 99 = .ok (.aload_n 0, 1) := by decide +kernel
theorem d_Frames_goOn_100 : decode b_Frames_goOn 100 = .ok (.getfield 11, 3) := by decide +kernel
theorem d_Frames_goOn_103 : decode b_Frames_goOn 103 = .ok (.iload 4, 2) := by decide +kernel
theorem d_Frames_goOn_105 : decode b_Frames_goOn 105 = .ok (.iload 5, 2) := by decide +kernel
theorem d_Frames_goOn_107 : decode b_Frames_goOn 107 = .ok (.iadd, 1) := by decide +kernel
theorem d_Frames_goOn_108 : decode b_Frames_goOn 108 = .ok (.laload, 1) := by decide +kernel
theorem d_Frames_goOn_109 : decode b_Frames_goOn 109 = .ok (.aload_n 2, 1) := by decide +kernel
theorem d_Frames_goOn_110 : decode b_Frames_goOn 110 = .ok (.iload 5, 2) := by decide +kernel
theorem d_Frames_goOn_112 : decode b_Frames_goOn 112 = .ok (.laload, 1) := by decide +kernel
theorem d_Frames_goOn_113 : decode b_Frames_goOn 113 = .ok (.lcmp, 1) := by decide +kernel
theorem d_Frames_goOn_114 : decode b_Frames_goOn 114 = .ok (.ifCond .eq 20, 3) := by decide +kernel
theorem d_Frames_goOn_117 : decode b_Frames_goOn 117 = .ok (.aload_n 0, 1) := by decide +kernel
theorem d_Frames_goOn_118 : decode b_Frames_goOn 118 = .ok (.iload 4, 2) := by decide +kernel
theorem d_Frames_goOn_120 : decode b_Frames_goOn 120 = .ok (.aload_n 2, 1) := by decide +kernel
theorem d_Frames_goOn_121 : decode b_Frames_goOn 121 = .ok (.iload 5, 2) := by decide +kernel
theorem d_Frames_goOn_123 : decode b_Frames_goOn 123 = .ok (.invokevirtual 88, 3) := by decide +kernel
theorem d_Frames_goOn_126 : decode b_Frames_goOn 126 = .ok (.ifCond .eq 8, 3) := by decide +kernel
theorem d_Frames_goOn_129 : decode b_Frames_goOn 129 = .ok (.aload_n 0, 1) := by decide +kernel
theorem d_Frames_goOn_130 : decode b_Frames_goOn 130 = .ok (.iload_n 1, 1) := by decide +kernel
theorem d_Frames_goOn_131 : decode b_Frames_goOn 131 = .ok (.invokevirtual 84, 3) := by decide +kernel
theorem d_Frames_goOn_134 : decode b_Frames_goOn 134 = .ok (.iinc 5 1, 3) := by decide +kernel
theorem d_Frames_goOn_137 : decode b_Frames_goOn 137 = .ok (.goto (-45), 3) := by decide +kernel
theorem d_Frames_goOn_140 : decode b_Frames_goOn 140 = .ok (.iconst 0, 1) := by decide +kernel
theorem d_Frames_goOn_141 : decode b_Frames_goOn 141 = .ok (.ireturn, 1) := by decide +kernel
