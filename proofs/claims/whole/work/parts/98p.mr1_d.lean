theorem d_Verifier_isMethodRight_0 : decode b_Verifier_isMethodRight 0 = .ok (.aload_n 0, 1) := by decide +kernel
theorem d_Verifier_isMethodRight_1 : decode b_Verifier_isMethodRight 1 = .ok (.aload_n 0, 1) := by decide +kernel
theorem d_Verifier_isMethodRight_2 : decode b_Verifier_isMethodRight 2 = .ok (.getfield 27, 3) := by decide +kernel
theorem d_Verifier_isMethodRight_5 : decode b_Verifier_isMethodRight 5 = .ok (.iload_n 1, 1) := by decide +kernel
theorem d_Verifier_isMethodRight_6 : decode b_Verifier_isMethodRight 6 = .ok (.invokevirtual 59, 3) := by decide +kernel
theorem d_Verifier_isMethodRight_9 : decode b_Verifier_isMethodRight 9 = .ok (.putfield 62, 3) := by decide +kernel
theorem d_Verifier_isMethodRight_12 : decode b_Verifier_isMethodRight 12 = .ok (.aload_n 0, 1) := by decide +kernel
theorem d_Verifier_isMethodRight_13 : decode b_Verifier_isMethodRight 13 = .ok (.aload_n 0, 1) := by decide +kernel
theorem d_Verifier_isMethodRight_14 : decode b_Verifier_isMethodRight 14 = .ok (.getfield 62, 3) := by decide +kernel
theorem d_Verifier_isMethodRight_17 : decode b_Verifier_isMethodRight 17 = .ok (.aload_n 0, 1) := by decide +kernel
theorem d_Verifier_isMethodRight_18 : decode b_Verifier_isMethodRight 18 = .ok (.getfield 27, 3) := by decide +kernel
theorem d_Verifier_isMethodRight_21 : decode b_Verifier_isMethodRight 21 = .ok (.iload_n 1, 1) := by decide +kernel
theorem d_Verifier_isMethodRight_22 : decode b_Verifier_isMethodRight 22 = .ok (.invokevirtual 65, 3) := by decide +kernel
theorem d_Verifier_isMethodRight_25 : decode b_Verifier_isMethodRight 25 = .ok (.iadd, 1) := by decide +kernel
theorem d_Verifier_isMethodRight_26 : decode b_Verifier_isMethodRight 26 = .ok (.putfield 68, 3) := by decide +kernel
theorem d_Verifier_isMethodRight_29 : decode b_Verifier_isMethodRight 29 = .ok (.aload_n 0, 1) := by decide +kernel
theorem d_Verifier_isMethodRight_30 : decode b_Verifier_isMethodRight 30 = .ok (.invokevirtual 71, 3) := by decide +kernel
theorem d_Verifier_isMethodRight_33 : decode b_Verifier_isMethodRight 33 = .ok (.ifCond .eq 10, 3) := by decide +kernel
theorem d_Verifier_isMethodRight_36 : decode b_Verifier_isMethodRight 36 = .ok (.aload_n 0, 1) := by decide +kernel
theorem d_Verifier_isMethodRight_37 : decode b_Verifier_isMethodRight 37 = .ok (.invokevirtual 75, 3) := by decide +kernel
theorem d_Verifier_isMethodRight_40 : decode b_Verifier_isMethodRight 40 = .ok (.ifCond .ne 5, 3) := by decide +kernel
theorem d_Verifier_isMethodRight_43 : decode b_Verifier_isMethodRight 43 = .ok (.iconst 0, 1) := by decide +kernel
theorem d_Verifier_isMethodRight_44 : decode b_Verifier_isMethodRight 44 = .ok (.ireturn, 1) := by decide +kernel
theorem d_Verifier_isMethodRight_45 : decode b_Verifier_isMethodRight 45 = .ok (.aload_n 0, 1) := by decide +kernel
theorem d_Verifier_isMethodRight_46 : decode b_Verifier_isMethodRight 46 = .ok (.getfield 12, 3) := by decide +kernel
theorem d_Verifier_isMethodRight_49 : decode b_Verifier_isMethodRight 49 = .ok (.aload_n 0, 1) := by decide +kernel
theorem d_Verifier_isMethodRight_50 : decode b_Verifier_isMethodRight 50 = .ok (.getfield 27, 3) := by decide +kernel
theorem d_Verifier_isMethodRight_53 : decode b_Verifier_isMethodRight 53 = .ok (.iload_n 1, 1) := by decide +kernel
theorem d_Verifier_isMethodRight_54 : decode b_Verifier_isMethodRight 54 = .ok (.invokevirtual 78, 3) := by decide +kernel
theorem d_Verifier_isMethodRight_57 : decode b_Verifier_isMethodRight 57 = .ok (.istore_n 2, 1) := by decide +kernel
theorem d_Verifier_isMethodRight_58 : decode b_Verifier_isMethodRight 58 = .ok (.iload_n 2, 1) := by decide +kernel
theorem d_Verifier_isMethodRight_59 : decode b_Verifier_isMethodRight 59 = .ok (.ifCond .eq 21, 3) := by decide +kernel
theorem d_Verifier_isMethodRight_62 : decode b_Verifier_isMethodRight 62 = .ok (.aload_n 0, 1) := by decide +kernel
theorem d_Verifier_isMethodRight_63 : decode b_Verifier_isMethodRight 63 = .ok (.getfield 43, 3) := by decide +kernel
theorem d_Verifier_isMethodRight_66 : decode b_Verifier_isMethodRight 66 = .ok (.iload_n 2, 1) := by decide +kernel
theorem d_Verifier_isMethodRight_67 : decode b_Verifier_isMethodRight 67 = .ok (.aload_n 0, 1) := by decide +kernel
theorem d_Verifier_isMethodRight_68 : decode b_Verifier_isMethodRight 68 = .ok (.getfield 27, 3) := by decide +kernel
theorem d_Verifier_isMethodRight_71 : decode b_Verifier_isMethodRight 71 = .ok (.iconst 1, 1) := by decide +kernel
theorem d_Verifier_isMethodRight_72 : decode b_Verifier_isMethodRight 72 = .ok (.iload_n 1, 1) := by decide +kernel
theorem d_Verifier_isMethodRight_73 : decode b_Verifier_isMethodRight 73 = .ok (.invokevirtual 82, 3) := by decide +kernel
theorem d_Verifier_isMethodRight_76 : decode b_Verifier_isMethodRight 76 = .ok (.invokevirtual 86, 3) := by decide +kernel
theorem d_Verifier_isMethodRight_79 : decode b_Verifier_isMethodRight 79 = .ok (.ireturn, 1) := by decide +kernel
theorem d_Verifier_isMethodRight_80 : decode b_Verifier_isMethodRight 80 = .ok (.aload_n 0, 1) := by decide +kernel
theorem d_Verifier_isMethodRight_81 : decode b_Verifier_isMethodRight 81 = .ok (.getfield 12, 3) := by decide +kernel
theorem d_Verifier_isMethodRight_84 : decode b_Verifier_isMethodRight 84 = .ok (.aload_n 0, 1) := by decide +kernel
theorem d_Verifier_isMethodRight_85 : decode b_Verifier_isMethodRight 85 = .ok (.getfield 24, 3) := by decide +kernel
theorem d_Verifier_isMethodRight_88 : decode b_Verifier_isMethodRight 88 = .ok (.invokestatic 92, 3) := by decide +kernel
theorem d_Verifier_isMethodRight_91 : decode b_Verifier_isMethodRight 91 = .ok (.aload_n 0, 1) := by decide +kernel
theorem d_Verifier_isMethodRight_92 : decode b_Verifier_isMethodRight 92 = .ok (.getfield 42, 3) := by decide +kernel
theorem d_Verifier_isMethodRight_95 : decode b_Verifier_isMethodRight 95 = .ok (.aload_n 0, 1) := by decide +kernel
theorem d_Verifier_isMethodRight_96 : decode b_Verifier_isMethodRight 96 = .ok (.getfield 62, 3) := by decide +kernel
theorem d_Verifier_isMethodRight_99 : decode b_Verifier_isMethodRight 99 = .ok (.aload_n 0, 1) := by decide +kernel
theorem d_Verifier_isMethodRight_100 : decode b_Verifier_isMethodRight 100 = .ok (.getfield 24, 3) := by decide +kernel
theorem d_Verifier_isMethodRight_103 : decode b_Verifier_isMethodRight 103 = .ok (.iconst 0, 1) := by decide +kernel
theorem d_Verifier_isMethodRight_104 : decode b_Verifier_isMethodRight 104 = .ok (.invokevirtual 96, 3) := by decide +kernel
theorem d_Verifier_isMethodRight_107 : decode b_Verifier_isMethodRight 107 = .ok (.pop, 1) := by decide +kernel
theorem d_Verifier_isMethodRight_108 : decode b_Verifier_isMethodRight 108 = .ok (.iconst 0, 1) := by decide +kernel
theorem d_Verifier_isMethodRight_109 : decode b_Verifier_isMethodRight 109 = .ok (.istore_n 3, 1) := by decide +kernel
theorem d_Verifier_isMethodRight_110 : decode b_Verifier_isMethodRight 110 = .ok (.iload_n 3, 1) := by decide +kernel
theorem d_Verifier_isMethodRight_111 : decode b_Verifier_isMethodRight 111 = .ok (.ldc 100, 2) := by decide +kernel
theorem d_Verifier_isMethodRight_113 : decode b_Verifier_isMethodRight 113 = .ok (.if_icmp .ge 49, 3) := by decide +kernel
theorem d_Verifier_isMethodRight_116 : decode b_Verifier_isMethodRight 116 = .ok (.aload_n 0, 1) := by decide +kernel
theorem d_Verifier_isMethodRight_117 : decode b_Verifier_isMethodRight 117 = .ok (.getfield 42, 3) := by decide +kernel
theorem d_Verifier_isMethodRight_120 : decode b_Verifier_isMethodRight 120 = .ok (.invokevirtual 101, 3) := by decide +kernel
theorem d_Verifier_isMethodRight_123 : decode b_Verifier_isMethodRight 123 = .ok (.istore 4, 2) := by decide +kernel
theorem d_Verifier_isMethodRight_125 : decode b_Verifier_isMethodRight 125 = .ok (.iload 4, 2) := by decide +kernel
theorem d_Verifier_isMethodRight_127 : decode b_Verifier_isMethodRight 127 = .ok (.iconst (-1), 1) := by decide +kernel
theorem d_Verifier_isMethodRight_128 : decode b_Verifier_isMethodRight 128 = .ok (.if_icmp .ne 6, 3) := by decide +kernel
theorem d_Verifier_isMethodRight_131 : decode b_Verifier_isMethodRight 131 = .ok (.goto 31, 3) := by decide +kernel
theorem d_Verifier_isMethodRight_134 : decode b_Verifier_isMethodRight 134 = .ok (.aload_n 0, 1) := by decide +kernel
theorem d_Verifier_isMethodRight_135 : decode b_Verifier_isMethodRight 135 = .ok (.iload 4, 2) := by decide +kernel
theorem d_Verifier_isMethodRight_137 : decode b_Verifier_isMethodRight 137 = .ok (.invokevirtual 105, 3) := by decide +kernel
theorem d_Verifier_isMethodRight_140 : decode b_Verifier_isMethodRight 140 = .ok (.istore_n 2, 1) := by decide +kernel
theorem d_Verifier_isMethodRight_141 : decode b_Verifier_isMethodRight 141 = .ok (.iload_n 2, 1) := by decide +kernel
theorem d_Verifier_isMethodRight_142 : decode b_Verifier_isMethodRight 142 = .ok (.ifCond .eq 14, 3) := by decide +kernel
theorem d_Verifier_isMethodRight_145 : decode b_Verifier_isMethodRight 145 = .ok (.aload_n 0, 1) := by decide +kernel
theorem d_Verifier_isMethodRight_146 : decode b_Verifier_isMethodRight 146 = .ok (.getfield 43, 3) := by decide +kernel
theorem d_Verifier_isMethodRight_149 : decode b_Verifier_isMethodRight 149 = .ok (.iload_n 2, 1) := by decide +kernel
theorem d_Verifier_isMethodRight_150 : decode b_Verifier_isMethodRight 150 = .ok (.iload 4, 2) := by decide +kernel
theorem d_Verifier_isMethodRight_152 : decode b_Verifier_isMethodRight 152 = .ok (.invokevirtual 86, 3) := by decide +kernel
theorem d_Verifier_isMethodRight_155 : decode b_Verifier_isMethodRight 155 = .ok (.ireturn, 1) := by decide +kernel
theorem d_Verifier_isMethodRight_156 : decode b_Verifier_isMethodRight 156 = .ok (.iinc 3 1, 3) := by decide +kernel
theorem d_Verifier_isMethodRight_159 : decode b_Verifier_isMethodRight 159 = .ok (.goto (-49), 3) := by decide +kernel
theorem d_Verifier_isMethodRight_162 : decode b_Verifier_isMethodRight 162 = .ok (.iconst 1, 1) := by decide +kernel
theorem d_Verifier_isMethodRight_163 : decode b_Verifier_isMethodRight 163 = .ok (.ireturn, 1) := by decide +kernel
