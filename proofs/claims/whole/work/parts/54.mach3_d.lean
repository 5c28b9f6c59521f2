theorem d_Machine_putConstant_0 : decode b_Machine_putConstant 0 = .ok (.iload_n 1, 1) := by decide +kernel
theorem d_Machine_putConstant_1 : decode b_Machine_putConstant 1 = .ok (.iconst 3, 1) := by decide +kernel
theorem d_Machine_putConstant_2 : decode b_Machine_putConstant 2 = .ok (.if_icmp .eq 12, 3) := by decide +kernel
theorem d_Machine_putConstant_5 : decode b_Machine_putConstant 5 = .ok (.iload_n 1, 1) := by decide +kernel
theorem d_Machine_putConstant_6 : decode b_Machine_putConstant 6 = .ok (.bipush 8, 2) := by decide +kernel
theorem d_Machine_putConstant_8 : decode b_Machine_putConstant 8 = .ok (.if_icmp .eq 6, 3) := by decide +kernel
theorem d_Machine_putConstant_11 : decode b_Machine_putConstant 11 = .ok (.bipush 6, 2) := by decide +kernel
theorem d_Machine_putConstant_13 : decode b_Machine_putConstant 13 = .ok (.ireturn, 1) := by decide +kernel
theorem d_Machine_putConstant_14 : decode b_Machine_putConstant 14 = .ok (.aload_n 0, 1) := by decide +kernel
theorem d_Machine_putConstant_15 : decode b_Machine_putConstant 15 = .ok (.iload_n 1, 1) := by decide +kernel
theorem d_Machine_putConstant_16 : decode b_Machine_putConstant 16 = .ok (.iconst 3, 1) := by decide +kernel
theorem d_Machine_putConstant_17 : decode b_Machine_putConstant 17 = .ok (.if_icmp .ne 7, 3) := by decide +kernel
theorem d_Machine_putConstant_20 : decode b_Machine_putConstant 20 = .ok (.iconst 1, 1) := by decide +kernel
theorem d_Machine_putConstant_21 : decode b_Machine_putConstant 21 = .ok (.goto 4, 3) := by decide +kernel
theorem d_Machine_putConstant_24 : decode b_Machine_putConstant 24 = .ok (.iconst 4, 1) := by decide +kernel
theorem d_Machine_putConstant_25 : decode b_Machine_putConstant 25 = .ok (.invokevirtual 165, 3) := by decide +kernel
theorem d_Machine_putConstant_28 : decode b_Machine_putConstant 28 = .ok (.ireturn, 1) := by decide +kernel
theorem d_Machine_setLocal_0 : decode b_Machine_setLocal 0 = .ok (.aload_n 0, 1) := by decide +kernel
theorem d_Machine_setLocal_1 : decode b_Machine_setLocal 1 = .ok (.iload_n 1, 1) := by decide +kernel
theorem d_Machine_setLocal_2 : decode b_Machine_setLocal 2 = .ok (.invokevirtual 168, 3) := by decide +kernel
theorem d_Machine_setLocal_5 : decode b_Machine_setLocal 5 = .ok (.aload_n 0, 1) := by decide +kernel
theorem d_Machine_setLocal_6 : decode b_Machine_setLocal 6 = .ok (.getfield 15, 3) := by decide +kernel
theorem d_Machine_setLocal_9 : decode b_Machine_setLocal 9 = .ok (.iload_n 1, 1) := by decide +kernel
theorem d_Machine_setLocal_10 : decode b_Machine_setLocal 10 = .ok (.iload_n 2, 1) := by decide +kernel
theorem d_Machine_setLocal_11 : decode b_Machine_setLocal 11 = .ok (.iastore, 1) := by decide +kernel
theorem d_Machine_setLocal_12 : decode b_Machine_setLocal 12 = .ok (.iload_n 2, 1) := by decide +kernel
theorem d_Machine_setLocal_13 : decode b_Machine_setLocal 13 = .ok (.iconst 2, 1) := by decide +kernel
theorem d_Machine_setLocal_14 : decode b_Machine_setLocal 14 = .ok (.if_icmp .ne 34, 3) := by decide +kernel
theorem d_Machine_setLocal_17 : decode b_Machine_setLocal 17 = .ok (.iload_n 1, 1) := by decide +kernel
theorem d_Machine_setLocal_18 : decode b_Machine_setLocal 18 = .ok (.iconst 1, 1) := by decide +kernel
theorem d_Machine_setLocal_19 : decode b_Machine_setLocal 19 = .ok (.iadd, 1) := by decide +kernel
theorem d_Machine_setLocal_20 : decode b_Machine_setLocal 20 = .ok (.bipush 64, 2) := by decide +kernel
theorem d_Machine_setLocal_22 : decode b_Machine_setLocal 22 = .ok (.if_icmp .ge 26, 3) := by decide +kernel
theorem d_Machine_setLocal_25 : decode b_Machine_setLocal 25 = .ok (.aload_n 0, 1) := by decide +kernel
theorem d_Machine_setLocal_26 : decode b_Machine_setLocal 26 = .ok (.iload_n 1, 1) := by decide +kernel
theorem d_Machine_setLocal_27 : decode b_Machine_setLocal 27 = .ok (.iconst 1, 1) := by decide +kernel
theorem d_Machine_setLocal_28 : decode b_Machine_setLocal 28 = .ok (.iadd, 1) := by decide +kernel
theorem d_Machine_setLocal_29 : decode b_Machine_setLocal 29 = .ok (.invokevirtual 168, 3) := by decide +kernel
theorem d_Machine_setLocal_32 : decode b_Machine_setLocal 32 = .ok (.aload_n 0, 1) := by decide +kernel
theorem d_Machine_setLocal_33 : decode b_Machine_setLocal 33 = .ok (.getfield 15, 3) := by decide +kernel
theorem d_Machine_setLocal_36 : decode b_Machine_setLocal 36 = .ok (.iload_n 1, 1) := by decide +kernel
theorem d_Machine_setLocal_37 : decode b_Machine_setLocal 37 = .ok (.iconst 2, 1) := by decide +kernel
theorem d_Machine_setLocal_38 : decode b_Machine_setLocal 38 = .ok (.iastore, 1) := by decide +kernel
theorem d_Machine_setLocal_39 : decode b_Machine_setLocal 39 = .ok (.aload_n 0, 1) := by decide +kernel
theorem d_Machine_setLocal_40 : decode b_Machine_setLocal 40 = .ok (.getfield 15, 3) := by decide +kernel
theorem d_Machine_setLocal_43 : decode b_Machine_setLocal 43 = .ok (.iload_n 1, 1) := by decide +kernel
theorem d_Machine_setLocal_44 : decode b_Machine_setLocal 44 = .ok (.iconst 1, 1) := by decide +kernel
theorem d_Machine_setLocal_45 : decode b_Machine_setLocal 45 = .ok (.iadd, 1) := by decide +kernel
theorem d_Machine_setLocal_46 : decode b_Machine_setLocal 46 = .ok (.iconst 3, 1) := by decide +kernel
theorem d_Machine_setLocal_47 : decode b_Machine_setLocal 47 = .ok (.iastore, 1) := by decide +kernel
theorem d_Machine_setLocal_48 : decode b_Machine_setLocal 48 = .ok (.return_, 1) := by decide +kernel
theorem d_Machine_shuffle_0 : decode b_Machine_shuffle 0 = .ok (.iload_n 1, 1) := by decide +kernel
theorem d_Machine_shuffle_1 : decode b_Machine_shuffle 1 = .ok (.bipush 88, 2) := by decide +kernel
theorem d_Machine_shuffle_3 : decode b_Machine_shuffle 3 = .ok (.if_icmp .eq 9, 3) := by decide +kernel
theorem d_Machine_shuffle_6 : decode b_Machine_shuffle 6 = .ok (.iload_n 1, 1) := by decide +kernel
theorem d_Machine_shuffle_7 : decode b_Machine_shuffle 7 = .ok (.bipush 92, 2) := by decide +kernel
theorem d_Machine_shuffle_9 : decode b_Machine_shuffle 9 = .ok (.if_icmp .ne 7, 3) := by decide +kernel
theorem d_Machine_shuffle_12 : decode b_Machine_shuffle 12 = .ok (.iconst 1, 1) := by decide +kernel
theorem d_Machine_shuffle_13 : decode b_Machine_shuffle 13 = .ok (.goto 4, 3) := by decide +kernel
theorem d_Machine_shuffle_16 : decode b_Machine_shuffle 16 = .ok (.iconst 0, 1) := by decide +kernel
theorem d_Machine_shuffle_17 : decode b_Machine_shuffle 17 = .ok (.istore_n 2, 1) := by decide +kernel
theorem d_Machine_shuffle_18 : decode b_Machine_shuffle 18 = .ok (.iload_n 2, 1) := by decide +kernel
theorem d_Machine_shuffle_19 : decode b_Machine_shuffle 19 = .ok (.ifCond .eq 53, 3) := by decide +kernel
theorem d_Machine_shuffle_22 : decode b_Machine_shuffle 22 = .ok (.aload_n 0, 1) := by decide +kernel
theorem d_Machine_shuffle_23 : decode b_Machine_shuffle 23 = .ok (.getfield 47, 3) := by decide +kernel
theorem d_Machine_shuffle_26 : decode b_Machine_shuffle 26 = .ok (.ifCond .le 46, 3) := by decide +kernel
theorem d_Machine_shuffle_29 : decode b_Machine_shuffle 29 = .ok (.aload_n 0, 1) := by decide +kernel
theorem d_Machine_shuffle_30 : decode b_Machine_shuffle 30 = .ok (.getfield 9, 3) := by decide +kernel
theorem d_Machine_shuffle_33 : decode b_Machine_shuffle 33 = .ok (.aload_n 0, 1) := by decide +kernel
theorem d_Machine_shuffle_34 : decode b_Machine_shuffle 34 = .ok (.getfield 47, 3) := by decide +kernel
theorem d_Machine_shuffle_37 : decode b_Machine_shuffle 37 = .ok (.iconst 1, 1) := by decide +kernel
theorem d_Machine_shuffle_38 : decode b_Machine_shuffle 38 = .ok (.isub, 1) := by decide +kernel
theorem d_Machine_shuffle_39 : decode b_Machine_shuffle 39 = .ok (.iaload, 1) := by decide +kernel
theorem d_Machine_shuffle_40 : decode b_Machine_shuffle 40 = .ok (.iconst 3, 1) := by decide +kernel
theorem d_Machine_shuffle_41 : decode b_Machine_shuffle 41 = .ok (.if_icmp .ne 31, 3) := by decide +kernel
theorem d_Machine_shuffle_44 : decode b_Machine_shuffle 44 = .ok (.aload_n 0, 1) := by decide +kernel
theorem d_Machine_shuffle_45 : decode b_Machine_shuffle 45 = .ok (.iconst 2, 1) := by decide +kernel
theorem d_Machine_shuffle_46 : decode b_Machine_shuffle 46 = .ok (.invokevirtual 162, 3) := by decide +kernel
theorem d_Machine_shuffle_49 : decode b_Machine_shuffle 49 = .ok (.istore_n 3, 1) := by decide +kernel
theorem d_Machine_shuffle_50 : decode b_Machine_shuffle 50 = .ok (.iload_n 3, 1) := by decide +kernel
theorem d_Machine_shuffle_51 : decode b_Machine_shuffle 51 = .ok (.ifCond .ne 19, 3) := by decide +kernel
theorem d_Machine_shuffle_54 : decode b_Machine_shuffle 54 = .ok (.iload_n 1, 1) := by decide +kernel
theorem d_Machine_shuffle_55 : decode b_Machine_shuffle 55 = .ok (.bipush 92, 2) := by decide +kernel
theorem d_Machine_shuffle_57 : decode b_Machine_shuffle 57 = .ok (.if_icmp .ne 13, 3) := by decide +kernel
theorem d_Machine_shuffle_60 : decode b_Machine_shuffle 60 = .ok (.aload_n 0, 1) := by decide +kernel
theorem d_Machine_shuffle_61 : decode b_Machine_shuffle 61 = .ok (.iconst 2, 1) := by decide +kernel
theorem d_Machine_shuffle_62 : decode b_Machine_shuffle 62 = .ok (.iconst 2, 1) := by decide +kernel
theorem d_Machine_shuffle_63 : decode b_Machine_shuffle 63 = .ok (.iconst 2, 1) := by decide +kernel
theorem d_Machine_shuffle_64 : decode b_Machine_shuffle 64 = .ok (.invokevirtual 199, 3) := by decide +kernel
theorem d_Machine_shuffle_67 : decode b_Machine_shuffle 67 = .ok (.goto 4, 3) := by decide +kernel
theorem d_Machine_shuffle_70 : decode b_Machine_shuffle 70 = .ok (.iload_n 3, 1) := by decide +kernel
theorem d_Machine_shuffle_71 : decode b_Machine_shuffle 71 = .ok (.ireturn, 1) := by decide +kernel
theorem d_Machine_shuffle_72 : decode b_Machine_shuffle 72 = .ok (.aload_n 0, 1) := by decide +kernel
theorem d_Machine_shuffle_73 : decode b_Machine_shuffle 73 = .ok (.invokevirtual 203, 3) := by decide +kernel
theorem d_Machine_shuffle_76 : decode b_Machine_shuffle 76 = .ok (.istore_n 3, 1) := by decide +kernel
theorem d_Machine_shuffle_77 : decode b_Machine_shuffle 77 = .ok (.aload_n 0, 1) := by decide +kernel
theorem d_Machine_shuffle_78 : decode b_Machine_shuffle 78 = .ok (.getfield 196, 3) := by decide +kernel
theorem d_Machine_shuffle_81 : decode b_Machine_shuffle 81 = .ok (.istore 4, 2) := by decide +kernel
theorem d_Machine_shuffle_83 : decode b_Machine_shuffle 83 = .ok (.iload_n 3, 1) := by decide +kernel
theorem d_Machine_shuffle_84 : decode b_Machine_shuffle 84 = .ok (.ifCond .ne 9, 3) := by decide +kernel
theorem d_Machine_shuffle_87 : decode b_Machine_shuffle 87 = .ok (.iload_n 1, 1) := by decide +kernel
theorem d_Machine_shuffle_88 : decode b_Machine_shuffle 88 = .ok (.bipush 87, 2) := by decide +kernel
theorem d_Machine_shuffle_90 : decode b_Machine_shuffle 90 = .ok (.if_icmp .ne 5, 3) := by decide +kernel
theorem d_Machine_shuffle_93 : decode b_Machine_shuffle 93 = .ok (.iload_n 3, 1) := by decide +kernel
theorem d_Machine_shuffle_94 : decode b_Machine_shuffle 94 = .ok (.ireturn, 1) := by decide +kernel
theorem d_Machine_shuffle_95 : decode b_Machine_shuffle 95 = .ok (.iload_n 1, 1) := by decide +kernel
theorem d_Machine_shuffle_96 : decode b_Machine_shuffle 96 = .ok (.bipush 89, 2) := by decide +kernel
theorem d_Machine_shuffle_98 : decode b_Machine_shuffle 98 = .ok (.if_icmp .ne 13, 3) := by decide +kernel
theorem d_Machine_shuffle_101 : decode b_Machine_shuffle 101 = .ok (.aload_n 0, 1) := by decide +kernel
theorem d_Machine_shuffle_102 : decode b_Machine_shuffle 102 = .ok (.iload 4, 2) := by decide +kernel
theorem d_Machine_shuffle_104 : decode b_Machine_shuffle 104 = .ok (.iload 4, 2) := by decide +kernel
theorem d_Machine_shuffle_106 : decode b_Machine_shuffle 106 = .ok (.iconst 2, 1) := by decide +kernel
theorem d_Machine_shuffle_107 : decode b_Machine_shuffle 107 = .ok (.invokevirtual 199, 3) := by decide +kernel
theorem d_Machine_shuffle_110 : decode b_Machine_shuffle 110 = .ok (.ireturn, 1) := by decide +kernel
theorem d_Machine_shuffle_111 : decode b_Machine_shuffle 111 = .ok (.aload_n 0, 1) := by decide +kernel
theorem d_Machine_shuffle_112 : decode b_Machine_shuffle 112 = .ok (.invokevirtual 203, 3) := by decide +kernel
theorem d_Machine_shuffle_115 : decode b_Machine_shuffle 115 = .ok (.istore_n 3, 1) := by decide +kernel
theorem d_Machine_shuffle_116 : decode b_Machine_shuffle 116 = .ok (.iload_n 3, 1) := by decide +kernel
theorem d_Machine_shuffle_117 : decode b_Machine_shuffle 117 = .ok (.ifCond .ne 9, 3) := by decide +kernel
theorem d_Machine_shuffle_120 : decode b_Machine_shuffle 120 = .ok (.iload_n 1, 1) := by decide +kernel
theorem d_Machine_shuffle_121 : decode b_Machine_shuffle 121 = .ok (.bipush 88, 2) := by decide +kernel
theorem d_Machine_shuffle_123 : decode b_Machine_shuffle 123 = .ok (.if_icmp .ne 5, 3) := by decide +kernel
theorem d_Machine_shuffle_126 : decode b_Machine_shuffle 126 = .ok (.iload_n 3, 1) := by decide +kernel
theorem d_Machine_shuffle_127 : decode b_Machine_shuffle 127 = .ok (.ireturn, 1) := by decide +kernel
theorem d_Machine_shuffle_128 : decode b_Machine_shuffle 128 = .ok (.iload_n 1, 1) := by decide +kernel
theorem d_Machine_shuffle_129 : decode b_Machine_shuffle 129 = .ok (.bipush 92, 2) := by decide +kernel
theorem d_Machine_shuffle_131 : decode b_Machine_shuffle 131 = .ok (.if_icmp .ne 17, 3) := by decide +kernel
theorem d_Machine_shuffle_134 : decode b_Machine_shuffle 134 = .ok (.aload_n 0, 1) := by decide +kernel
theorem d_Machine_shuffle_135 : decode b_Machine_shuffle 135 = .ok (.aload_n 0, 1) := by decide +kernel
theorem d_Machine_shuffle_136 : decode b_Machine_shuffle 136 = .ok (.getfield 196, 3) := by decide +kernel
theorem d_Machine_shuffle_139 : decode b_Machine_shuffle 139 = .ok (.iload 4, 2) := by decide +kernel
theorem d_Machine_shuffle_141 : decode b_Machine_shuffle 141 = .ok (.iconst 4, 1) := by decide +kernel
theorem d_Machine_shuffle_142 : decode b_Machine_shuffle 142 = .ok (.invokevirtual 199, 3) := by decide +kernel
theorem d_Machine_shuffle_145 : decode b_Machine_shuffle 145 = .ok (.goto 14, 3) := by decide +kernel
theorem d_Machine_shuffle_148 : decode b_Machine_shuffle 148 = .ok (.aload_n 0, 1) := by decide +kernel
theorem d_Machine_shuffle_149 : decode b_Machine_shuffle 149 = .ok (.iload 4, 2) := by decide +kernel
theorem d_Machine_shuffle_151 : decode b_Machine_shuffle 151 = .ok (.aload_n 0, 1) := by decide +kernel
theorem d_Machine_shuffle_152 : decode b_Machine_shuffle 152 = .ok (.getfield 196, 3) := by decide +kernel
theorem d_Machine_shuffle_155 : decode b_Machine_shuffle 155 = .ok (.iconst 2, 1) := by decide +kernel
theorem d_Machine_shuffle_156 : decode b_Machine_shuffle 156 = .ok (.invokevirtual 199, 3) := by decide +kernel
theorem d_Machine_shuffle_159 : decode b_Machine_shuffle 159 = .ok (.ireturn, 1) := by decide +kernel
