theorem d_Machine_actOnLocal_0 : decode b_Machine_actOnLocal 0 = .ok (.iload_n 1, 1) := by decide +kernel
theorem d_Machine_actOnLocal_1 : decode b_Machine_actOnLocal 1 = .ok (.iload_n 2, 1) := by decide +kernel
theorem d_Machine_actOnLocal_2 : decode b_Machine_actOnLocal 2 = .ok (.invokestatic 153, 3) := by decide +kernel
theorem d_Machine_actOnLocal_5 : decode b_Machine_actOnLocal 5 = .ok (.istore_n 3, 1) := by decide +kernel
theorem d_Machine_actOnLocal_6 : decode b_Machine_actOnLocal 6 = .ok (.iload_n 1, 1) := by decide +kernel
theorem d_Machine_actOnLocal_7 : decode b_Machine_actOnLocal 7 = .ok (.invokestatic 156, 3) := by decide +kernel
theorem d_Machine_actOnLocal_10 : decode b_Machine_actOnLocal 10 = .ok (.istore 4, 2) := by decide +kernel
theorem d_Machine_actOnLocal_12 : decode b_Machine_actOnLocal 12 = .ok (.iload_n 3, 1) := by decide +kernel
theorem d_Machine_actOnLocal_13 : decode b_Machine_actOnLocal 13 = .ok (.iload 4, 2) := by decide +kernel
theorem d_Machine_actOnLocal_15 : decode b_Machine_actOnLocal 15 = .ok (.iconst 2, 1) := by decide +kernel
theorem d_Machine_actOnLocal_16 : decode b_Machine_actOnLocal 16 = .ok (.if_icmp .ne 7, 3) := by decide +kernel
theorem d_Machine_actOnLocal_19 : decode b_Machine_actOnLocal 19 = .ok (.iconst 1, 1) := by decide +kernel
theorem d_Machine_actOnLocal_20 : decode b_Machine_actOnLocal 20 = .ok (.goto 4, 3) := by decide +kernel
theorem d_Machine_actOnLocal_23 : decode b_Machine_actOnLocal 23 = .ok (.iconst 0, 1) := by decide +kernel
theorem d_Machine_actOnLocal_24 : decode b_Machine_actOnLocal 24 = .ok (.iadd, 1) := by decide +kernel
theorem d_Machine_actOnLocal_25 : decode b_Machine_actOnLocal 25 = .ok (.aload_n 0, 1) := by decide +kernel
theorem d_Machine_actOnLocal_26 : decode b_Machine_actOnLocal 26 = .ok (.getfield 44, 3) := by decide +kernel
theorem d_Machine_actOnLocal_29 : decode b_Machine_actOnLocal 29 = .ok (.if_icmp .lt 6, 3) := by decide +kernel
theorem d_Machine_actOnLocal_32 : decode b_Machine_actOnLocal 32 = .ok (.bipush 21, 2) := by decide +kernel
theorem d_Machine_actOnLocal_34 : decode b_Machine_actOnLocal 34 = .ok (.ireturn, 1) := by decide +kernel
theorem d_Machine_actOnLocal_35 : decode b_Machine_actOnLocal 35 = .ok (.iload_n 1, 1) := by decide +kernel
theorem d_Machine_actOnLocal_36 : decode b_Machine_actOnLocal 36 = .ok (.invokestatic 159, 3) := by decide +kernel
theorem d_Machine_actOnLocal_39 : decode b_Machine_actOnLocal 39 = .ok (.ifCond .eq 26, 3) := by decide +kernel
theorem d_Machine_actOnLocal_42 : decode b_Machine_actOnLocal 42 = .ok (.aload_n 0, 1) := by decide +kernel
theorem d_Machine_actOnLocal_43 : decode b_Machine_actOnLocal 43 = .ok (.iload 4, 2) := by decide +kernel
theorem d_Machine_actOnLocal_45 : decode b_Machine_actOnLocal 45 = .ok (.invokevirtual 162, 3) := by decide +kernel
theorem d_Machine_actOnLocal_48 : decode b_Machine_actOnLocal 48 = .ok (.istore 5, 2) := by decide +kernel
theorem d_Machine_actOnLocal_50 : decode b_Machine_actOnLocal 50 = .ok (.iload 5, 2) := by decide +kernel
theorem d_Machine_actOnLocal_52 : decode b_Machine_actOnLocal 52 = .ok (.ifCond .ne 10, 3) := by decide +kernel
theorem d_Machine_actOnLocal_55 : decode b_Machine_actOnLocal 55 = .ok (.aload_n 0, 1) := by decide +kernel
theorem d_Machine_actOnLocal_56 : decode b_Machine_actOnLocal 56 = .ok (.iload_n 3, 1) := by decide +kernel
theorem d_Machine_actOnLocal_57 : decode b_Machine_actOnLocal 57 = .ok (.iload 4, 2) := by decide +kernel
theorem d_Machine_actOnLocal_59 : decode b_Machine_actOnLocal 59 = .ok (.invokevirtual 96, 3) := by decide +kernel
theorem d_Machine_actOnLocal_62 : decode b_Machine_actOnLocal 62 = .ok (.iload 5, 2) := by decide +kernel
theorem d_Machine_actOnLocal_64 : decode b_Machine_actOnLocal 64 = .ok (.ireturn, 1) := by decide +kernel
theorem d_Machine_actOnLocal_65 : decode b_Machine_actOnLocal 65 = .ok (.aload_n 0, 1) := by decide +kernel
theorem d_Machine_actOnLocal_66 : decode b_Machine_actOnLocal 66 = .ok (.getfield 15, 3) := by decide +kernel
theorem d_Machine_actOnLocal_69 : decode b_Machine_actOnLocal 69 = .ok (.iload_n 3, 1) := by decide +kernel
theorem d_Machine_actOnLocal_70 : decode b_Machine_actOnLocal 70 = .ok (.iaload, 1) := by decide +kernel
theorem d_Machine_actOnLocal_71 : decode b_Machine_actOnLocal 71 = .ok (.iload 4, 2) := by decide +kernel
theorem d_Machine_actOnLocal_73 : decode b_Machine_actOnLocal 73 = .ok (.if_icmp .eq 6, 3) := by decide +kernel
theorem d_Machine_actOnLocal_76 : decode b_Machine_actOnLocal 76 = .ok (.bipush 23, 2) := by decide +kernel
theorem d_Machine_actOnLocal_78 : decode b_Machine_actOnLocal 78 = .ok (.ireturn, 1) := by decide +kernel
theorem d_Machine_actOnLocal_79 : decode b_Machine_actOnLocal 79 = .ok (.iload_n 1, 1) := by decide +kernel
theorem d_Machine_actOnLocal_80 : decode b_Machine_actOnLocal 80 = .ok (.sipush 132, 3) := by decide +kernel
theorem d_Machine_actOnLocal_83 : decode b_Machine_actOnLocal 83 = .ok (.if_icmp .ne 7, 3) := by decide +kernel
theorem d_Machine_actOnLocal_86 : decode b_Machine_actOnLocal 86 = .ok (.iconst 0, 1) := by decide +kernel
theorem d_Machine_actOnLocal_87 : decode b_Machine_actOnLocal 87 = .ok (.goto 9, 3) := by decide +kernel
theorem d_Machine_actOnLocal_90 : decode b_Machine_actOnLocal 90 = .ok (.aload_n 0, 1) := by decide +kernel
theorem d_Machine_actOnLocal_91 : decode b_Machine_actOnLocal 91 = .ok (.iload 4, 2) := by decide +kernel
theorem d_Machine_actOnLocal_93 : decode b_Machine_actOnLocal 93 = .ok (.invokevirtual 165, 3) := by decide +kernel
theorem d_Machine_actOnLocal_96 : decode b_Machine_actOnLocal 96 = .ok (.ireturn, 1) := by decide +kernel
theorem d_Machine_spreadTypes_0 : decode b_Machine_spreadTypes 0 = .ok (.aload_n 0, 1) := by decide +kernel
theorem d_Machine_spreadTypes_1 : decode b_Machine_spreadTypes 1 = .ok (.getfield 21, 3) := by decide +kernel
theorem d_Machine_spreadTypes_4 : decode b_Machine_spreadTypes 4 = .ok (.getfield 79, 3) := by decide +kernel
theorem d_Machine_spreadTypes_7 : decode b_Machine_spreadTypes 7 = .ok (.astore_n 3, 1) := by decide +kernel
theorem d_Machine_spreadTypes_8 : decode b_Machine_spreadTypes 8 = .ok (.iload_n 1, 1) := by decide +kernel
theorem d_Machine_spreadTypes_9 : decode b_Machine_spreadTypes 9 = .ok (.iconst 1, 1) := by decide +kernel
theorem d_Machine_spreadTypes_10 : decode b_Machine_spreadTypes 10 = .ok (.iadd, 1) := by decide +kernel
theorem d_Machine_spreadTypes_11 : decode b_Machine_spreadTypes 11 = .ok (.istore 4, 2) := by decide +kernel
theorem d_Machine_spreadTypes_13 : decode b_Machine_spreadTypes 13 = .ok (.aload_n 0, 1) := by decide +kernel
theorem d_Machine_spreadTypes_14 : decode b_Machine_spreadTypes 14 = .ok (.iconst 0, 1) := by decide +kernel
theorem d_Machine_spreadTypes_15 : decode b_Machine_spreadTypes 15 = .ok (.putfield 88, 3) := by decide +kernel
theorem d_Machine_spreadTypes_18 : decode b_Machine_spreadTypes 18 = .ok (.iload 4, 2) := by decide +kernel
theorem d_Machine_spreadTypes_20 : decode b_Machine_spreadTypes 20 = .ok (.iload_n 2, 1) := by decide +kernel
theorem d_Machine_spreadTypes_21 : decode b_Machine_spreadTypes 21 = .ok (.if_icmp .ge 112, 3) := by decide +kernel
theorem d_Machine_spreadTypes_24 : decode b_Machine_spreadTypes 24 = .ok (.aload_n 3, 1) := by decide +kernel
theorem d_Machine_spreadTypes_25 : decode b_Machine_spreadTypes 25 = .ok (.iload 4, 2) := by decide +kernel
theorem d_Machine_spreadTypes_27 : decode b_Machine_spreadTypes 27 = .ok (.invokevirtual 99, 3) := by decide +kernel
theorem d_Machine_spreadTypes_30 : decode b_Machine_spreadTypes 30 = .ok (.bipush 41, 2) := by decide +kernel
theorem d_Machine_spreadTypes_32 : decode b_Machine_spreadTypes 32 = .ok (.if_icmp .eq 101, 3) := by decide +kernel
theorem d_Machine_spreadTypes_35 : decode b_Machine_spreadTypes 35 = .ok (.aload_n 0, 1) := by decide +kernel
theorem d_Machine_spreadTypes_36 : decode b_Machine_spreadTypes 36 = .ok (.getfield 88, 3) := by decide +kernel
theorem d_Machine_spreadTypes_39 : decode b_Machine_spreadTypes 39 = .ok (.sipush 600, 3) := by decide +kernel
theorem d_Machine_spreadTypes_42 : decode b_Machine_spreadTypes 42 = .ok (.if_icmp .ge 91, 3) := by decide +kernel
theorem d_Machine_spreadTypes_45 : decode b_Machine_spreadTypes 45 = .ok (.aload_n 0, 1) := by decide +kernel
theorem d_Machine_spreadTypes_46 : decode b_Machine_spreadTypes 46 = .ok (.getfield 18, 3) := by decide +kernel
theorem d_Machine_spreadTypes_49 : decode b_Machine_spreadTypes 49 = .ok (.aload_n 0, 1) := by decide +kernel
theorem d_Machine_spreadTypes_50 : decode b_Machine_spreadTypes 50 = .ok (.getfield 88, 3) := by decide +kernel
theorem d_Machine_spreadTypes_53 : decode b_Machine_spreadTypes 53 = .ok (.aload_n 3, 1) := by decide +kernel
theorem d_Machine_spreadTypes_54 : decode b_Machine_spreadTypes 54 = .ok (.iload 4, 2) := by decide +kernel
theorem d_Machine_spreadTypes_56 : decode b_Machine_spreadTypes 56 = .ok (.invokevirtual 99, 3) := by decide +kernel
theorem d_Machine_spreadTypes_59 : decode b_Machine_spreadTypes 59 = .ok (.iastore, 1) := by decide +kernel
theorem d_Machine_spreadTypes_60 : decode b_Machine_spreadTypes 60 = .ok (.aload_n 0, 1) := by decide +kernel
theorem d_Machine_spreadTypes_61 : decode b_Machine_spreadTypes 61 = .ok (.dup, 1) := by decide +kernel
theorem d_Machine_spreadTypes_62 : decode b_Machine_spreadTypes 62 = .ok (.getfield 88, 3) := by decide +kernel
theorem d_Machine_spreadTypes_65 : decode b_Machine_spreadTypes 65 = .ok (.iconst 1, 1) := by decide +kernel
theorem d_Machine_spreadTypes_66 : decode b_Machine_spreadTypes 66 = .ok (.iadd, 1) := by decide +kernel
theorem d_Machine_spreadTypes_67 : decode b_Machine_spreadTypes 67 = .ok (.putfield 88, 3) := by decide +kernel
theorem d_Machine_spreadTypes_70 : decode b_Machine_spreadTypes 70 = .ok (.iload 4, 2) := by decide +kernel
theorem d_Machine_spreadTypes_72 : decode b_Machine_spreadTypes 72 = .ok (.iload_n 2, 1) := by decide +kernel
theorem d_Machine_spreadTypes_73 : decode b_Machine_spreadTypes 73 = .ok (.if_icmp .ge 20, 3) := by decide +kernel
theorem d_Machine_spreadTypes_76 : decode b_Machine_spreadTypes 76 = .ok (.aload_n 3, 1) := by decide +kernel
theorem d_Machine_spreadTypes_77 : decode b_Machine_spreadTypes 77 = .ok (.iload 4, 2) := by decide +kernel
theorem d_Machine_spreadTypes_79 : decode b_Machine_spreadTypes 79 = .ok (.invokevirtual 99, 3) := by decide +kernel
theorem d_Machine_spreadTypes_82 : decode b_Machine_spreadTypes 82 = .ok (.bipush 91, 2) := by decide +kernel
theorem d_Machine_spreadTypes_84 : decode b_Machine_spreadTypes 84 = .ok (.if_icmp .ne 9, 3) := by decide +kernel
theorem d_Machine_spreadTypes_87 : decode b_Machine_spreadTypes 87 = .ok (.iinc 4 1, 3) := by decide +kernel
theorem d_Machine_spreadTypes_90 : decode b_Machine_spreadTypes 90 = .ok (.goto (-20), 3) := by decide +kernel
theorem d_Machine_spreadTypes_93 : decode b_Machine_spreadTypes 93 = .ok (.aload_n 3, 1) := by decide +kernel
theorem d_Machine_spreadTypes_94 : decode b_Machine_spreadTypes 94 = .ok (.iload 4, 2) := by decide +kernel
theorem d_Machine_spreadTypes_96 : decode b_Machine_spreadTypes 96 = .ok (.invokevirtual 99, 3) := by decide +kernel
theorem d_Machine_spreadTypes_99 : decode b_Machine_spreadTypes 99 = .ok (.bipush 76, 2) := by decide +kernel
theorem d_Machine_spreadTypes_101 : decode b_Machine_spreadTypes 101 = .ok (.if_icmp .ne 26, 3) := by decide +kernel
theorem d_Machine_spreadTypes_104 : decode b_Machine_spreadTypes 104 = .ok (.iload 4, 2) := by decide +kernel
theorem d_Machine_spreadTypes_106 : decode b_Machine_spreadTypes 106 = .ok (.iload_n 2, 1) := by decide +kernel
theorem d_Machine_spreadTypes_107 : decode b_Machine_spreadTypes 107 = .ok (.if_icmp .ge 20, 3) := by decide +kernel
theorem d_Machine_spreadTypes_110 : decode b_Machine_spreadTypes 110 = .ok (.aload_n 3, 1) := by decide +kernel
theorem d_Machine_spreadTypes_111 : decode b_Machine_spreadTypes 111 = .ok (.iload 4, 2) := by decide +kernel
theorem d_Machine_spreadTypes_113 : decode b_Machine_spreadTypes 113 = .ok (.invokevirtual 99, 3) := by decide +kernel
theorem d_Machine_spreadTypes_116 : decode b_Machine_spreadTypes 116 = .ok (.bipush 59, 2) := by decide +kernel
theorem d_Machine_spreadTypes_118 : decode b_Machine_spreadTypes 118 = .ok (.if_icmp .eq 9, 3) := by decide +kernel
theorem d_Machine_spreadTypes_121 : decode b_Machine_spreadTypes 121 = .ok (.iinc 4 1, 3) := by decide +kernel
theorem d_Machine_spreadTypes_124 : decode b_Machine_spreadTypes 124 = .ok (.goto (-20), 3) := by decide +kernel
theorem d_Machine_spreadTypes_127 : decode b_Machine_spreadTypes 127 = .ok (.iinc 4 1, 3) := by decide +kernel
theorem d_Machine_spreadTypes_130 : decode b_Machine_spreadTypes 130 = .ok (.goto (-112), 3) := by decide +kernel
theorem d_Machine_spreadTypes_133 : decode b_Machine_spreadTypes 133 = .ok (.aload_n 0, 1) := by decide +kernel
theorem d_Machine_spreadTypes_134 : decode b_Machine_spreadTypes 134 = .ok (.aload_n 3, 1) := by decide +kernel
theorem d_Machine_spreadTypes_135 : decode b_Machine_spreadTypes 135 = .ok (.iload 4, 2) := by decide +kernel
theorem d_Machine_spreadTypes_137 : decode b_Machine_spreadTypes 137 = .ok (.iconst 1, 1) := by decide +kernel
theorem d_Machine_spreadTypes_138 : decode b_Machine_spreadTypes 138 = .ok (.iadd, 1) := by decide +kernel
theorem d_Machine_spreadTypes_139 : decode b_Machine_spreadTypes 139 = .ok (.invokevirtual 99, 3) := by decide +kernel
theorem d_Machine_spreadTypes_142 : decode b_Machine_spreadTypes 142 = .ok (.putfield 73, 3) := by decide +kernel
theorem d_Machine_spreadTypes_145 : decode b_Machine_spreadTypes 145 = .ok (.return_, 1) := by decide +kernel
