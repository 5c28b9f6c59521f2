theorem d_Mod_arrange_0 : decode b_Mod_arrange 0 = .ok (.iload_n 1, 1) := by decide +kernel
theorem d_Mod_arrange_1 : decode b_Mod_arrange 1 = .ok (.bipush 87, 2) := by decide +kernel
theorem d_Mod_arrange_3 : decode b_Mod_arrange 3 = .ok (.if_icmp .ne 11, 3) := by decide +kernel
theorem d_Mod_arrange_6 : decode b_Mod_arrange 6 = .ok (.aload_n 0, 1) := by decide +kernel
theorem d_Mod_arrange_7 : decode b_Mod_arrange 7 = .ok (.invokevirtual 345, 3) := by decide +kernel
theorem d_Mod_arrange_10 : decode b_Mod_arrange 10 = .ok (.pop, 1) := by decide +kernel
theorem d_Mod_arrange_11 : decode b_Mod_arrange 11 = .ok (.goto 123, 3) := by decide +kernel
theorem d_Mod_arrange_14 : decode b_Mod_arrange 14 = .ok (.iload_n 1, 1) := by decide +kernel
theorem d_Mod_arrange_15 : decode b_Mod_arrange 15 = .ok (.bipush 89, 2) := by decide +kernel
theorem d_Mod_arrange_17 : decode b_Mod_arrange 17 = .ok (.if_icmp .ne 21, 3) := by decide +kernel
theorem d_Mod_arrange_20 : decode b_Mod_arrange 20 = .ok (.aload_n 0, 1) := by decide +kernel
theorem d_Mod_arrange_21 : decode b_Mod_arrange 21 = .ok (.invokevirtual 345, 3) := by decide +kernel
theorem d_Mod_arrange_24 : decode b_Mod_arrange 24 = .ok (.istore_n 2, 1) := by decide +kernel
theorem d_Mod_arrange_25 : decode b_Mod_arrange 25 = .ok (.aload_n 0, 1) := by decide +kernel
theorem d_Mod_arrange_26 : decode b_Mod_arrange 26 = .ok (.iload_n 2, 1) := by decide +kernel
theorem d_Mod_arrange_27 : decode b_Mod_arrange 27 = .ok (.invokevirtual 321, 3) := by decide +kernel
theorem d_Mod_arrange_30 : decode b_Mod_arrange 30 = .ok (.aload_n 0, 1) := by decide +kernel
theorem d_Mod_arrange_31 : decode b_Mod_arrange 31 = .ok (.iload_n 2, 1) := by decide +kernel
theorem d_Mod_arrange_32 : decode b_Mod_arrange 32 = .ok (.invokevirtual 321, 3) := by decide +kernel
theorem d_Mod_arrange_35 : decode b_Mod_arrange 35 = .ok (.goto 99, 3) := by decide +kernel
theorem d_Mod_arrange_38 : decode b_Mod_arrange 38 = .ok (.iload_n 1, 1) := by decide +kernel
theorem d_Mod_arrange_39 : decode b_Mod_arrange 39 = .ok (.bipush 95, 2) := by decide +kernel
theorem d_Mod_arrange_41 : decode b_Mod_arrange 41 = .ok (.if_icmp .ne 26, 3) := by decide +kernel
theorem d_Mod_arrange_44 : decode b_Mod_arrange 44 = .ok (.aload_n 0, 1) := by decide +kernel
theorem d_Mod_arrange_45 : decode b_Mod_arrange 45 = .ok (.invokevirtual 345, 3) := by decide +kernel
theorem d_Mod_arrange_48 : decode b_Mod_arrange 48 = .ok (.istore_n 2, 1) := by decide +kernel
theorem d_Mod_arrange_49 : decode b_Mod_arrange 49 = .ok (.aload_n 0, 1) := by decide +kernel
theorem d_Mod_arrange_50 : decode b_Mod_arrange 50 = .ok (.invokevirtual 345, 3) := by decide +kernel
theorem d_Mod_arrange_53 : decode b_Mod_arrange 53 = .ok (.istore_n 3, 1) := by decide +kernel
theorem d_Mod_arrange_54 : decode b_Mod_arrange 54 = .ok (.aload_n 0, 1) := by decide +kernel
theorem d_Mod_arrange_55 : decode b_Mod_arrange 55 = .ok (.iload_n 2, 1) := by decide +kernel
theorem d_Mod_arrange_56 : decode b_Mod_arrange 56 = .ok (.invokevirtual 321, 3) := by decide +kernel
theorem d_Mod_arrange_59 : decode b_Mod_arrange 59 = .ok (.aload_n 0, 1) := by decide +kernel
theorem d_Mod_arrange_60 : decode b_Mod_arrange 60 = .ok (.iload_n 3, 1) := by decide +kernel
theorem d_Mod_arrange_61 : decode b_Mod_arrange 61 = .ok (.invokevirtual 321, 3) := by decide +kernel
theorem d_Mod_arrange_64 : decode b_Mod_arrange 64 = .ok (.goto 70, 3) := by decide +kernel
theorem d_Mod_arrange_67 : decode b_Mod_arrange 67 = .ok (.aload_n 0, 1) := by decide +kernel
theorem d_Mod_arrange_68 : decode b_Mod_arrange 68 = .ok (.invokevirtual 348, 3) := by decide +kernel
theorem d_Mod_arrange_71 : decode b_Mod_arrange 71 = .ok (.ifCond .eq 27, 3) := by decide +kernel
theorem d_Mod_arrange_74 : decode b_Mod_arrange 74 = .ok (.aload_n 0, 1) := by decide +kernel
theorem d_Mod_arrange_75 : decode b_Mod_arrange 75 = .ok (.iconst 2, 1) := by decide +kernel
theorem d_Mod_arrange_76 : decode b_Mod_arrange 76 = .ok (.invokevirtual 324, 3) := by decide +kernel
theorem d_Mod_arrange_79 : decode b_Mod_arrange 79 = .ok (.iload_n 1, 1) := by decide +kernel
theorem d_Mod_arrange_80 : decode b_Mod_arrange 80 = .ok (.bipush 92, 2) := by decide +kernel
theorem d_Mod_arrange_82 : decode b_Mod_arrange 82 = .ok (.if_icmp .ne 52, 3) := by decide +kernel
theorem d_Mod_arrange_85 : decode b_Mod_arrange 85 = .ok (.aload_n 0, 1) := by decide +kernel
theorem d_Mod_arrange_86 : decode b_Mod_arrange 86 = .ok (.iconst 2, 1) := by decide +kernel
theorem d_Mod_arrange_87 : decode b_Mod_arrange 87 = .ok (.invokevirtual 321, 3) := by decide +kernel
theorem d_Mod_arrange_90 : decode b_Mod_arrange 90 = .ok (.aload_n 0, 1) := by decide +kernel
theorem d_Mod_arrange_91 : decode b_Mod_arrange 91 = .ok (.iconst 2, 1) := by decide +kernel
theorem d_Mod_arrange_92 : decode b_Mod_arrange 92 = .ok (.invokevirtual 321, 3) := by decide +kernel
theorem d_Mod_arrange_95 : decode b_Mod_arrange 95 = .ok (.goto 39, 3) := by decide +kernel
theorem d_Mod_arrange_98 : decode b_Mod_arrange 98 = .ok (.aload_n 0, 1) := by decide +kernel
theorem d_Mod_arrange_99 : decode b_Mod_arrange 99 = .ok (.invokevirtual 345, 3) := by decide +kernel
theorem d_Mod_arrange_102 : decode b_Mod_arrange 102 = .ok (.istore_n 2, 1) := by decide +kernel
theorem d_Mod_arrange_103 : decode b_Mod_arrange 103 = .ok (.aload_n 0, 1) := by decide +kernel
theorem d_Mod_arrange_104 : decode b_Mod_arrange 104 = .ok (.invokevirtual 345, 3) := by decide +kernel
theorem d_Mod_arrange_107 : decode b_Mod_arrange 107 = .ok (.istore_n 3, 1) := by decide +kernel
theorem d_Mod_arrange_108 : decode b_Mod_arrange 108 = .ok (.iload_n 1, 1) := by decide +kernel
theorem d_Mod_arrange_109 : decode b_Mod_arrange 109 = .ok (.bipush 92, 2) := by decide +kernel
theorem d_Mod_arrange_111 : decode b_Mod_arrange 111 = .ok (.if_icmp .ne 23, 3) := by decide +kernel
theorem d_Mod_arrange_114 : decode b_Mod_arrange 114 = .ok (.aload_n 0, 1) := by decide +kernel
theorem d_Mod_arrange_115 : decode b_Mod_arrange 115 = .ok (.iload_n 3, 1) := by decide +kernel
theorem d_Mod_arrange_116 : decode b_Mod_arrange 116 = .ok (.invokevirtual 321, 3) := by decide +kernel
theorem d_Mod_arrange_119 : decode b_Mod_arrange 119 = .ok (.aload_n 0, 1) := by decide +kernel
theorem d_Mod_arrange_120 : decode b_Mod_arrange 120 = .ok (.iload_n 2, 1) := by decide +kernel
theorem d_Mod_arrange_121 : decode b_Mod_arrange 121 = .ok (.invokevirtual 321, 3) := by decide +kernel
theorem d_Mod_arrange_124 : decode b_Mod_arrange 124 = .ok (.aload_n 0, 1) := by decide +kernel
theorem d_Mod_arrange_125 : decode b_Mod_arrange 125 = .ok (.iload_n 3, 1) := by decide +kernel
theorem d_Mod_arrange_126 : decode b_Mod_arrange 126 = .ok (.invokevirtual 321, 3) := by decide +kernel
theorem d_Mod_arrange_129 : decode b_Mod_arrange 129 = .ok (.aload_n 0, 1) := by decide +kernel
theorem d_Mod_arrange_130 : decode b_Mod_arrange 130 = .ok (.iload_n 2, 1) := by decide +kernel
theorem d_Mod_arrange_131 : decode b_Mod_arrange 131 = .ok (.invokevirtual 321, 3) := by decide +kernel
theorem d_Mod_arrange_134 : decode b_Mod_arrange 134 = .ok (.return_, 1) := by decide +kernel
theorem d_Mod_call_0 : decode b_Mod_call 0 = .ok (.aload_n 0, 1) := by decide +kernel
theorem d_Mod_call_1 : decode b_Mod_call 1 = .ok (.aload_n 0, 1) := by decide +kernel
theorem d_Mod_call_2 : decode b_Mod_call 2 = .ok (.iload_n 2, 1) := by decide +kernel
theorem d_Mod_call_3 : decode b_Mod_call 3 = .ok (.bipush 10, 2) := by decide +kernel
theorem d_Mod_call_5 : decode b_Mod_call 5 = .ok (.invokevirtual 184, 3) := by decide +kernel
theorem d_Mod_call_8 : decode b_Mod_call 8 = .ok (.invokevirtual 330, 3) := by decide +kernel
theorem d_Mod_call_11 : decode b_Mod_call 11 = .ok (.aload_n 0, 1) := by decide +kernel
theorem d_Mod_call_12 : decode b_Mod_call 12 = .ok (.getfield 147, 3) := by decide +kernel
theorem d_Mod_call_15 : decode b_Mod_call 15 = .ok (.ifCond .ne 38, 3) := by decide +kernel
theorem d_Mod_call_18 : decode b_Mod_call 18 = .ok (.iload_n 1, 1) := by decide +kernel
theorem d_Mod_call_19 : decode b_Mod_call 19 = .ok (.sipush 183, 3) := by decide +kernel
theorem d_Mod_call_22 : decode b_Mod_call 22 = .ok (.if_icmp .eq 31, 3) := by decide +kernel
theorem d_Mod_call_25 : decode b_Mod_call 25 = .ok (.aload_n 0, 1) := by decide +kernel
theorem d_Mod_call_26 : decode b_Mod_call 26 = .ok (.aload_n 0, 1) := by decide +kernel
theorem d_Mod_call_27 : decode b_Mod_call 27 = .ok (.getfield 38, 3) := by decide +kernel
theorem d_Mod_call_30 : decode b_Mod_call 30 = .ok (.aload_n 0, 1) := by decide +kernel
theorem d_Mod_call_31 : decode b_Mod_call 31 = .ok (.getfield 41, 3) := by decide +kernel
theorem d_Mod_call_34 : decode b_Mod_call 34 = .ok (.iload_n 2, 1) := by decide +kernel
theorem d_Mod_call_35 : decode b_Mod_call 35 = .ok (.iaload, 1) := by decide +kernel
theorem d_Mod_call_36 : decode b_Mod_call 36 = .ok (.iaload, 1) := by decide +kernel
theorem d_Mod_call_37 : decode b_Mod_call 37 = .ok (.invokevirtual 258, 3) := by decide +kernel
theorem d_Mod_call_40 : decode b_Mod_call 40 = .ok (.ifCond .eq 13, 3) := by decide +kernel
theorem d_Mod_call_43 : decode b_Mod_call 43 = .ok (.aload_n 0, 1) := by decide +kernel
theorem d_Mod_call_44 : decode b_Mod_call 44 = .ok (.bipush 10, 2) := by decide +kernel
theorem d_Mod_call_46 : decode b_Mod_call 46 = .ok (.aload_n 0, 1) := by decide +kernel
theorem d_Mod_call_47 : decode b_Mod_call 47 = .ok (.getfield 309, 3) := by decide +kernel
theorem d_Mod_call_50 : decode b_Mod_call 50 = .ok (.invokevirtual 159, 3) := by decide +kernel
theorem d_Mod_call_53 : decode b_Mod_call 53 = .ok (.aload_n 0, 1) := by decide +kernel
theorem d_Mod_call_54 : decode b_Mod_call 54 = .ok (.getfield 147, 3) := by decide +kernel
theorem d_Mod_call_57 : decode b_Mod_call 57 = .ok (.ifCond .eq 4, 3) := by decide +kernel
theorem d_Mod_call_60 : decode b_Mod_call 60 = .ok (.return_, 1) := by decide +kernel
theorem d_Mod_call_61 : decode b_Mod_call 61 = .ok (.aload_n 0, 1) := by decide +kernel
theorem d_Mod_call_62 : decode b_Mod_call 62 = .ok (.aload_n 0, 1) := by decide +kernel
theorem d_Mod_call_63 : decode b_Mod_call 63 = .ok (.getfield 41, 3) := by decide +kernel
theorem d_Mod_call_66 : decode b_Mod_call 66 = .ok (.aload_n 0, 1) := by decide +kernel
theorem d_Mod_call_67 : decode b_Mod_call 67 = .ok (.getfield 41, 3) := by decide +kernel
theorem d_Mod_call_70 : decode b_Mod_call 70 = .ok (.iload_n 2, 1) := by decide +kernel
theorem d_Mod_call_71 : decode b_Mod_call 71 = .ok (.iaload, 1) := by decide +kernel
theorem d_Mod_call_72 : decode b_Mod_call 72 = .ok (.iaload, 1) := by decide +kernel
theorem d_Mod_call_73 : decode b_Mod_call 73 = .ok (.invokevirtual 333, 3) := by decide +kernel
theorem d_Mod_call_76 : decode b_Mod_call 76 = .ok (.aload_n 0, 1) := by decide +kernel
theorem d_Mod_call_77 : decode b_Mod_call 77 = .ok (.getfield 300, 3) := by decide +kernel
theorem d_Mod_call_80 : decode b_Mod_call 80 = .ok (.iconst 1, 1) := by decide +kernel
theorem d_Mod_call_81 : decode b_Mod_call 81 = .ok (.isub, 1) := by decide +kernel
theorem d_Mod_call_82 : decode b_Mod_call 82 = .ok (.istore_n 3, 1) := by decide +kernel
theorem d_Mod_call_83 : decode b_Mod_call 83 = .ok (.iload_n 3, 1) := by decide +kernel
theorem d_Mod_call_84 : decode b_Mod_call 84 = .ok (.ifCond .lt 19, 3) := by decide +kernel
theorem d_Mod_call_87 : decode b_Mod_call 87 = .ok (.aload_n 0, 1) := by decide +kernel
theorem d_Mod_call_88 : decode b_Mod_call 88 = .ok (.aload_n 0, 1) := by decide +kernel
theorem d_Mod_call_89 : decode b_Mod_call 89 = .ok (.getfield 106, 3) := by decide +kernel
theorem d_Mod_call_92 : decode b_Mod_call 92 = .ok (.iload_n 3, 1) := by decide +kernel
theorem d_Mod_call_93 : decode b_Mod_call 93 = .ok (.iaload, 1) := by decide +kernel
theorem d_Mod_call_94 : decode b_Mod_call 94 = .ok (.invokevirtual 324, 3) := by decide +kernel
theorem d_Mod_call_97 : decode b_Mod_call 97 = .ok (.iinc 3 (-1), 3) := by decide +kernel
theorem d_Mod_call_100 : decode b_Mod_call 100 = .ok (.goto (-17), 3) := by decide +kernel
theorem d_Mod_call_103 : decode b_Mod_call 103 = .ok (.iload_n 1, 1) := by decide +kernel
theorem d_Mod_call_104 : decode b_Mod_call 104 = .ok (.sipush 184, 3) := by decide +kernel
theorem d_Mod_call_107 : decode b_Mod_call 107 = .ok (.if_icmp .eq 8, 3) := by decide +kernel
theorem d_Mod_call_110 : decode b_Mod_call 110 = .ok (.aload_n 0, 1) := by decide +kernel
theorem d_Mod_call_111 : decode b_Mod_call 111 = .ok (.iconst 4, 1) := by decide +kernel
theorem d_Mod_call_112 : decode b_Mod_call 112 = .ok (.invokevirtual 324, 3) := by decide +kernel
theorem d_Mod_call_115 : decode b_Mod_call 115 = .ok (.aload_n 0, 1) := by decide +kernel
theorem d_Mod_call_116 : decode b_Mod_call 116 = .ok (.aload_n 0, 1) := by decide +kernel
theorem d_Mod_call_117 : decode b_Mod_call 117 = .ok (.getfield 306, 3) := by decide +kernel
theorem d_Mod_call_120 : decode b_Mod_call 120 = .ok (.invokevirtual 336, 3) := by decide +kernel
theorem d_Mod_call_123 : decode b_Mod_call 123 = .ok (.return_, 1) := by decide +kernel
theorem d_Mod_isLongOnTop_0 : decode b_Mod_isLongOnTop 0 = .ok (.aload_n 0, 1) := by decide +kernel
theorem d_Mod_isLongOnTop_1 : decode b_Mod_isLongOnTop 1 = .ok (.getfield 312, 3) := by decide +kernel
theorem d_Mod_isLongOnTop_4 : decode b_Mod_isLongOnTop 4 = .ok (.ifCond .le 25, 3) := by decide +kernel
theorem d_Mod_isLongOnTop_7 : decode b_Mod_isLongOnTop 7 = .ok (.aload_n 0, 1) := by decide +kernel
theorem d_Mod_isLongOnTop_8 : decode b_Mod_isLongOnTop 8 = .ok (.getfield 100, 3) := by decide +kernel
theorem d_Mod_isLongOnTop_11 : decode b_Mod_isLongOnTop 11 = .ok (.bipush 64, 2) := by decide +kernel
theorem d_Mod_isLongOnTop_13 : decode b_Mod_isLongOnTop 13 = .ok (.aload_n 0, 1) := by decide +kernel
theorem d_Mod_isLongOnTop_14 : decode b_Mod_isLongOnTop 14 = .ok (.getfield 312, 3) := by decide +kernel
theorem d_Mod_isLongOnTop_17 : decode b_Mod_isLongOnTop 17 = .ok (.iadd, 1) := by decide +kernel
theorem d_Mod_isLongOnTop_18 : decode b_Mod_isLongOnTop 18 = .ok (.iconst 1, 1) := by decide +kernel
theorem d_Mod_isLongOnTop_19 : decode b_Mod_isLongOnTop 19 = .ok (.isub, 1) := by decide +kernel
theorem d_Mod_isLongOnTop_20 : decode b_Mod_isLongOnTop 20 = .ok (.iaload, 1) := by decide +kernel
theorem d_Mod_isLongOnTop_21 : decode b_Mod_isLongOnTop 21 = .ok (.iconst 3, 1) := by decide +kernel
theorem d_Mod_isLongOnTop_22 : decode b_Mod_isLongOnTop 22 = .ok (.if_icmp .ne 7, 3) := by decide +kernel
theorem d_Mod_isLongOnTop_25 : decode b_Mod_isLongOnTop 25 = .ok (.iconst 1, 1) := by decide +kernel
theorem d_Mod_isLongOnTop_26 : decode b_Mod_isLongOnTop 26 = .ok (.goto 4, 3) := by decide +kernel
theorem d_Mod_isLongOnTop_29 : decode b_Mod_isLongOnTop 29 = .ok (.iconst 0, 1) := by decide +kernel
theorem d_Mod_isLongOnTop_30 : decode b_Mod_isLongOnTop 30 = .ok (.ireturn, 1) := by decide +kernel
theorem d_Mod_reachField_0 : decode b_Mod_reachField 0 = .ok (.aload_n 0, 1) := by decide +kernel
theorem d_Mod_reachField_1 : decode b_Mod_reachField 1 = .ok (.aload_n 0, 1) := by decide +kernel
theorem d_Mod_reachField_2 : decode b_Mod_reachField 2 = .ok (.iload_n 2, 1) := by decide +kernel
theorem d_Mod_reachField_3 : decode b_Mod_reachField 3 = .ok (.bipush 9, 2) := by decide +kernel
theorem d_Mod_reachField_5 : decode b_Mod_reachField 5 = .ok (.invokevirtual 184, 3) := by decide +kernel
theorem d_Mod_reachField_8 : decode b_Mod_reachField 8 = .ok (.invokevirtual 330, 3) := by decide +kernel
theorem d_Mod_reachField_11 : decode b_Mod_reachField 11 = .ok (.aload_n 0, 1) := by decide +kernel
theorem d_Mod_reachField_12 : decode b_Mod_reachField 12 = .ok (.getfield 147, 3) := by decide +kernel
theorem d_Mod_reachField_15 : decode b_Mod_reachField 15 = .ok (.ifCond .eq 4, 3) := by decide +kernel
theorem d_Mod_reachField_18 : decode b_Mod_reachField 18 = .ok (.return_, 1) := by decide +kernel
theorem d_Mod_reachField_19 : decode b_Mod_reachField 19 = .ok (.aload_n 0, 1) := by decide +kernel
theorem d_Mod_reachField_20 : decode b_Mod_reachField 20 = .ok (.aload_n 0, 1) := by decide +kernel
theorem d_Mod_reachField_21 : decode b_Mod_reachField 21 = .ok (.getfield 38, 3) := by decide +kernel
theorem d_Mod_reachField_24 : decode b_Mod_reachField 24 = .ok (.aload_n 0, 1) := by decide +kernel
theorem d_Mod_reachField_25 : decode b_Mod_reachField 25 = .ok (.getfield 41, 3) := by decide +kernel
theorem d_Mod_reachField_28 : decode b_Mod_reachField 28 = .ok (.aload_n 0, 1) := by decide +kernel
theorem d_Mod_reachField_29 : decode b_Mod_reachField 29 = .ok (.getfield 41, 3) := by decide +kernel
theorem d_Mod_reachField_32 : decode b_Mod_reachField 32 = .ok (.iload_n 2, 1) := by decide +kernel
theorem d_Mod_reachField_33 : decode b_Mod_reachField 33 = .ok (.iaload, 1) := by decide +kernel
theorem d_Mod_reachField_34 : decode b_Mod_reachField 34 = .ok (.iaload, 1) := by decide +kernel
theorem d_Mod_reachField_35 : decode b_Mod_reachField 35 = .ok (.iaload, 1) := by decide +kernel
theorem d_Mod_reachField_36 : decode b_Mod_reachField 36 = .ok (.invokevirtual 303, 3) := by decide +kernel
theorem d_Mod_reachField_39 : decode b_Mod_reachField 39 = .ok (.istore_n 3, 1) := by decide +kernel
theorem d_Mod_reachField_40 : decode b_Mod_reachField 40 = .ok (.iload_n 1, 1) := by decide +kernel
theorem d_Mod_reachField_41 : decode b_Mod_reachField 41 = .ok (.sipush 179, 3) := by decide +kernel
theorem d_Mod_reachField_44 : decode b_Mod_reachField 44 = .ok (.if_icmp .eq 10, 3) := by decide +kernel
theorem d_Mod_reachField_47 : decode b_Mod_reachField 47 = .ok (.iload_n 1, 1) := by decide +kernel
theorem d_Mod_reachField_48 : decode b_Mod_reachField 48 = .ok (.sipush 181, 3) := by decide +kernel
theorem d_Mod_reachField_51 : decode b_Mod_reachField 51 = .ok (.if_icmp .ne 8, 3) := by decide +kernel
theorem d_Mod_reachField_54 : decode b_Mod_reachField 54 = .ok (.aload_n 0, 1) := by decide +kernel
theorem d_Mod_reachField_55 : decode b_Mod_reachField 55 = .ok (.iload_n 3, 1) := by decide +kernel
theorem d_Mod_reachField_56 : decode b_Mod_reachField 56 = .ok (.invokevirtual 324, 3) := by decide +kernel
theorem d_Mod_reachField_59 : decode b_Mod_reachField 59 = .ok (.iload_n 1, 1) := by decide +kernel
theorem d_Mod_reachField_60 : decode b_Mod_reachField 60 = .ok (.sipush 179, 3) := by decide +kernel
theorem d_Mod_reachField_63 : decode b_Mod_reachField 63 = .ok (.if_icmp .le 8, 3) := by decide +kernel
theorem d_Mod_reachField_66 : decode b_Mod_reachField 66 = .ok (.aload_n 0, 1) := by decide +kernel
theorem d_Mod_reachField_67 : decode b_Mod_reachField 67 = .ok (.iconst 4, 1) := by decide +kernel
theorem d_Mod_reachField_68 : decode b_Mod_reachField 68 = .ok (.invokevirtual 324, 3) := by decide +kernel
theorem d_Mod_reachField_71 : decode b_Mod_reachField 71 = .ok (.iload_n 1, 1) := by decide +kernel
theorem d_Mod_reachField_72 : decode b_Mod_reachField 72 = .ok (.sipush 178, 3) := by decide +kernel
theorem d_Mod_reachField_75 : decode b_Mod_reachField 75 = .ok (.if_icmp .eq 10, 3) := by decide +kernel
theorem d_Mod_reachField_78 : decode b_Mod_reachField 78 = .ok (.iload_n 1, 1) := by decide +kernel
theorem d_Mod_reachField_79 : decode b_Mod_reachField 79 = .ok (.sipush 180, 3) := by decide +kernel
theorem d_Mod_reachField_82 : decode b_Mod_reachField 82 = .ok (.if_icmp .ne 8, 3) := by decide +kernel
theorem d_Mod_reachField_85 : decode b_Mod_reachField 85 = .ok (.aload_n 0, 1) := by decide +kernel
theorem d_Mod_reachField_86 : decode b_Mod_reachField 86 = .ok (.iload_n 3, 1) := by decide +kernel
theorem d_Mod_reachField_87 : decode b_Mod_reachField 87 = .ok (.invokevirtual 321, 3) := by decide +kernel
theorem d_Mod_reachField_90 : decode b_Mod_reachField 90 = .ok (.return_, 1) := by decide +kernel
theorem d_Mod_reckon_0 : decode b_Mod_reckon 0 = .ok (.iload_n 1, 1) := by decide +kernel
theorem d_Mod_reckon_1 : decode b_Mod_reckon 1 = .ok (.invokestatic 285, 3) := by decide +kernel
theorem d_Mod_reckon_4 : decode b_Mod_reckon 4 = .ok (.ifCond .eq 21, 3) := by decide +kernel
theorem d_Mod_reckon_7 : decode b_Mod_reckon 7 = .ok (.aload_n 0, 1) := by decide +kernel
theorem d_Mod_reckon_8 : decode b_Mod_reckon 8 = .ok (.iconst 1, 1) := by decide +kernel
theorem d_Mod_reckon_9 : decode b_Mod_reckon 9 = .ok (.invokevirtual 324, 3) := by decide +kernel
theorem d_Mod_reckon_12 : decode b_Mod_reckon 12 = .ok (.aload_n 0, 1) := by decide +kernel
theorem d_Mod_reckon_13 : decode b_Mod_reckon 13 = .ok (.iconst 1, 1) := by decide +kernel
theorem d_Mod_reckon_14 : decode b_Mod_reckon 14 = .ok (.invokevirtual 324, 3) := by decide +kernel
theorem d_Mod_reckon_17 : decode b_Mod_reckon 17 = .ok (.aload_n 0, 1) := by decide +kernel
theorem d_Mod_reckon_18 : decode b_Mod_reckon 18 = .ok (.iconst 1, 1) := by decide +kernel
theorem d_Mod_reckon_19 : decode b_Mod_reckon 19 = .ok (.invokevirtual 321, 3) := by decide +kernel
theorem d_Mod_reckon_22 : decode b_Mod_reckon 22 = .ok (.goto 135, 3) := by decide +kernel
theorem d_Mod_reckon_25 : decode b_Mod_reckon 25 = .ok (.iload_n 1, 1) := by decide +kernel
theorem d_Mod_reckon_26 : decode b_Mod_reckon 26 = .ok (.invokestatic 288, 3) := by decide +kernel
theorem d_Mod_reckon_29 : decode b_Mod_reckon 29 = .ok (.ifCond .eq 21, 3) := by decide +kernel
theorem d_Mod_reckon_32 : decode b_Mod_reckon 32 = .ok (.aload_n 0, 1) := by decide +kernel
theorem d_Mod_reckon_33 : decode b_Mod_reckon 33 = .ok (.iconst 2, 1) := by decide +kernel
theorem d_Mod_reckon_34 : decode b_Mod_reckon 34 = .ok (.invokevirtual 324, 3) := by decide +kernel
theorem d_Mod_reckon_37 : decode b_Mod_reckon 37 = .ok (.aload_n 0, 1) := by decide +kernel
theorem d_Mod_reckon_38 : decode b_Mod_reckon 38 = .ok (.iconst 2, 1) := by decide +kernel
theorem d_Mod_reckon_39 : decode b_Mod_reckon 39 = .ok (.invokevirtual 324, 3) := by decide +kernel
theorem d_Mod_reckon_42 : decode b_Mod_reckon 42 = .ok (.aload_n 0, 1) := by decide +kernel
theorem d_Mod_reckon_43 : decode b_Mod_reckon 43 = .ok (.iconst 2, 1) := by decide +kernel
theorem d_Mod_reckon_44 : decode b_Mod_reckon 44 = .ok (.invokevirtual 321, 3) := by decide +kernel
theorem d_Mod_reckon_47 : decode b_Mod_reckon 47 = .ok (.goto 110, 3) := by decide +kernel
theorem d_Mod_reckon_50 : decode b_Mod_reckon 50 = .ok (.iload_n 1, 1) := by decide +kernel
theorem d_Mod_reckon_51 : decode b_Mod_reckon 51 = .ok (.bipush 121, 2) := by decide +kernel
theorem d_Mod_reckon_53 : decode b_Mod_reckon 53 = .ok (.if_icmp .eq 15, 3) := by decide +kernel
theorem d_Mod_reckon_56 : decode b_Mod_reckon 56 = .ok (.iload_n 1, 1) := by decide +kernel
theorem d_Mod_reckon_57 : decode b_Mod_reckon 57 = .ok (.bipush 123, 2) := by decide +kernel
theorem d_Mod_reckon_59 : decode b_Mod_reckon 59 = .ok (.if_icmp .eq 9, 3) := by decide +kernel
theorem d_Mod_reckon_62 : decode b_Mod_reckon 62 = .ok (.iload_n 1, 1) := by decide +kernel
theorem d_Mod_reckon_63 : decode b_Mod_reckon 63 = .ok (.bipush 125, 2) := by decide +kernel
theorem d_Mod_reckon_65 : decode b_Mod_reckon 65 = .ok (.if_icmp .ne 21, 3) := by decide +kernel
theorem d_Mod_reckon_68 : decode b_Mod_reckon 68 = .ok (.aload_n 0, 1) := by decide +kernel
theorem d_Mod_reckon_69 : decode b_Mod_reckon 69 = .ok (.iconst 1, 1) := by decide +kernel
theorem d_Mod_reckon_70 : decode b_Mod_reckon 70 = .ok (.invokevirtual 324, 3) := by decide +kernel
theorem d_Mod_reckon_73 : decode b_Mod_reckon 73 = .ok (.aload_n 0, 1) := by decide +kernel
theorem d_Mod_reckon_74 : decode b_Mod_reckon 74 = .ok (.iconst 2, 1) := by decide +kernel
theorem d_Mod_reckon_75 : decode b_Mod_reckon 75 = .ok (.invokevirtual 324, 3) := by decide +kernel
theorem d_Mod_reckon_78 : decode b_Mod_reckon 78 = .ok (.aload_n 0, 1) := by decide +kernel
theorem d_Mod_reckon_79 : decode b_Mod_reckon 79 = .ok (.iconst 2, 1) := by decide +kernel
theorem d_Mod_reckon_80 : decode b_Mod_reckon 80 = .ok (.invokevirtual 321, 3) := by decide +kernel
theorem d_Mod_reckon_83 : decode b_Mod_reckon 83 = .ok (.goto 74, 3) := by decide +kernel
theorem d_Mod_reckon_86 : decode b_Mod_reckon 86 = .ok (.iload_n 1, 1) := by decide +kernel
theorem d_Mod_reckon_87 : decode b_Mod_reckon 87 = .ok (.sipush 148, 3) := by decide +kernel
theorem d_Mod_reckon_90 : decode b_Mod_reckon 90 = .ok (.if_icmp .ne 21, 3) := by decide +kernel
theorem d_Mod_reckon_93 : decode b_Mod_reckon 93 = .ok (.aload_n 0, 1) := by decide +kernel
theorem d_Mod_reckon_94 : decode b_Mod_reckon 94 = .ok (.iconst 2, 1) := by decide +kernel
theorem d_Mod_reckon_95 : decode b_Mod_reckon 95 = .ok (.invokevirtual 324, 3) := by decide +kernel
theorem d_Mod_reckon_98 : decode b_Mod_reckon 98 = .ok (.aload_n 0, 1) := by decide +kernel
theorem d_Mod_reckon_99 : decode b_Mod_reckon 99 = .ok (.iconst 2, 1) := by decide +kernel
theorem d_Mod_reckon_100 : decode b_Mod_reckon 100 = .ok (.invokevirtual 324, 3) := by decide +kernel
theorem d_Mod_reckon_103 : decode b_Mod_reckon 103 = .ok (.aload_n 0, 1) := by decide +kernel
theorem d_Mod_reckon_104 : decode b_Mod_reckon 104 = .ok (.iconst 1, 1) := by decide +kernel
theorem d_Mod_reckon_105 : decode b_Mod_reckon 105 = .ok (.invokevirtual 321, 3) := by decide +kernel
theorem d_Mod_reckon_108 : decode b_Mod_reckon 108 = .ok (.goto 49, 3) := by decide +kernel
theorem d_Mod_reckon_111 : decode b_Mod_reckon 111 = .ok (.iload_n 1, 1) := by decide +kernel
theorem d_Mod_reckon_112 : decode b_Mod_reckon 112 = .ok (.bipush 117, 2) := by decide +kernel
theorem d_Mod_reckon_114 : decode b_Mod_reckon 114 = .ok (.if_icmp .eq 10, 3) := by decide +kernel
theorem d_Mod_reckon_117 : decode b_Mod_reckon 117 = .ok (.iload_n 1, 1) := by decide +kernel
theorem d_Mod_reckon_118 : decode b_Mod_reckon 118 = .ok (.sipush 136, 3) := by decide +kernel
theorem d_Mod_reckon_121 : decode b_Mod_reckon 121 = .ok (.if_icmp .ne 7, 3) := by decide +kernel
theorem d_Mod_reckon_124 : decode b_Mod_reckon 124 = .ok (.iconst 2, 1) := by decide +kernel
theorem d_Mod_reckon_125 : decode b_Mod_reckon 125 = .ok (.goto 4, 3) := by decide +kernel
theorem d_Mod_reckon_128 : decode b_Mod_reckon 128 = .ok (.iconst 1, 1) := by decide +kernel
theorem d_Mod_reckon_129 : decode b_Mod_reckon 129 = .ok (.istore_n 2, 1) := by decide +kernel
theorem d_Mod_reckon_130 : decode b_Mod_reckon 130 = .ok (.aload_n 0, 1) := by decide +kernel
theorem d_Mod_reckon_131 : decode b_Mod_reckon 131 = .ok (.iload_n 2, 1) := by decide +kernel
theorem d_Mod_reckon_132 : decode b_Mod_reckon 132 = .ok (.invokevirtual 324, 3) := by decide +kernel
theorem d_Mod_reckon_135 : decode b_Mod_reckon 135 = .ok (.aload_n 0, 1) := by decide +kernel
theorem d_Mod_reckon_136 : decode b_Mod_reckon 136 = .ok (.iload_n 1, 1) := by decide +kernel
theorem d_Mod_reckon_137 : decode b_Mod_reckon 137 = .ok (.bipush 117, 2) := by decide +kernel
theorem d_Mod_reckon_139 : decode b_Mod_reckon 139 = .ok (.if_icmp .eq 10, 3) := by decide +kernel
theorem d_Mod_reckon_142 : decode b_Mod_reckon 142 = .ok (.iload_n 1, 1) := by decide +kernel
theorem d_Mod_reckon_143 : decode b_Mod_reckon 143 = .ok (.sipush 133, 3) := by decide +kernel
theorem d_Mod_reckon_146 : decode b_Mod_reckon 146 = .ok (.if_icmp .ne 7, 3) := by decide +kernel
theorem d_Mod_reckon_149 : decode b_Mod_reckon 149 = .ok (.iconst 2, 1) := by decide +kernel
theorem d_Mod_reckon_150 : decode b_Mod_reckon 150 = .ok (.goto 4, 3) := by decide +kernel
theorem d_Mod_reckon_153 : decode b_Mod_reckon 153 = .ok (.iconst 1, 1) := by decide +kernel
theorem d_Mod_reckon_154 : decode b_Mod_reckon 154 = .ok (.invokevirtual 321, 3) := by decide +kernel
theorem d_Mod_reckon_157 : decode b_Mod_reckon 157 = .ok (.return_, 1) := by decide +kernel
theorem d_Mod_returns_0 : decode b_Mod_returns 0 = .ok (.iload_n 1, 1) := by decide +kernel
theorem d_Mod_returns_1 : decode b_Mod_returns 1 = .ok (.ifCond .eq 8, 3) := by decide +kernel
theorem d_Mod_returns_4 : decode b_Mod_returns 4 = .ok (.aload_n 0, 1) := by decide +kernel
theorem d_Mod_returns_5 : decode b_Mod_returns 5 = .ok (.iload_n 1, 1) := by decide +kernel
theorem d_Mod_returns_6 : decode b_Mod_returns 6 = .ok (.invokevirtual 324, 3) := by decide +kernel
theorem d_Mod_returns_9 : decode b_Mod_returns 9 = .ok (.aload_n 0, 1) := by decide +kernel
theorem d_Mod_returns_10 : decode b_Mod_returns 10 = .ok (.aload_n 0, 1) := by decide +kernel
theorem d_Mod_returns_11 : decode b_Mod_returns 11 = .ok (.getfield 59, 3) := by decide +kernel
theorem d_Mod_returns_14 : decode b_Mod_returns 14 = .ok (.aload_n 0, 1) := by decide +kernel
theorem d_Mod_returns_15 : decode b_Mod_returns 15 = .ok (.getfield 315, 3) := by decide +kernel
theorem d_Mod_returns_18 : decode b_Mod_returns 18 = .ok (.iaload, 1) := by decide +kernel
theorem d_Mod_returns_19 : decode b_Mod_returns 19 = .ok (.invokevirtual 333, 3) := by decide +kernel
theorem d_Mod_returns_22 : decode b_Mod_returns 22 = .ok (.aload_n 0, 1) := by decide +kernel
theorem d_Mod_returns_23 : decode b_Mod_returns 23 = .ok (.getfield 306, 3) := by decide +kernel
theorem d_Mod_returns_26 : decode b_Mod_returns 26 = .ok (.iload_n 1, 1) := by decide +kernel
theorem d_Mod_returns_27 : decode b_Mod_returns 27 = .ok (.if_icmp .eq 13, 3) := by decide +kernel
theorem d_Mod_returns_30 : decode b_Mod_returns 30 = .ok (.aload_n 0, 1) := by decide +kernel
theorem d_Mod_returns_31 : decode b_Mod_returns 31 = .ok (.bipush 23, 2) := by decide +kernel
theorem d_Mod_returns_33 : decode b_Mod_returns 33 = .ok (.aload_n 0, 1) := by decide +kernel
theorem d_Mod_returns_34 : decode b_Mod_returns 34 = .ok (.getfield 309, 3) := by decide +kernel
theorem d_Mod_returns_37 : decode b_Mod_returns 37 = .ok (.invokevirtual 159, 3) := by decide +kernel
theorem d_Mod_returns_40 : decode b_Mod_returns 40 = .ok (.return_, 1) := by decide +kernel
