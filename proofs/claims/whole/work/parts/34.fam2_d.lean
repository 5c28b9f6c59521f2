theorem d_Policy_admits_0 : decode b_Policy_admits 0 = .ok (.aload_n 1, 1) := by decide +kernel
theorem d_Policy_admits_1 : decode b_Policy_admits 1 = .ok (.getfield 54, 3) := by decide +kernel
theorem d_Policy_admits_4 : decode b_Policy_admits 4 = .ok (.aload_n 0, 1) := by decide +kernel
theorem d_Policy_admits_5 : decode b_Policy_admits 5 = .ok (.getfield 22, 3) := by decide +kernel
theorem d_Policy_admits_8 : decode b_Policy_admits 8 = .ok (.if_icmp .le 14, 3) := by decide +kernel
theorem d_Policy_admits_11 : decode b_Policy_admits 11 = .ok (.aload_n 2, 1) := by decide +kernel
theorem d_Policy_admits_12 : decode b_Policy_admits 12 = .ok (.bipush 13, 2) := by decide +kernel
theorem d_Policy_admits_14 : decode b_Policy_admits 14 = .ok (.aload_n 1, 1) := by decide +kernel
theorem d_Policy_admits_15 : decode b_Policy_admits 15 = .ok (.getfield 57, 3) := by decide +kernel
theorem d_Policy_admits_18 : decode b_Policy_admits 18 = .ok (.invokevirtual 60, 3) := by decide +kernel
theorem d_Policy_admits_21 : decode b_Policy_admits 21 = .ok (.ireturn, 1) := by decide +kernel
theorem d_Policy_admits_22 : decode b_Policy_admits 22 = .ok (.aload_n 0, 1) := by decide +kernel
theorem d_Policy_admits_23 : decode b_Policy_admits 23 = .ok (.iconst 0, 1) := by decide +kernel
theorem d_Policy_admits_24 : decode b_Policy_admits 24 = .ok (.aload_n 1, 1) := by decide +kernel
theorem d_Policy_admits_25 : decode b_Policy_admits 25 = .ok (.aload_n 1, 1) := by decide +kernel
theorem d_Policy_admits_26 : decode b_Policy_admits 26 = .ok (.aload_n 1, 1) := by decide +kernel
theorem d_Policy_admits_27 : decode b_Policy_admits 27 = .ok (.getfield 66, 3) := by decide +kernel
theorem d_Policy_admits_30 : decode b_Policy_admits 30 = .ok (.invokevirtual 69, 3) := by decide +kernel
theorem d_Policy_admits_33 : decode b_Policy_admits 33 = .ok (.invokevirtual 72, 3) := by decide +kernel
theorem d_Policy_admits_36 : decode b_Policy_admits 36 = .ok (.ifCond .eq 14, 3) := by decide +kernel
theorem d_Policy_admits_39 : decode b_Policy_admits 39 = .ok (.aload_n 2, 1) := by decide +kernel
theorem d_Policy_admits_40 : decode b_Policy_admits 40 = .ok (.bipush 14, 2) := by decide +kernel
theorem d_Policy_admits_42 : decode b_Policy_admits 42 = .ok (.aload_n 1, 1) := by decide +kernel
theorem d_Policy_admits_43 : decode b_Policy_admits 43 = .ok (.getfield 66, 3) := by decide +kernel
theorem d_Policy_admits_46 : decode b_Policy_admits 46 = .ok (.invokevirtual 60, 3) := by decide +kernel
theorem d_Policy_admits_49 : decode b_Policy_admits 49 = .ok (.ireturn, 1) := by decide +kernel
theorem d_Policy_admits_50 : decode b_Policy_admits 50 = .ok (.iconst 1, 1) := by decide +kernel
theorem d_Policy_admits_51 : decode b_Policy_admits 51 = .ok (.istore_n 3, 1) := by decide +kernel
theorem d_Policy_admits_52 : decode b_Policy_admits 52 = .ok (.iload_n 3, 1) := by decide +kernel
theorem d_Policy_admits_53 : decode b_Policy_admits 53 = .ok (.aload_n 1, 1) := by decide +kernel
theorem d_Policy_admits_54 : decode b_Policy_admits 54 = .ok (.getfield 75, 3) := by decide +kernel
theorem d_Policy_admits_57 : decode b_Policy_admits 57 = .ok (.if_icmp .ge 30, 3) := by decide +kernel
theorem d_Policy_admits_60 : decode b_Policy_admits 60 = .ok (.aload_n 0, 1) := by decide +kernel
theorem d_Policy_admits_61 : decode b_Policy_admits 61 = .ok (.aload_n 1, 1) := by decide +kernel
theorem d_Policy_admits_62 : decode b_Policy_admits 62 = .ok (.iload_n 3, 1) := by decide +kernel
theorem d_Policy_admits_63 : decode b_Policy_admits 63 = .ok (.invokevirtual 78, 3) := by decide +kernel
theorem d_Policy_admits_66 : decode b_Policy_admits 66 = .ok (.ifCond .ne 15, 3) := by decide +kernel
theorem d_Policy_admits_69 : decode b_Policy_admits 69 = .ok (.aload_n 2, 1) := by decide +kernel
theorem d_Policy_admits_70 : decode b_Policy_admits 70 = .ok (.bipush 15, 2) := by decide +kernel
theorem d_Policy_admits_72 : decode b_Policy_admits 72 = .ok (.aload_n 1, 1) := by decide +kernel
theorem d_Policy_admits_73 : decode b_Policy_admits 73 = .ok (.iload_n 3, 1) := by decide +kernel
theorem d_Policy_admits_74 : decode b_Policy_admits 74 = .ok (.invokevirtual 82, 3) := by decide +kernel
theorem d_Policy_admits_77 : decode b_Policy_admits 77 = .ok (.invokevirtual 60, 3) := by decide +kernel
theorem d_Policy_admits_80 : decode b_Policy_admits 80 = .ok (.ireturn, 1) := by decide +kernel
theorem d_Policy_admits_81 : decode b_Policy_admits 81 = .ok (.iinc 3 1, 3) := by decide +kernel
theorem d_Policy_admits_84 : decode b_Policy_admits 84 = .ok (.goto (-32), 3) := by decide +kernel
theorem d_Policy_admits_87 : decode b_Policy_admits 87 = .ok (.iconst 0, 1) := by decide +kernel
theorem d_Policy_admits_88 : decode b_Policy_admits 88 = .ok (.istore_n 3, 1) := by decide +kernel
theorem d_Policy_admits_89 : decode b_Policy_admits 89 = .ok (.iload_n 3, 1) := by decide +kernel
theorem d_Policy_admits_90 : decode b_Policy_admits 90 = .ok (.aload_n 1, 1) := by decide +kernel
theorem d_Policy_admits_91 : decode b_Policy_admits 91 = .ok (.getfield 54, 3) := by decide +kernel
theorem d_Policy_admits_94 : decode b_Policy_admits 94 = .ok (.if_icmp .ge 35, 3) := by decide +kernel
theorem d_Policy_admits_97 : decode b_Policy_admits 97 = .ok (.aload_n 0, 1) := by decide +kernel
theorem d_Policy_admits_98 : decode b_Policy_admits 98 = .ok (.aload_n 1, 1) := by decide +kernel
theorem d_Policy_admits_99 : decode b_Policy_admits 99 = .ok (.iload_n 3, 1) := by decide +kernel
theorem d_Policy_admits_100 : decode b_Policy_admits 100 = .ok (.invokevirtual 85, 3) := by decide +kernel
theorem d_Policy_admits_103 : decode b_Policy_admits 103 = .ok (.istore 4, 2) := by decide +kernel
theorem d_Policy_admits_105 : decode b_Policy_admits 105 = .ok (.iload 4, 2) := by decide +kernel
theorem d_Policy_admits_107 : decode b_Policy_admits 107 = .ok (.ifCond .eq 16, 3) := by decide +kernel
theorem d_Policy_admits_110 : decode b_Policy_admits 110 = .ok (.aload_n 2, 1) := by decide +kernel
theorem d_Policy_admits_111 : decode b_Policy_admits 111 = .ok (.iload 4, 2) := by decide +kernel
theorem d_Policy_admits_113 : decode b_Policy_admits 113 = .ok (.aload_n 1, 1) := by decide +kernel
theorem d_Policy_admits_114 : decode b_Policy_admits 114 = .ok (.iconst 1, 1) := by decide +kernel
theorem d_Policy_admits_115 : decode b_Policy_admits 115 = .ok (.iload_n 3, 1) := by decide +kernel
theorem d_Policy_admits_116 : decode b_Policy_admits 116 = .ok (.invokevirtual 89, 3) := by decide +kernel
theorem d_Policy_admits_119 : decode b_Policy_admits 119 = .ok (.invokevirtual 60, 3) := by decide +kernel
theorem d_Policy_admits_122 : decode b_Policy_admits 122 = .ok (.ireturn, 1) := by decide +kernel
theorem d_Policy_admits_123 : decode b_Policy_admits 123 = .ok (.iinc 3 1, 3) := by decide +kernel
theorem d_Policy_admits_126 : decode b_Policy_admits 126 = .ok (.goto (-37), 3) := by decide +kernel
theorem d_Policy_admits_129 : decode b_Policy_admits 129 = .ok (.iconst 1, 1) := by decide +kernel
theorem d_Policy_admits_130 : decode b_Policy_admits 130 = .ok (.ireturn, 1) := by decide +kernel
theorem d_Policy_faultOfMethod_0 : decode b_Policy_faultOfMethod 0 = .ok (.aload_n 1, 1) := by decide +kernel
theorem d_Policy_faultOfMethod_1 : decode b_Policy_faultOfMethod 1 = .ok (.iconst 1, 1) := by decide +kernel
theorem d_Policy_faultOfMethod_2 : decode b_Policy_faultOfMethod 2 = .ok (.iload_n 2, 1) := by decide +kernel
theorem d_Policy_faultOfMethod_3 : decode b_Policy_faultOfMethod 3 = .ok (.invokevirtual 89, 3) := by decide +kernel
theorem d_Policy_faultOfMethod_6 : decode b_Policy_faultOfMethod 6 = .ok (.istore_n 3, 1) := by decide +kernel
theorem d_Policy_faultOfMethod_7 : decode b_Policy_faultOfMethod 7 = .ok (.aload_n 1, 1) := by decide +kernel
theorem d_Policy_faultOfMethod_8 : decode b_Policy_faultOfMethod 8 = .ok (.getfield 50, 3) := by decide +kernel
theorem d_Policy_faultOfMethod_11 : decode b_Policy_faultOfMethod 11 = .ok (.iload_n 3, 1) := by decide +kernel
theorem d_Policy_faultOfMethod_12 : decode b_Policy_faultOfMethod 12 = .ok (.invokevirtual 99, 3) := by decide +kernel
theorem d_Policy_faultOfMethod_15 : decode b_Policy_faultOfMethod 15 = .ok (.sipush 256, 3) := by decide +kernel
theorem d_Policy_faultOfMethod_18 : decode b_Policy_faultOfMethod 18 = .ok (.iand, 1) := by decide +kernel
theorem d_Policy_faultOfMethod_19 : decode b_Policy_faultOfMethod 19 = .ok (.ifCond .eq 6, 3) := by decide +kernel
theorem d_Policy_faultOfMethod_22 : decode b_Policy_faultOfMethod 22 = .ok (.bipush 16, 2) := by decide +kernel
theorem d_Policy_faultOfMethod_24 : decode b_Policy_faultOfMethod 24 = .ok (.ireturn, 1) := by decide +kernel
theorem d_Policy_faultOfMethod_25 : decode b_Policy_faultOfMethod 25 = .ok (.aload_n 1, 1) := by decide +kernel
theorem d_Policy_faultOfMethod_26 : decode b_Policy_faultOfMethod 26 = .ok (.aload_n 1, 1) := by decide +kernel
theorem d_Policy_faultOfMethod_27 : decode b_Policy_faultOfMethod 27 = .ok (.iload_n 3, 1) := by decide +kernel
theorem d_Policy_faultOfMethod_28 : decode b_Policy_faultOfMethod 28 = .ok (.invokevirtual 102, 3) := by decide +kernel
theorem d_Policy_faultOfMethod_31 : decode b_Policy_faultOfMethod 31 = .ok (.ldc 105, 2) := by decide +kernel
theorem d_Policy_faultOfMethod_33 : decode b_Policy_faultOfMethod 33 = .ok (.invokevirtual 107, 3) := by decide +kernel
theorem d_Policy_faultOfMethod_36 : decode b_Policy_faultOfMethod 36 = .ok (.ifCond .eq 20, 3) := by decide +kernel
theorem d_Policy_faultOfMethod_39 : decode b_Policy_faultOfMethod 39 = .ok (.aload_n 1, 1) := by decide +kernel
theorem d_Policy_faultOfMethod_40 : decode b_Policy_faultOfMethod 40 = .ok (.aload_n 1, 1) := by decide +kernel
theorem d_Policy_faultOfMethod_41 : decode b_Policy_faultOfMethod 41 = .ok (.iload_n 3, 1) := by decide +kernel
theorem d_Policy_faultOfMethod_42 : decode b_Policy_faultOfMethod 42 = .ok (.invokevirtual 111, 3) := by decide +kernel
theorem d_Policy_faultOfMethod_45 : decode b_Policy_faultOfMethod 45 = .ok (.ldc 114, 2) := by decide +kernel
theorem d_Policy_faultOfMethod_47 : decode b_Policy_faultOfMethod 47 = .ok (.invokevirtual 107, 3) := by decide +kernel
theorem d_Policy_faultOfMethod_50 : decode b_Policy_faultOfMethod 50 = .ok (.ifCond .eq 6, 3) := by decide +kernel
theorem d_Policy_faultOfMethod_53 : decode b_Policy_faultOfMethod 53 = .ok (.bipush 17, 2) := by decide +kernel
theorem d_Policy_faultOfMethod_55 : decode b_Policy_faultOfMethod 55 = .ok (.ireturn, 1) := by decide +kernel
theorem d_Policy_faultOfMethod_56 : decode b_Policy_faultOfMethod 56 = .ok (.aload_n 1, 1) := by decide +kernel
theorem d_Policy_faultOfMethod_57 : decode b_Policy_faultOfMethod 57 = .ok (.iload_n 2, 1) := by decide +kernel
theorem d_Policy_faultOfMethod_58 : decode b_Policy_faultOfMethod 58 = .ok (.invokevirtual 115, 3) := by decide +kernel
theorem d_Policy_faultOfMethod_61 : decode b_Policy_faultOfMethod 61 = .ok (.ifCond .ne 5, 3) := by decide +kernel
theorem d_Policy_faultOfMethod_64 : decode b_Policy_faultOfMethod 64 = .ok (.iconst 0, 1) := by decide +kernel
theorem d_Policy_faultOfMethod_65 : decode b_Policy_faultOfMethod 65 = .ok (.ireturn, 1) := by decide +kernel
theorem d_Policy_faultOfMethod_66 : decode b_Policy_faultOfMethod 66 = .ok (.aload_n 1, 1) := by decide +kernel
theorem d_Policy_faultOfMethod_67 : decode b_Policy_faultOfMethod 67 = .ok (.iload_n 2, 1) := by decide +kernel
theorem d_Policy_faultOfMethod_68 : decode b_Policy_faultOfMethod 68 = .ok (.invokevirtual 118, 3) := by decide +kernel
theorem d_Policy_faultOfMethod_71 : decode b_Policy_faultOfMethod 71 = .ok (.aload_n 0, 1) := by decide +kernel
theorem d_Policy_faultOfMethod_72 : decode b_Policy_faultOfMethod 72 = .ok (.getfield 26, 3) := by decide +kernel
theorem d_Policy_faultOfMethod_75 : decode b_Policy_faultOfMethod 75 = .ok (.if_icmp .gt 23, 3) := by decide +kernel
theorem d_Policy_faultOfMethod_78 : decode b_Policy_faultOfMethod 78 = .ok (.aload_n 1, 1) := by decide +kernel
theorem d_Policy_faultOfMethod_79 : decode b_Policy_faultOfMethod 79 = .ok (.iload_n 2, 1) := by decide +kernel
theorem d_Policy_faultOfMethod_80 : decode b_Policy_faultOfMethod 80 = .ok (.invokevirtual 121, 3) := by decide +kernel
theorem d_Policy_faultOfMethod_83 : decode b_Policy_faultOfMethod 83 = .ok (.bipush 64, 2) := by decide +kernel
theorem d_Policy_faultOfMethod_85 : decode b_Policy_faultOfMethod 85 = .ok (.if_icmp .gt 13, 3) := by decide +kernel
theorem d_Policy_faultOfMethod_88 : decode b_Policy_faultOfMethod 88 = .ok (.aload_n 1, 1) := by decide +kernel
theorem d_Policy_faultOfMethod_89 : decode b_Policy_faultOfMethod 89 = .ok (.iload_n 2, 1) := by decide +kernel
theorem d_Policy_faultOfMethod_90 : decode b_Policy_faultOfMethod 90 = .ok (.invokevirtual 124, 3) := by decide +kernel
theorem d_Policy_faultOfMethod_93 : decode b_Policy_faultOfMethod 93 = .ok (.bipush 64, 2) := by decide +kernel
theorem d_Policy_faultOfMethod_95 : decode b_Policy_faultOfMethod 95 = .ok (.if_icmp .le 7, 3) := by decide +kernel
theorem d_Policy_faultOfMethod_98 : decode b_Policy_faultOfMethod 98 = .ok (.iconst 1, 1) := by decide +kernel
theorem d_Policy_faultOfMethod_99 : decode b_Policy_faultOfMethod 99 = .ok (.goto 4, 3) := by decide +kernel
theorem d_Policy_faultOfMethod_102 : decode b_Policy_faultOfMethod 102 = .ok (.iconst 0, 1) := by decide +kernel
theorem d_Policy_faultOfMethod_103 : decode b_Policy_faultOfMethod 103 = .ok (.istore 4, 2) := by decide +kernel
theorem d_Policy_faultOfMethod_105 : decode b_Policy_faultOfMethod 105 = .ok (.iload 4, 2) := by decide +kernel
theorem d_Policy_faultOfMethod_107 : decode b_Policy_faultOfMethod 107 = .ok (.ifCond .eq 8, 3) := by decide +kernel
theorem d_Policy_faultOfMethod_110 : decode b_Policy_faultOfMethod 110 = .ok (.bipush 13, 2) := by decide +kernel
theorem d_Policy_faultOfMethod_112 : decode b_Policy_faultOfMethod 112 = .ok (.goto 4, 3) := by decide +kernel
theorem d_Policy_faultOfMethod_115 : decode b_Policy_faultOfMethod 115 = .ok (.iconst 0, 1) := by decide +kernel
theorem d_Policy_faultOfMethod_116 : decode b_Policy_faultOfMethod 116 = .ok (.ireturn, 1) := by decide +kernel
theorem d_Policy_isBegunBy_0 : decode b_Policy_isBegunBy 0 = .ok (.iconst 0, 1) := by decide +kernel
theorem d_Policy_isBegunBy_1 : decode b_Policy_isBegunBy 1 = .ok (.istore 4, 2) := by decide +kernel
theorem d_Policy_isBegunBy_3 : decode b_Policy_isBegunBy 3 = .ok (.iload 4, 2) := by decide +kernel
theorem d_Policy_isBegunBy_5 : decode b_Policy_isBegunBy 5 = .ok (.aload_n 0, 1) := by decide +kernel
theorem d_Policy_isBegunBy_6 : decode b_Policy_isBegunBy 6 = .ok (.getfield 19, 3) := by decide +kernel
theorem d_Policy_isBegunBy_9 : decode b_Policy_isBegunBy 9 = .ok (.iload_n 1, 1) := by decide +kernel
theorem d_Policy_isBegunBy_10 : decode b_Policy_isBegunBy 10 = .ok (.iaload, 1) := by decide +kernel
theorem d_Policy_isBegunBy_11 : decode b_Policy_isBegunBy 11 = .ok (.if_icmp .ge 27, 3) := by decide +kernel
theorem d_Policy_isBegunBy_14 : decode b_Policy_isBegunBy 14 = .ok (.aload_n 0, 1) := by decide +kernel
theorem d_Policy_isBegunBy_15 : decode b_Policy_isBegunBy 15 = .ok (.iload_n 1, 1) := by decide +kernel
theorem d_Policy_isBegunBy_16 : decode b_Policy_isBegunBy 16 = .ok (.bipush 6, 2) := by decide +kernel
theorem d_Policy_isBegunBy_18 : decode b_Policy_isBegunBy 18 = .ok (.imul, 1) := by decide +kernel
theorem d_Policy_isBegunBy_19 : decode b_Policy_isBegunBy 19 = .ok (.iload 4, 2) := by decide +kernel
theorem d_Policy_isBegunBy_21 : decode b_Policy_isBegunBy 21 = .ok (.iadd, 1) := by decide +kernel
theorem d_Policy_isBegunBy_22 : decode b_Policy_isBegunBy 22 = .ok (.aload_n 2, 1) := by decide +kernel
theorem d_Policy_isBegunBy_23 : decode b_Policy_isBegunBy 23 = .ok (.iload_n 3, 1) := by decide +kernel
theorem d_Policy_isBegunBy_24 : decode b_Policy_isBegunBy 24 = .ok (.invokevirtual 38, 3) := by decide +kernel
theorem d_Policy_isBegunBy_27 : decode b_Policy_isBegunBy 27 = .ok (.ifCond .eq 5, 3) := by decide +kernel
theorem d_Policy_isBegunBy_30 : decode b_Policy_isBegunBy 30 = .ok (.iconst 1, 1) := by decide +kernel
theorem d_Policy_isBegunBy_31 : decode b_Policy_isBegunBy 31 = .ok (.ireturn, 1) := by decide +kernel
theorem d_Policy_isBegunBy_32 : decode b_Policy_isBegunBy 32 = .ok (.iinc 4 1, 3) := by decide +kernel
theorem d_Policy_isBegunBy_35 : decode b_Policy_isBegunBy 35 = .ok (.goto (-32), 3) := by decide +kernel
theorem d_Policy_isBegunBy_38 : decode b_Policy_isBegunBy 38 = .ok (.iconst 0, 1) := by decide +kernel
theorem d_Policy_isBegunBy_39 : decode b_Policy_isBegunBy 39 = .ok (.ireturn, 1) := by decide +kernel
theorem d_Policy_isBegunByRow_0 : decode b_Policy_isBegunByRow 0 = .ok (.aload_n 0, 1) := by decide +kernel
theorem d_Policy_isBegunByRow_1 : decode b_Policy_isBegunByRow 1 = .ok (.getfield 15, 3) := by decide +kernel
theorem d_Policy_isBegunByRow_4 : decode b_Policy_isBegunByRow 4 = .ok (.iload_n 1, 1) := by decide +kernel
theorem d_Policy_isBegunByRow_5 : decode b_Policy_isBegunByRow 5 = .ok (.iaload, 1) := by decide +kernel
theorem d_Policy_isBegunByRow_6 : decode b_Policy_isBegunByRow 6 = .ok (.istore 4, 2) := by decide +kernel
theorem d_Policy_isBegunByRow_8 : decode b_Policy_isBegunByRow 8 = .ok (.aload_n 2, 1) := by decide +kernel
theorem d_Policy_isBegunByRow_9 : decode b_Policy_isBegunByRow 9 = .ok (.iload_n 3, 1) := by decide +kernel
theorem d_Policy_isBegunByRow_10 : decode b_Policy_isBegunByRow 10 = .ok (.invokevirtual 42, 3) := by decide +kernel
theorem d_Policy_isBegunByRow_13 : decode b_Policy_isBegunByRow 13 = .ok (.iload 4, 2) := by decide +kernel
theorem d_Policy_isBegunByRow_15 : decode b_Policy_isBegunByRow 15 = .ok (.if_icmp .ge 5, 3) := by decide +kernel
theorem d_Policy_isBegunByRow_18 : decode b_Policy_isBegunByRow 18 = .ok (.iconst 0, 1) := by decide +kernel
theorem d_Policy_isBegunByRow_19 : decode b_Policy_isBegunByRow 19 = .ok (.ireturn, 1) := by decide +kernel
theorem d_Policy_isBegunByRow_20 : decode b_Policy_isBegunByRow 20 = .ok (.aload_n 2, 1) := by decide +kernel
theorem d_Policy_isBegunByRow_21 : decode b_Policy_isBegunByRow 21 = .ok (.iload_n 3, 1) := by decide +kernel
theorem d_Policy_isBegunByRow_22 : decode b_Policy_isBegunByRow 22 = .ok (.invokevirtual 47, 3) := by decide +kernel
theorem d_Policy_isBegunByRow_25 : decode b_Policy_isBegunByRow 25 = .ok (.istore 5, 2) := by decide +kernel
theorem d_Policy_isBegunByRow_27 : decode b_Policy_isBegunByRow 27 = .ok (.iconst 0, 1) := by decide +kernel
theorem d_Policy_isBegunByRow_28 : decode b_Policy_isBegunByRow 28 = .ok (.istore 6, 2) := by decide +kernel
theorem d_Policy_isBegunByRow_30 : decode b_Policy_isBegunByRow 30 = .ok (.iload 6, 2) := by decide +kernel
theorem d_Policy_isBegunByRow_32 : decode b_Policy_isBegunByRow 32 = .ok (.iload 4, 2) := by decide +kernel
theorem d_Policy_isBegunByRow_34 : decode b_Policy_isBegunByRow 34 = .ok (.if_icmp .ge 38, 3) := by decide +kernel
theorem d_Policy_isBegunByRow_37 : decode b_Policy_isBegunByRow 37 = .ok (.aload_n 2, 1) := by decide +kernel
theorem d_Policy_isBegunByRow_38 : decode b_Policy_isBegunByRow 38 = .ok (.getfield 50, 3) := by decide +kernel
theorem d_Policy_isBegunByRow_41 : decode b_Policy_isBegunByRow 41 = .ok (.iload 5, 2) := by decide +kernel
theorem d_Policy_isBegunByRow_43 : decode b_Policy_isBegunByRow 43 = .ok (.iload 6, 2) := by decide +kernel
theorem d_Policy_isBegunByRow_45 : decode b_Policy_isBegunByRow 45 = .ok (.iadd, 1) := by decide +kernel
theorem d_Policy_isBegunByRow_46 : decode b_Policy_isBegunByRow 46 = .ok (.invokevirtual 34, 3) := by decide +kernel
theorem d_Policy_isBegunByRow_49 : decode b_Policy_isBegunByRow 49 = .ok (.aload_n 0, 1) := by decide +kernel
theorem d_Policy_isBegunByRow_50 : decode b_Policy_isBegunByRow 50 = .ok (.getfield 11, 3) := by decide +kernel
theorem d_Policy_isBegunByRow_53 : decode b_Policy_isBegunByRow 53 = .ok (.iload_n 1, 1) := by decide +kernel
theorem d_Policy_isBegunByRow_54 : decode b_Policy_isBegunByRow 54 = .ok (.bipush 40, 2) := by decide +kernel
theorem d_Policy_isBegunByRow_56 : decode b_Policy_isBegunByRow 56 = .ok (.imul, 1) := by decide +kernel
theorem d_Policy_isBegunByRow_57 : decode b_Policy_isBegunByRow 57 = .ok (.iload 6, 2) := by decide +kernel
theorem d_Policy_isBegunByRow_59 : decode b_Policy_isBegunByRow 59 = .ok (.iadd, 1) := by decide +kernel
theorem d_Policy_isBegunByRow_60 : decode b_Policy_isBegunByRow 60 = .ok (.baload, 1) := by decide +kernel
theorem d_Policy_isBegunByRow_61 : decode b_Policy_isBegunByRow 61 = .ok (.if_icmp .eq 5, 3) := by decide +kernel
theorem d_Policy_isBegunByRow_64 : decode b_Policy_isBegunByRow 64 = .ok (.iconst 0, 1) := by decide +kernel
theorem d_Policy_isBegunByRow_65 : decode b_Policy_isBegunByRow 65 = .ok (.ireturn, 1) := by decide +kernel
theorem d_Policy_isBegunByRow_66 : decode b_Policy_isBegunByRow 66 = .ok (.iinc 6 1, 3) := by decide +kernel
theorem d_Policy_isBegunByRow_69 : decode b_Policy_isBegunByRow 69 = .ok (.goto (-39), 3) := by decide +kernel
theorem d_Policy_isBegunByRow_72 : decode b_Policy_isBegunByRow 72 = .ok (.iconst 1, 1) := by decide +kernel
theorem d_Policy_isBegunByRow_73 : decode b_Policy_isBegunByRow 73 = .ok (.ireturn, 1) := by decide +kernel
theorem d_Policy_mayUse_0 : decode b_Policy_mayUse 0 = .ok (.aload_n 1, 1) := by decide +kernel
theorem d_Policy_mayUse_1 : decode b_Policy_mayUse 1 = .ok (.iload_n 2, 1) := by decide +kernel
theorem d_Policy_mayUse_2 : decode b_Policy_mayUse 2 = .ok (.invokevirtual 93, 3) := by decide +kernel
theorem d_Policy_mayUse_5 : decode b_Policy_mayUse 5 = .ok (.istore_n 3, 1) := by decide +kernel
theorem d_Policy_mayUse_6 : decode b_Policy_mayUse 6 = .ok (.iload_n 3, 1) := by decide +kernel
theorem d_Policy_mayUse_7 : decode b_Policy_mayUse 7 = .ok (.bipush 9, 2) := by decide +kernel
theorem d_Policy_mayUse_9 : decode b_Policy_mayUse 9 = .ok (.if_icmp .eq 11, 3) := by decide +kernel
theorem d_Policy_mayUse_12 : decode b_Policy_mayUse 12 = .ok (.iload_n 3, 1) := by decide +kernel
theorem d_Policy_mayUse_13 : decode b_Policy_mayUse 13 = .ok (.bipush 10, 2) := by decide +kernel
theorem d_Policy_mayUse_15 : decode b_Policy_mayUse 15 = .ok (.if_icmp .eq 5, 3) := by decide +kernel
theorem d_Policy_mayUse_18 : decode b_Policy_mayUse 18 = .ok (.iconst 1, 1) := by decide +kernel
theorem d_Policy_mayUse_19 : decode b_Policy_mayUse 19 = .ok (.ireturn, 1) := by decide +kernel
theorem d_Policy_mayUse_20 : decode b_Policy_mayUse 20 = .ok (.aload_n 1, 1) := by decide +kernel
theorem d_Policy_mayUse_21 : decode b_Policy_mayUse 21 = .ok (.aload_n 1, 1) := by decide +kernel
theorem d_Policy_mayUse_22 : decode b_Policy_mayUse 22 = .ok (.iload_n 2, 1) := by decide +kernel
theorem d_Policy_mayUse_23 : decode b_Policy_mayUse 23 = .ok (.invokevirtual 42, 3) := by decide +kernel
theorem d_Policy_mayUse_26 : decode b_Policy_mayUse 26 = .ok (.invokevirtual 42, 3) := by decide +kernel
theorem d_Policy_mayUse_29 : decode b_Policy_mayUse 29 = .ok (.istore 4, 2) := by decide +kernel
theorem d_Policy_mayUse_31 : decode b_Policy_mayUse 31 = .ok (.aload_n 1, 1) := by decide +kernel
theorem d_Policy_mayUse_32 : decode b_Policy_mayUse 32 = .ok (.iload 4, 2) := by decide +kernel
theorem d_Policy_mayUse_34 : decode b_Policy_mayUse 34 = .ok (.aload_n 1, 1) := by decide +kernel
theorem d_Policy_mayUse_35 : decode b_Policy_mayUse 35 = .ok (.aload_n 1, 1) := by decide +kernel
theorem d_Policy_mayUse_36 : decode b_Policy_mayUse 36 = .ok (.getfield 66, 3) := by decide +kernel
theorem d_Policy_mayUse_39 : decode b_Policy_mayUse 39 = .ok (.invokevirtual 69, 3) := by decide +kernel
theorem d_Policy_mayUse_42 : decode b_Policy_mayUse 42 = .ok (.invokevirtual 96, 3) := by decide +kernel
theorem d_Policy_mayUse_45 : decode b_Policy_mayUse 45 = .ok (.ifCond .ne 14, 3) := by decide +kernel
theorem d_Policy_mayUse_48 : decode b_Policy_mayUse 48 = .ok (.aload_n 0, 1) := by decide +kernel
theorem d_Policy_mayUse_49 : decode b_Policy_mayUse 49 = .ok (.iconst 1, 1) := by decide +kernel
theorem d_Policy_mayUse_50 : decode b_Policy_mayUse 50 = .ok (.aload_n 1, 1) := by decide +kernel
theorem d_Policy_mayUse_51 : decode b_Policy_mayUse 51 = .ok (.iload 4, 2) := by decide +kernel
theorem d_Policy_mayUse_53 : decode b_Policy_mayUse 53 = .ok (.invokevirtual 72, 3) := by decide +kernel
theorem d_Policy_mayUse_56 : decode b_Policy_mayUse 56 = .ok (.ifCond .eq 7, 3) := by decide +kernel
theorem d_Policy_mayUse_59 : decode b_Policy_mayUse 59 = .ok (.iconst 1, 1) := by decide +kernel
theorem d_Policy_mayUse_60 : decode b_Policy_mayUse 60 = .ok (.goto 4, 3) := by decide +kernel
theorem d_Policy_mayUse_63 : decode b_Policy_mayUse 63 = .ok (.iconst 0, 1) := by decide +kernel
theorem d_Policy_mayUse_64 : decode b_Policy_mayUse 64 = .ok (.ireturn, 1) := by decide +kernel
