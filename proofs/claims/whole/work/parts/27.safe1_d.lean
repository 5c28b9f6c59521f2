theorem d_Grammar_behindNames_0 : decode b_Grammar_behindNames 0 = .ok (.iload_n 1, 1) := by decide +kernel
theorem d_Grammar_behindNames_1 : decode b_Grammar_behindNames 1 = .ok (.istore_n 3, 1) := by decide +kernel
theorem d_Grammar_behindNames_2 : decode b_Grammar_behindNames 2 = .ok (.iload_n 1, 1) := by decide +kernel
theorem d_Grammar_behindNames_3 : decode b_Grammar_behindNames 3 = .ok (.istore 4, 2) := by decide +kernel
theorem d_Grammar_behindNames_5 : decode b_Grammar_behindNames 5 = .ok (.iload 4, 2) := by decide +kernel
theorem d_Grammar_behindNames_7 : decode b_Grammar_behindNames 7 = .ok (.iload_n 2, 1) := by decide +kernel
theorem d_Grammar_behindNames_8 : decode b_Grammar_behindNames 8 = .ok (.if_icmp .ge 49, 3) := by decide +kernel
theorem d_Grammar_behindNames_11 : decode b_Grammar_behindNames 11 = .ok (.aload_n 0, 1) := by decide +kernel
theorem d_Grammar_behindNames_12 : decode b_Grammar_behindNames 12 = .ok (.iload 4, 2) := by decide +kernel
theorem d_Grammar_behindNames_14 : decode b_Grammar_behindNames 14 = .ok (.invokevirtual 9, 3) := by decide +kernel
theorem d_Grammar_behindNames_17 : decode b_Grammar_behindNames 17 = .ok (.istore 5, 2) := by decide +kernel
theorem d_Grammar_behindNames_19 : decode b_Grammar_behindNames 19 = .ok (.iload 5, 2) := by decide +kernel
theorem d_Grammar_behindNames_21 : decode b_Grammar_behindNames 21 = .ok (.bipush 47, 2) := by decide +kernel
theorem d_Grammar_behindNames_23 : decode b_Grammar_behindNames 23 = .ok (.if_icmp .ne 17, 3) := by decide +kernel
theorem d_Grammar_behindNames_26 : decode b_Grammar_behindNames 26 = .ok (.iload 4, 2) := by decide +kernel
theorem d_Grammar_behindNames_28 : decode b_Grammar_behindNames 28 = .ok (.iload_n 3, 1) := by decide +kernel
theorem d_Grammar_behindNames_29 : decode b_Grammar_behindNames 29 = .ok (.if_icmp .le 11, 3) := by decide +kernel
theorem d_Grammar_behindNames_32 : decode b_Grammar_behindNames 32 = .ok (.iload 4, 2) := by decide +kernel
theorem d_Grammar_behindNames_34 : decode b_Grammar_behindNames 34 = .ok (.iconst 1, 1) := by decide +kernel
theorem d_Grammar_behindNames_35 : decode b_Grammar_behindNames 35 = .ok (.iadd, 1) := by decide +kernel
theorem d_Grammar_behindNames_36 : decode b_Grammar_behindNames 36 = .ok (.istore_n 3, 1) := by decide +kernel
theorem d_Grammar_behindNames_37 : decode b_Grammar_behindNames 37 = .ok (.goto 14, 3) := by decide +kernel
theorem d_Grammar_behindNames_40 : decode b_Grammar_behindNames 40 = .ok (.iload 5, 2) := by decide +kernel
theorem d_Grammar_behindNames_42 : decode b_Grammar_behindNames 42 = .ok (.invokestatic 15, 3) := by decide +kernel
theorem d_Grammar_behindNames_45 : decode b_Grammar_behindNames 45 = .ok (.ifCond .ne 6, 3) := by decide +kernel
theorem d_Grammar_behindNames_48 : decode b_Grammar_behindNames 48 = .ok (.goto 9, 3) := by decide +kernel
theorem d_Grammar_behindNames_51 : decode b_Grammar_behindNames 51 = .ok (.iinc 4 1, 3) := by decide +kernel
theorem d_Grammar_behindNames_54 : decode b_Grammar_behindNames 54 = .ok (.goto (-49), 3) := by decide +kernel
theorem d_Grammar_behindNames_57 : decode b_Grammar_behindNames 57 = .ok (.iload 4, 2) := by decide +kernel
theorem d_Grammar_behindNames_59 : decode b_Grammar_behindNames 59 = .ok (.iload_n 3, 1) := by decide +kernel
theorem d_Grammar_behindNames_60 : decode b_Grammar_behindNames 60 = .ok (.if_icmp .le 8, 3) := by decide +kernel
theorem d_Grammar_behindNames_63 : decode b_Grammar_behindNames 63 = .ok (.iload 4, 2) := by decide +kernel
theorem d_Grammar_behindNames_65 : decode b_Grammar_behindNames 65 = .ok (.goto 4, 3) := by decide +kernel
theorem d_Grammar_behindNames_68 : decode b_Grammar_behindNames 68 = .ok (.iconst (-1), 1) := by decide +kernel
theorem d_Grammar_behindNames_69 : decode b_Grammar_behindNames 69 = .ok (.ireturn, 1) := by decide +kernel
theorem d_Grammar_behindType_0 : decode b_Grammar_behindType 0 = .ok (.iload_n 1, 1) := by decide +kernel
theorem d_Grammar_behindType_1 : decode b_Grammar_behindType 1 = .ok (.istore_n 3, 1) := by decide +kernel
theorem d_Grammar_behindType_2 : decode b_Grammar_behindType 2 = .ok (.iload_n 3, 1) := by decide +kernel
theorem d_Grammar_behindType_3 : decode b_Grammar_behindType 3 = .ok (.iload_n 2, 1) := by decide +kernel
theorem d_Grammar_behindType_4 : decode b_Grammar_behindType 4 = .ok (.if_icmp .ge 19, 3) := by decide +kernel
theorem d_Grammar_behindType_7 : decode b_Grammar_behindType 7 = .ok (.aload_n 0, 1) := by decide +kernel
theorem d_Grammar_behindType_8 : decode b_Grammar_behindType 8 = .ok (.iload_n 3, 1) := by decide +kernel
theorem d_Grammar_behindType_9 : decode b_Grammar_behindType 9 = .ok (.invokevirtual 9, 3) := by decide +kernel
theorem d_Grammar_behindType_12 : decode b_Grammar_behindType 12 = .ok (.bipush 91, 2) := by decide +kernel
theorem d_Grammar_behindType_14 : decode b_Grammar_behindType 14 = .ok (.if_icmp .ne 9, 3) := by decide +kernel
theorem d_Grammar_behindType_17 : decode b_Grammar_behindType 17 = .ok (.iinc 3 1, 3) := by decide +kernel
theorem d_Grammar_behindType_20 : decode b_Grammar_behindType 20 = .ok (.goto (-18), 3) := by decide +kernel
theorem d_Grammar_behindType_23 : decode b_Grammar_behindType 23 = .ok (.iload_n 3, 1) := by decide +kernel
theorem d_Grammar_behindType_24 : decode b_Grammar_behindType 24 = .ok (.iload_n 2, 1) := by decide +kernel
theorem d_Grammar_behindType_25 : decode b_Grammar_behindType 25 = .ok (.if_icmp .lt 5, 3) := by decide +kernel
theorem d_Grammar_behindType_28 : decode b_Grammar_behindType 28 = .ok (.iconst (-1), 1) := by decide +kernel
theorem d_Grammar_behindType_29 : decode b_Grammar_behindType 29 = .ok (.ireturn, 1) := by decide +kernel
theorem d_Grammar_behindType_30 : decode b_Grammar_behindType 30 = .ok (.aload_n 0, 1) := by decide +kernel
theorem d_Grammar_behindType_31 : decode b_Grammar_behindType 31 = .ok (.iload_n 3, 1) := by decide +kernel
theorem d_Grammar_behindType_32 : decode b_Grammar_behindType 32 = .ok (.invokevirtual 9, 3) := by decide +kernel
theorem d_Grammar_behindType_35 : decode b_Grammar_behindType 35 = .ok (.istore 4, 2) := by decide +kernel
theorem d_Grammar_behindType_37 : decode b_Grammar_behindType 37 = .ok (.iload 4, 2) := by decide +kernel
theorem d_Grammar_behindType_39 : decode b_Grammar_behindType 39 = .ok (.bipush 76, 2) := by decide +kernel
theorem d_Grammar_behindType_41 : decode b_Grammar_behindType 41 = .ok (.if_icmp .ne 57, 3) := by decide +kernel
theorem d_Grammar_behindType_44 : decode b_Grammar_behindType 44 = .ok (.aload_n 0, 1) := by decide +kernel
theorem d_Grammar_behindType_45 : decode b_Grammar_behindType 45 = .ok (.iload_n 3, 1) := by decide +kernel
theorem d_Grammar_behindType_46 : decode b_Grammar_behindType 46 = .ok (.iconst 1, 1) := by decide +kernel
theorem d_Grammar_behindType_47 : decode b_Grammar_behindType 47 = .ok (.iadd, 1) := by decide +kernel
theorem d_Grammar_behindType_48 : decode b_Grammar_behindType 48 = .ok (.iload_n 2, 1) := by decide +kernel
theorem d_Grammar_behindType_49 : decode b_Grammar_behindType 49 = .ok (.invokestatic 21, 3) := by decide +kernel
theorem d_Grammar_behindType_52 : decode b_Grammar_behindType 52 = .ok (.istore 5, 2) := by decide +kernel
theorem d_Grammar_behindType_54 : decode b_Grammar_behindType 54 = .ok (.iload 5, 2) := by decide +kernel
theorem d_Grammar_behindType_56 : decode b_Grammar_behindType 56 = .ok (.iconst (-1), 1) := by decide +kernel
theorem d_Grammar_behindType_57 : decode b_Grammar_behindType 57 = .ok (.if_icmp .eq 24, 3) := by decide +kernel
theorem d_Grammar_behindType_60 : decode b_Grammar_behindType 60 = .ok (.iload 5, 2) := by decide +kernel
theorem d_Grammar_behindType_62 : decode b_Grammar_behindType 62 = .ok (.iload_n 2, 1) := by decide +kernel
theorem d_Grammar_behindType_63 : decode b_Grammar_behindType 63 = .ok (.if_icmp .ge 18, 3) := by decide +kernel
theorem d_Grammar_behindType_66 : decode b_Grammar_behindType 66 = .ok (.aload_n 0, 1) := by decide +kernel
theorem d_Grammar_behindType_67 : decode b_Grammar_behindType 67 = .ok (.iload 5, 2) := by decide +kernel
theorem d_Grammar_behindType_69 : decode b_Grammar_behindType 69 = .ok (.invokevirtual 9, 3) := by decide +kernel
theorem d_Grammar_behindType_72 : decode b_Grammar_behindType 72 = .ok (.bipush 59, 2) := by decide +kernel
theorem d_Grammar_behindType_74 : decode b_Grammar_behindType 74 = .ok (.if_icmp .ne 7, 3) := by decide +kernel
theorem d_Grammar_behindType_77 : decode b_Grammar_behindType 77 = .ok (.iconst 1, 1) := by decide +kernel
theorem d_Grammar_behindType_78 : decode b_Grammar_behindType 78 = .ok (.goto 4, 3) := by decide +kernel
theorem d_Grammar_behindType_81 : decode b_Grammar_behindType 81 = .ok (.iconst 0, 1) := by decide +kernel
theorem d_Grammar_behindType_82 : decode b_Grammar_behindType 82 = .ok (.istore 6, 2) := by decide +kernel
theorem d_Grammar_behindType_84 : decode b_Grammar_behindType 84 = .ok (.iload 6, 2) := by decide +kernel
theorem d_Grammar_behindType_86 : decode b_Grammar_behindType 86 = .ok (.ifCond .eq 10, 3) := by decide +kernel
theorem d_Grammar_behindType_89 : decode b_Grammar_behindType 89 = .ok (.iload 5, 2) := by decide +kernel
theorem d_Grammar_behindType_91 : decode b_Grammar_behindType 91 = .ok (.iconst 1, 1) := by decide +kernel
theorem d_Grammar_behindType_92 : decode b_Grammar_behindType 92 = .ok (.iadd, 1) := by decide +kernel
theorem d_Grammar_behindType_93 : decode b_Grammar_behindType 93 = .ok (.goto 4, 3) := by decide +kernel
theorem d_Grammar_behindType_96 : decode b_Grammar_behindType 96 = .ok (.iconst (-1), 1) := by decide +kernel
theorem d_Grammar_behindType_97 : decode b_Grammar_behindType 97 = .ok (.ireturn, 1) := by decide +kernel
theorem d_Grammar_behindType_98 : decode b_Grammar_behindType 98 = .ok (.iload 4, 2) := by decide +kernel
theorem d_Grammar_behindType_100 : decode b_Grammar_behindType 100 = .ok (.bipush 68, 2) := by decide +kernel
theorem d_Grammar_behindType_102 : decode b_Grammar_behindType 102 = .ok (.if_icmp .eq 26, 3) := by decide +kernel
theorem d_Grammar_behindType_105 : decode b_Grammar_behindType 105 = .ok (.iload 4, 2) := by decide +kernel
theorem d_Grammar_behindType_107 : decode b_Grammar_behindType 107 = .ok (.bipush 70, 2) := by decide +kernel
theorem d_Grammar_behindType_109 : decode b_Grammar_behindType 109 = .ok (.if_icmp .eq 19, 3) := by decide +kernel
theorem d_Grammar_behindType_112 : decode b_Grammar_behindType 112 = .ok (.iload 4, 2) := by decide +kernel
theorem d_Grammar_behindType_114 : decode b_Grammar_behindType 114 = .ok (.invokestatic 25, 3) := by decide +kernel
theorem d_Grammar_behindType_117 : decode b_Grammar_behindType 117 = .ok (.iconst 1, 1) := by decide +kernel
theorem d_Grammar_behindType_118 : decode b_Grammar_behindType 118 = .ok (.if_icmp .eq 10, 3) := by decide +kernel
theorem d_Grammar_behindType_121 : decode b_Grammar_behindType 121 = .ok (.iload 4, 2) := by decide +kernel
theorem d_Grammar_behindType_123 : decode b_Grammar_behindType 123 = .ok (.bipush 74, 2) := by decide +kernel
theorem d_Grammar_behindType_125 : decode b_Grammar_behindType 125 = .ok (.if_icmp .ne 9, 3) := by decide +kernel
theorem d_Grammar_behindType_128 : decode b_Grammar_behindType 128 = .ok (.iload_n 3, 1) := by decide +kernel
theorem d_Grammar_behindType_129 : decode b_Grammar_behindType 129 = .ok (.iconst 1, 1) := by decide +kernel
theorem d_Grammar_behindType_130 : decode b_Grammar_behindType 130 = .ok (.iadd, 1) := by decide +kernel
theorem d_Grammar_behindType_131 : decode b_Grammar_behindType 131 = .ok (.goto 4, 3) := by decide +kernel
theorem d_Grammar_behindType_134 : decode b_Grammar_behindType 134 = .ok (.iconst (-1), 1) := by decide +kernel
theorem d_Grammar_behindType_135 : decode b_Grammar_behindType 135 = .ok (.ireturn, 1) := by decide +kernel
theorem d_Grammar_isMethodType_0 : decode b_Grammar_isMethodType 0 = .ok (.aload_n 0, 1) := by decide +kernel
theorem d_Grammar_isMethodType_1 : decode b_Grammar_isMethodType 1 = .ok (.getfield 33, 3) := by decide +kernel
theorem d_Grammar_isMethodType_4 : decode b_Grammar_isMethodType 4 = .ok (.astore_n 2, 1) := by decide +kernel
theorem d_Grammar_isMethodType_5 : decode b_Grammar_isMethodType 5 = .ok (.aload_n 0, 1) := by decide +kernel
theorem d_Grammar_isMethodType_6 : decode b_Grammar_isMethodType 6 = .ok (.iload_n 1, 1) := by decide +kernel
theorem d_Grammar_isMethodType_7 : decode b_Grammar_isMethodType 7 = .ok (.invokevirtual 28, 3) := by decide +kernel
theorem d_Grammar_isMethodType_10 : decode b_Grammar_isMethodType 10 = .ok (.istore_n 3, 1) := by decide +kernel
theorem d_Grammar_isMethodType_11 : decode b_Grammar_isMethodType 11 = .ok (.aload_n 0, 1) := by decide +kernel
theorem d_Grammar_isMethodType_12 : decode b_Grammar_isMethodType 12 = .ok (.iload_n 1, 1) := by decide +kernel
theorem d_Grammar_isMethodType_13 : decode b_Grammar_isMethodType 13 = .ok (.invokevirtual 37, 3) := by decide +kernel
theorem d_Grammar_isMethodType_16 : decode b_Grammar_isMethodType 16 = .ok (.istore 4, 2) := by decide +kernel
theorem d_Grammar_isMethodType_18 : decode b_Grammar_isMethodType 18 = .ok (.iload 4, 2) := by decide +kernel
theorem d_Grammar_isMethodType_20 : decode b_Grammar_isMethodType 20 = .ok (.iload_n 3, 1) := by decide +kernel
theorem d_Grammar_isMethodType_21 : decode b_Grammar_isMethodType 21 = .ok (.if_icmp .ge 14, 3) := by decide +kernel
theorem d_Grammar_isMethodType_24 : decode b_Grammar_isMethodType 24 = .ok (.aload_n 2, 1) := by decide +kernel
theorem d_Grammar_isMethodType_25 : decode b_Grammar_isMethodType 25 = .ok (.iload 4, 2) := by decide +kernel
theorem d_Grammar_isMethodType_27 : decode b_Grammar_isMethodType 27 = .ok (.invokevirtual 9, 3) := by decide +kernel
theorem d_Grammar_isMethodType_30 : decode b_Grammar_isMethodType 30 = .ok (.bipush 40, 2) := by decide +kernel
theorem d_Grammar_isMethodType_32 : decode b_Grammar_isMethodType 32 = .ok (.if_icmp .eq 5, 3) := by decide +kernel
theorem d_Grammar_isMethodType_35 : decode b_Grammar_isMethodType 35 = .ok (.iconst 0, 1) := by decide +kernel
theorem d_Grammar_isMethodType_36 : decode b_Grammar_isMethodType 36 = .ok (.ireturn, 1) := by decide +kernel
theorem d_Grammar_isMethodType_37 : decode b_Grammar_isMethodType 37 = .ok (.iinc 4 1, 3) := by decide +kernel
theorem d_Grammar_isMethodType_40 : decode b_Grammar_isMethodType 40 = .ok (.iconst 0, 1) := by decide +kernel
theorem d_Grammar_isMethodType_41 : decode b_Grammar_isMethodType 41 = .ok (.istore 5, 2) := by decide +kernel
theorem d_Grammar_isMethodType_43 : decode b_Grammar_isMethodType 43 = .ok (.iload 5, 2) := by decide +kernel
theorem d_Grammar_isMethodType_45 : decode b_Grammar_isMethodType 45 = .ok (.sipush 600, 3) := by decide +kernel
theorem d_Grammar_isMethodType_48 : decode b_Grammar_isMethodType 48 = .ok (.if_icmp .ge 41, 3) := by decide +kernel
theorem d_Grammar_isMethodType_51 : decode b_Grammar_isMethodType 51 = .ok (.iload 4, 2) := by decide +kernel
theorem d_Grammar_isMethodType_53 : decode b_Grammar_isMethodType 53 = .ok (.iconst (-1), 1) := by decide +kernel
theorem d_Grammar_isMethodType_54 : decode b_Grammar_isMethodType 54 = .ok (.if_icmp .eq 35, 3) := by decide +kernel
theorem d_Grammar_isMethodType_57 : decode b_Grammar_isMethodType 57 = .ok (.iload 4, 2) := by decide +kernel
theorem d_Grammar_isMethodType_59 : decode b_Grammar_isMethodType 59 = .ok (.iload_n 3, 1) := by decide +kernel
theorem d_Grammar_isMethodType_60 : decode b_Grammar_isMethodType 60 = .ok (.if_icmp .ge 29, 3) := by decide +kernel
theorem d_Grammar_isMethodType_63 : decode b_Grammar_isMethodType 63 = .ok (.aload_n 2, 1) := by decide +kernel
theorem d_Grammar_isMethodType_64 : decode b_Grammar_isMethodType 64 = .ok (.iload 4, 2) := by decide +kernel
theorem d_Grammar_isMethodType_66 : decode b_Grammar_isMethodType 66 = .ok (.invokevirtual 9, 3) := by decide +kernel
theorem d_Grammar_isMethodType_69 : decode b_Grammar_isMethodType 69 = .ok (.bipush 41, 2) := by decide +kernel
theorem d_Grammar_isMethodType_71 : decode b_Grammar_isMethodType 71 = .ok (.if_icmp .eq 18, 3) := by decide +kernel
theorem d_Grammar_isMethodType_74 : decode b_Grammar_isMethodType 74 = .ok (.aload_n 2, 1) := by decide +kernel
theorem d_Grammar_isMethodType_75 : decode b_Grammar_isMethodType 75 = .ok (.iload 4, 2) := by decide +kernel
theorem d_Grammar_isMethodType_77 : decode b_Grammar_isMethodType 77 = .ok (.iload_n 3, 1) := by decide +kernel
theorem d_Grammar_isMethodType_78 : decode b_Grammar_isMethodType 78 = .ok (.invokestatic 40, 3) := by decide +kernel
theorem d_Grammar_isMethodType_81 : decode b_Grammar_isMethodType 81 = .ok (.istore 4, 2) := by decide +kernel
theorem d_Grammar_isMethodType_83 : decode b_Grammar_isMethodType 83 = .ok (.iinc 5 1, 3) := by decide +kernel
theorem d_Grammar_isMethodType_86 : decode b_Grammar_isMethodType 86 = .ok (.goto (-43), 3) := by decide +kernel
theorem d_Grammar_isMethodType_89 : decode b_Grammar_isMethodType 89 = .ok (.iload 4, 2) := by decide +kernel
theorem d_Grammar_isMethodType_91 : decode b_Grammar_isMethodType 91 = .ok (.iconst (-1), 1) := by decide +kernel
theorem d_Grammar_isMethodType_92 : decode b_Grammar_isMethodType 92 = .ok (.if_icmp .eq 11, 3) := by decide +kernel
theorem d_Grammar_isMethodType_95 : decode b_Grammar_isMethodType 95 = .ok (.iload 4, 2) := by decide +kernel
theorem d_Grammar_isMethodType_97 : decode b_Grammar_isMethodType 97 = .ok (.iconst 1, 1) := by decide +kernel
theorem d_Grammar_isMethodType_98 : decode b_Grammar_isMethodType 98 = .ok (.iadd, 1) := by decide +kernel
theorem d_Grammar_isMethodType_99 : decode b_Grammar_isMethodType 99 = .ok (.iload_n 3, 1) := by decide +kernel
theorem d_Grammar_isMethodType_100 : decode b_Grammar_isMethodType 100 = .ok (.if_icmp .lt 5, 3) := by decide +kernel
theorem d_Grammar_isMethodType_103 : decode b_Grammar_isMethodType 103 = .ok (.iconst 0, 1) := by decide +kernel
theorem d_Grammar_isMethodType_104 : decode b_Grammar_isMethodType 104 = .ok (.ireturn, 1) := by decide +kernel
theorem d_Grammar_isMethodType_105 : decode b_Grammar_isMethodType 105 = .ok (.aload_n 2, 1) := by decide +kernel
theorem d_Grammar_isMethodType_106 : decode b_Grammar_isMethodType 106 = .ok (.iload 4, 2) := by decide +kernel
theorem d_Grammar_isMethodType_108 : decode b_Grammar_isMethodType 108 = .ok (.iconst 1, 1) := by decide +kernel
theorem d_Grammar_isMethodType_109 : decode b_Grammar_isMethodType 109 = .ok (.iadd, 1) := by decide +kernel
theorem d_Grammar_isMethodType_110 : decode b_Grammar_isMethodType 110 = .ok (.invokevirtual 9, 3) := by decide +kernel
theorem d_Grammar_isMethodType_113 : decode b_Grammar_isMethodType 113 = .ok (.bipush 86, 2) := by decide +kernel
theorem d_Grammar_isMethodType_115 : decode b_Grammar_isMethodType 115 = .ok (.if_icmp .ne 15, 3) := by decide +kernel
theorem d_Grammar_isMethodType_118 : decode b_Grammar_isMethodType 118 = .ok (.iload 4, 2) := by decide +kernel
theorem d_Grammar_isMethodType_120 : decode b_Grammar_isMethodType 120 = .ok (.iconst 2, 1) := by decide +kernel
theorem d_Grammar_isMethodType_121 : decode b_Grammar_isMethodType 121 = .ok (.iadd, 1) := by decide +kernel
theorem d_Grammar_isMethodType_122 : decode b_Grammar_isMethodType 122 = .ok (.iload_n 3, 1) := by decide +kernel
theorem d_Grammar_isMethodType_123 : decode b_Grammar_isMethodType 123 = .ok (.if_icmp .ne 7, 3) := by decide +kernel
theorem d_Grammar_isMethodType_126 : decode b_Grammar_isMethodType 126 = .ok (.iconst 1, 1) := by decide +kernel
theorem d_Grammar_isMethodType_127 : decode b_Grammar_isMethodType 127 = .ok (.goto 4, 3) := by decide +kernel
theorem d_Grammar_isMethodType_130 : decode b_Grammar_isMethodType 130 = .ok (.iconst 0, 1) := by decide +kernel
theorem d_Grammar_isMethodType_131 : decode b_Grammar_isMethodType 131 = .ok (.istore 5, 2) := by decide +kernel
theorem d_Grammar_isMethodType_133 : decode b_Grammar_isMethodType 133 = .ok (.iload 5, 2) := by decide +kernel
theorem d_Grammar_isMethodType_135 : decode b_Grammar_isMethodType 135 = .ok (.ifCond .ne 16, 3) := by decide +kernel
theorem d_Grammar_isMethodType_138 : decode b_Grammar_isMethodType 138 = .ok (.aload_n 2, 1) := by decide +kernel
theorem d_Grammar_isMethodType_139 : decode b_Grammar_isMethodType 139 = .ok (.iload 4, 2) := by decide +kernel
theorem d_Grammar_isMethodType_141 : decode b_Grammar_isMethodType 141 = .ok (.iconst 1, 1) := by decide +kernel
theorem d_Grammar_isMethodType_142 : decode b_Grammar_isMethodType 142 = .ok (.iadd, 1) := by decide +kernel
theorem d_Grammar_isMethodType_143 : decode b_Grammar_isMethodType 143 = .ok (.iload_n 3, 1) := by decide +kernel
theorem d_Grammar_isMethodType_144 : decode b_Grammar_isMethodType 144 = .ok (.invokestatic 40, 3) := by decide +kernel
theorem d_Grammar_isMethodType_147 : decode b_Grammar_isMethodType 147 = .ok (.iload_n 3, 1) := by decide +kernel
theorem d_Grammar_isMethodType_148 : decode b_Grammar_isMethodType 148 = .ok (.if_icmp .ne 7, 3) := by decide +kernel
theorem d_Grammar_isMethodType_151 : decode b_Grammar_isMethodType 151 = .ok (.iconst 1, 1) := by decide +kernel
theorem d_Grammar_isMethodType_152 : decode b_Grammar_isMethodType 152 = .ok (.goto 4, 3) := by decide +kernel
theorem d_Grammar_isMethodType_155 : decode b_Grammar_isMethodType 155 = .ok (.iconst 0, 1) := by decide +kernel
theorem d_Grammar_isMethodType_156 : decode b_Grammar_isMethodType 156 = .ok (.ireturn, 1) := by decide +kernel
theorem d_Grammar_isName_0 : decode b_Grammar_isName 0 = .ok (.iload_n 1, 1) := by decide +kernel
theorem d_Grammar_isName_1 : decode b_Grammar_isName 1 = .ok (.istore_n 3, 1) := by decide +kernel
theorem d_Grammar_isName_2 : decode b_Grammar_isName 2 = .ok (.iload_n 3, 1) := by decide +kernel
theorem d_Grammar_isName_3 : decode b_Grammar_isName 3 = .ok (.iload_n 2, 1) := by decide +kernel
theorem d_Grammar_isName_4 : decode b_Grammar_isName 4 = .ok (.if_icmp .ge 22, 3) := by decide +kernel
theorem d_Grammar_isName_7 : decode b_Grammar_isName 7 = .ok (.aload_n 0, 1) := by decide +kernel
theorem d_Grammar_isName_8 : decode b_Grammar_isName 8 = .ok (.iload_n 3, 1) := by decide +kernel
theorem d_Grammar_isName_9 : decode b_Grammar_isName 9 = .ok (.invokevirtual 9, 3) := by decide +kernel
theorem d_Grammar_isName_12 : decode b_Grammar_isName 12 = .ok (.invokestatic 15, 3) := by decide +kernel
theorem d_Grammar_isName_15 : decode b_Grammar_isName 15 = .ok (.ifCond .ne 5, 3) := by decide +kernel
theorem d_Grammar_isName_18 : decode b_Grammar_isName 18 = .ok (.iconst 0, 1) := by decide +kernel
theorem d_Grammar_isName_19 : decode b_Grammar_isName 19 = .ok (.ireturn, 1) := by decide +kernel
theorem d_Grammar_isName_20 : decode b_Grammar_isName 20 = .ok (.iinc 3 1, 3) := by decide +kernel
theorem d_Grammar_isName_23 : decode b_Grammar_isName 23 = .ok (.goto (-21), 3) := by decide +kernel
theorem d_Grammar_isName_26 : decode b_Grammar_isName 26 = .ok (.iload_n 2, 1) := by decide +kernel
theorem d_Grammar_isName_27 : decode b_Grammar_isName 27 = .ok (.iload_n 1, 1) := by decide +kernel
theorem d_Grammar_isName_28 : decode b_Grammar_isName 28 = .ok (.if_icmp .le 7, 3) := by decide +kernel
theorem d_Grammar_isName_31 : decode b_Grammar_isName 31 = .ok (.iconst 1, 1) := by decide +kernel
theorem d_Grammar_isName_32 : decode b_Grammar_isName 32 = .ok (.goto 4, 3) := by decide +kernel
theorem d_Grammar_isName_35 : decode b_Grammar_isName 35 = .ok (.iconst 0, 1) := by decide +kernel
theorem d_Grammar_isName_36 : decode b_Grammar_isName 36 = .ok (.ireturn, 1) := by decide +kernel
theorem d_Grammar_isNameLetter_0 : decode b_Grammar_isNameLetter 0 = .ok (.iload_n 0, 1) := by decide +kernel
theorem d_Grammar_isNameLetter_1 : decode b_Grammar_isNameLetter 1 = .ok (.lookupswitch 61 #[(46, 59), (47, 59), (59, 59), (60, 59), (62, 59), (91, 59)], 59) := by decide +kernel
theorem d_Grammar_isNameLetter_60 : decode b_Grammar_isNameLetter 60 = .ok (.iconst 0, 1) := by decide +kernel
theorem d_Grammar_isNameLetter_61 : decode b_Grammar_isNameLetter 61 = .ok (.ireturn, 1) := by decide +kernel
theorem d_Grammar_isNameLetter_62 : decode b_Grammar_isNameLetter 62 = .ok (.iload_n 0, 1) := by decide +kernel
theorem d_Grammar_isNameLetter_63 : decode b_Grammar_isNameLetter 63 = .ok (.bipush 32, 2) := by decide +kernel
theorem d_Grammar_isNameLetter_65 : decode b_Grammar_isNameLetter 65 = .ok (.if_icmp .le 7, 3) := by decide +kernel
theorem d_Grammar_isNameLetter_68 : decode b_Grammar_isNameLetter 68 = .ok (.iconst 1, 1) := by decide +kernel
theorem d_Grammar_isNameLetter_69 : decode b_Grammar_isNameLetter 69 = .ok (.goto 4, 3) := by decide +kernel
theorem d_Grammar_isNameLetter_72 : decode b_Grammar_isNameLetter 72 = .ok (.iconst 0, 1) := by decide +kernel
theorem d_Grammar_isNameLetter_73 : decode b_Grammar_isNameLetter 73 = .ok (.ireturn, 1) := by decide +kernel
theorem d_Grammar_isType_0 : decode b_Grammar_isType 0 = .ok (.aload_n 0, 1) := by decide +kernel
theorem d_Grammar_isType_1 : decode b_Grammar_isType 1 = .ok (.iload_n 1, 1) := by decide +kernel
theorem d_Grammar_isType_2 : decode b_Grammar_isType 2 = .ok (.invokevirtual 28, 3) := by decide +kernel
theorem d_Grammar_isType_5 : decode b_Grammar_isType 5 = .ok (.istore_n 2, 1) := by decide +kernel
theorem d_Grammar_isType_6 : decode b_Grammar_isType 6 = .ok (.aload_n 0, 1) := by decide +kernel
theorem d_Grammar_isType_7 : decode b_Grammar_isType 7 = .ok (.getfield 33, 3) := by decide +kernel
theorem d_Grammar_isType_10 : decode b_Grammar_isType 10 = .ok (.aload_n 0, 1) := by decide +kernel
theorem d_Grammar_isType_11 : decode b_Grammar_isType 11 = .ok (.iload_n 1, 1) := by decide +kernel
theorem d_Grammar_isType_12 : decode b_Grammar_isType 12 = .ok (.invokevirtual 37, 3) := by decide +kernel
theorem d_Grammar_isType_15 : decode b_Grammar_isType 15 = .ok (.iload_n 2, 1) := by decide +kernel
theorem d_Grammar_isType_16 : decode b_Grammar_isType 16 = .ok (.invokestatic 40, 3) := by decide +kernel
theorem d_Grammar_isType_19 : decode b_Grammar_isType 19 = .ok (.iload_n 2, 1) := by decide +kernel
theorem d_Grammar_isType_20 : decode b_Grammar_isType 20 = .ok (.if_icmp .ne 7, 3) := by decide +kernel
theorem d_Grammar_isType_23 : decode b_Grammar_isType 23 = .ok (.iconst 1, 1) := by decide +kernel
theorem d_Grammar_isType_24 : decode b_Grammar_isType 24 = .ok (.goto 4, 3) := by decide +kernel
theorem d_Grammar_isType_27 : decode b_Grammar_isType 27 = .ok (.iconst 0, 1) := by decide +kernel
theorem d_Grammar_isType_28 : decode b_Grammar_isType 28 = .ok (.ireturn, 1) := by decide +kernel
theorem d_Grammar_kindOf_0 : decode b_Grammar_kindOf 0 = .ok (.iload_n 0, 1) := by decide +kernel
theorem d_Grammar_kindOf_1 : decode b_Grammar_kindOf 1 = .ok (.tableswitch 125 66 91 #[119, 119, 125, 125, 125, 125, 125, 119, 121, 125, 123, 125, 125, 125, 125, 125, 125, 119, 125, 125, 125, 125, 125, 125, 119, 123], 119) := by decide +kernel
theorem d_Grammar_kindOf_120 : decode b_Grammar_kindOf 120 = .ok (.iconst 1, 1) := by decide +kernel
theorem d_Grammar_kindOf_121 : decode b_Grammar_kindOf 121 = .ok (.ireturn, 1) := by decide +kernel
theorem d_Grammar_kindOf_122 : decode b_Grammar_kindOf 122 = .ok (.iconst 2, 1) := by decide +kernel
theorem d_Grammar_kindOf_123 : decode b_Grammar_kindOf 123 = .ok (.ireturn, 1) := by decide +kernel
theorem d_Grammar_kindOf_124 : decode b_Grammar_kindOf 124 = .ok (.iconst 4, 1) := by decide +kernel
theorem d_Grammar_kindOf_125 : decode b_Grammar_kindOf 125 = .ok (.ireturn, 1) := by decide +kernel
theorem d_Grammar_kindOf_126 : decode b_Grammar_kindOf 126 = .ok (.iconst 0, 1) := by decide +kernel
theorem d_Grammar_kindOf_127 : decode b_Grammar_kindOf 127 = .ok (.ireturn, 1) := by decide +kernel
theorem d_Image_fourAt_0 : decode b_Image_fourAt 0 = .ok (.aload_n 0, 1) := by decide +kernel
theorem d_Image_fourAt_1 : decode b_Image_fourAt 1 = .ok (.iload_n 1, 1) := by decide +kernel
theorem d_Image_fourAt_2 : decode b_Image_fourAt 2 = .ok (.invokevirtual 25, 3) := by decide +kernel
theorem d_Image_fourAt_5 : decode b_Image_fourAt 5 = .ok (.bipush 8, 2) := by decide +kernel
theorem d_Image_fourAt_7 : decode b_Image_fourAt 7 = .ok (.ishl, 1) := by decide +kernel
theorem d_Image_fourAt_8 : decode b_Image_fourAt 8 = .ok (.aload_n 0, 1) := by decide +kernel
theorem d_Image_fourAt_9 : decode b_Image_fourAt 9 = .ok (.iload_n 1, 1) := by decide +kernel
theorem d_Image_fourAt_10 : decode b_Image_fourAt 10 = .ok (.iconst 1, 1) := by decide +kernel
theorem d_Image_fourAt_11 : decode b_Image_fourAt 11 = .ok (.iadd, 1) := by decide +kernel
theorem d_Image_fourAt_12 : decode b_Image_fourAt 12 = .ok (.invokevirtual 25, 3) := by decide +kernel
theorem d_Image_fourAt_15 : decode b_Image_fourAt 15 = .ok (.ior, 1) := by decide +kernel
theorem d_Image_fourAt_16 : decode b_Image_fourAt 16 = .ok (.istore_n 2, 1) := by decide +kernel
theorem d_Image_fourAt_17 : decode b_Image_fourAt 17 = .ok (.aload_n 0, 1) := by decide +kernel
theorem d_Image_fourAt_18 : decode b_Image_fourAt 18 = .ok (.iload_n 1, 1) := by decide +kernel
theorem d_Image_fourAt_19 : decode b_Image_fourAt 19 = .ok (.iconst 2, 1) := by decide +kernel
theorem d_Image_fourAt_20 : decode b_Image_fourAt 20 = .ok (.iadd, 1) := by decide +kernel
theorem d_Image_fourAt_21 : decode b_Image_fourAt 21 = .ok (.invokevirtual 25, 3) := by decide +kernel
theorem d_Image_fourAt_24 : decode b_Image_fourAt 24 = .ok (.bipush 8, 2) := by decide +kernel
theorem d_Image_fourAt_26 : decode b_Image_fourAt 26 = .ok (.ishl, 1) := by decide +kernel
theorem d_Image_fourAt_27 : decode b_Image_fourAt 27 = .ok (.aload_n 0, 1) := by decide +kernel
theorem d_Image_fourAt_28 : decode b_Image_fourAt 28 = .ok (.iload_n 1, 1) := by decide +kernel
theorem d_Image_fourAt_29 : decode b_Image_fourAt 29 = .ok (.iconst 3, 1) := by decide +kernel
theorem d_Image_fourAt_30 : decode b_Image_fourAt 30 = .ok (.iadd, 1) := by decide +kernel
theorem d_Image_fourAt_31 : decode b_Image_fourAt 31 = .ok (.invokevirtual 25, 3) := by decide +kernel
theorem d_Image_fourAt_34 : decode b_Image_fourAt 34 = .ok (.ior, 1) := by decide +kernel
theorem d_Image_fourAt_35 : decode b_Image_fourAt 35 = .ok (.istore_n 3, 1) := by decide +kernel
theorem d_Image_fourAt_36 : decode b_Image_fourAt 36 = .ok (.iload_n 2, 1) := by decide +kernel
theorem d_Image_fourAt_37 : decode b_Image_fourAt 37 = .ok (.i2l, 1) := by decide +kernel
theorem d_Image_fourAt_38 : decode b_Image_fourAt 38 = .ok (.bipush 16, 2) := by decide +kernel
theorem d_Image_fourAt_40 : decode b_Image_fourAt 40 = .ok (.lshl, 1) := by decide +kernel
theorem d_Image_fourAt_41 : decode b_Image_fourAt 41 = .ok (.iload_n 3, 1) := by decide +kernel
theorem d_Image_fourAt_42 : decode b_Image_fourAt 42 = .ok (.i2l, 1) := by decide +kernel
theorem d_Image_fourAt_43 : decode b_Image_fourAt 43 = .ok (.lor, 1) := by decide +kernel
theorem d_Image_fourAt_44 : decode b_Image_fourAt 44 = .ok (.lreturn, 1) := by decide +kernel
theorem d_Image_twoAt_0 : decode b_Image_twoAt 0 = .ok (.aload_n 0, 1) := by decide +kernel
theorem d_Image_twoAt_1 : decode b_Image_twoAt 1 = .ok (.iload_n 1, 1) := by decide +kernel
theorem d_Image_twoAt_2 : decode b_Image_twoAt 2 = .ok (.invokevirtual 25, 3) := by decide +kernel
theorem d_Image_twoAt_5 : decode b_Image_twoAt 5 = .ok (.bipush 8, 2) := by decide +kernel
theorem d_Image_twoAt_7 : decode b_Image_twoAt 7 = .ok (.ishl, 1) := by decide +kernel
theorem d_Image_twoAt_8 : decode b_Image_twoAt 8 = .ok (.aload_n 0, 1) := by decide +kernel
theorem d_Image_twoAt_9 : decode b_Image_twoAt 9 = .ok (.iload_n 1, 1) := by decide +kernel
theorem d_Image_twoAt_10 : decode b_Image_twoAt 10 = .ok (.iconst 1, 1) := by decide +kernel
theorem d_Image_twoAt_11 : decode b_Image_twoAt 11 = .ok (.iadd, 1) := by decide +kernel
theorem d_Image_twoAt_12 : decode b_Image_twoAt 12 = .ok (.invokevirtual 25, 3) := by decide +kernel
theorem d_Image_twoAt_15 : decode b_Image_twoAt 15 = .ok (.ior, 1) := by decide +kernel
theorem d_Image_twoAt_16 : decode b_Image_twoAt 16 = .ok (.ireturn, 1) := by decide +kernel
theorem d_Layout_classTextAt_0 : decode b_Layout_classTextAt 0 = .ok (.aload_n 0, 1) := by decide +kernel
theorem d_Layout_classTextAt_1 : decode b_Layout_classTextAt 1 = .ok (.aload_n 0, 1) := by decide +kernel
theorem d_Layout_classTextAt_2 : decode b_Layout_classTextAt 2 = .ok (.getfield 12, 3) := by decide +kernel
theorem d_Layout_classTextAt_5 : decode b_Layout_classTextAt 5 = .ok (.iload_n 1, 1) := by decide +kernel
theorem d_Layout_classTextAt_6 : decode b_Layout_classTextAt 6 = .ok (.invokevirtual 73, 3) := by decide +kernel
theorem d_Layout_classTextAt_9 : decode b_Layout_classTextAt 9 = .ok (.invokevirtual 80, 3) := by decide +kernel
theorem d_Layout_classTextAt_12 : decode b_Layout_classTextAt 12 = .ok (.ireturn, 1) := by decide +kernel
theorem d_Layout_codeOf_0 : decode b_Layout_codeOf 0 = .ok (.iload_n 1, 1) := by decide +kernel
theorem d_Layout_codeOf_1 : decode b_Layout_codeOf 1 = .ok (.ifCond .lt 20, 3) := by decide +kernel
theorem d_Layout_codeOf_4 : decode b_Layout_codeOf 4 = .ok (.iload_n 1, 1) := by decide +kernel
theorem d_Layout_codeOf_5 : decode b_Layout_codeOf 5 = .ok (.aload_n 0, 1) := by decide +kernel
theorem d_Layout_codeOf_6 : decode b_Layout_codeOf 6 = .ok (.getfield 70, 3) := by decide +kernel
theorem d_Layout_codeOf_9 : decode b_Layout_codeOf 9 = .ok (.if_icmp .ge 12, 3) := by decide +kernel
theorem d_Layout_codeOf_12 : decode b_Layout_codeOf 12 = .ok (.aload_n 0, 1) := by decide +kernel
theorem d_Layout_codeOf_13 : decode b_Layout_codeOf 13 = .ok (.getfield 44, 3) := by decide +kernel
theorem d_Layout_codeOf_16 : decode b_Layout_codeOf 16 = .ok (.iload_n 1, 1) := by decide +kernel
theorem d_Layout_codeOf_17 : decode b_Layout_codeOf 17 = .ok (.iaload, 1) := by decide +kernel
theorem d_Layout_codeOf_18 : decode b_Layout_codeOf 18 = .ok (.goto 4, 3) := by decide +kernel
theorem d_Layout_codeOf_21 : decode b_Layout_codeOf 21 = .ok (.iconst 0, 1) := by decide +kernel
theorem d_Layout_codeOf_22 : decode b_Layout_codeOf 22 = .ok (.ireturn, 1) := by decide +kernel
theorem d_Layout_firstOf_0 : decode b_Layout_firstOf 0 = .ok (.iload_n 1, 1) := by decide +kernel
theorem d_Layout_firstOf_1 : decode b_Layout_firstOf 1 = .ok (.ifCond .le 19, 3) := by decide +kernel
theorem d_Layout_firstOf_4 : decode b_Layout_firstOf 4 = .ok (.iload_n 1, 1) := by decide +kernel
theorem d_Layout_firstOf_5 : decode b_Layout_firstOf 5 = .ok (.sipush 200, 3) := by decide +kernel
theorem d_Layout_firstOf_8 : decode b_Layout_firstOf 8 = .ok (.if_icmp .ge 12, 3) := by decide +kernel
theorem d_Layout_firstOf_11 : decode b_Layout_firstOf 11 = .ok (.aload_n 0, 1) := by decide +kernel
theorem d_Layout_firstOf_12 : decode b_Layout_firstOf 12 = .ok (.getfield 32, 3) := by decide +kernel
theorem d_Layout_firstOf_15 : decode b_Layout_firstOf 15 = .ok (.iload_n 1, 1) := by decide +kernel
theorem d_Layout_firstOf_16 : decode b_Layout_firstOf 16 = .ok (.iaload, 1) := by decide +kernel
theorem d_Layout_firstOf_17 : decode b_Layout_firstOf 17 = .ok (.goto 4, 3) := by decide +kernel
theorem d_Layout_firstOf_20 : decode b_Layout_firstOf 20 = .ok (.iconst 0, 1) := by decide +kernel
theorem d_Layout_firstOf_21 : decode b_Layout_firstOf 21 = .ok (.ireturn, 1) := by decide +kernel
theorem d_Layout_instructionAt_0 : decode b_Layout_instructionAt 0 = .ok (.iload_n 2, 1) := by decide +kernel
theorem d_Layout_instructionAt_1 : decode b_Layout_instructionAt 1 = .ok (.ifCond .lt 22, 3) := by decide +kernel
theorem d_Layout_instructionAt_4 : decode b_Layout_instructionAt 4 = .ok (.iload_n 2, 1) := by decide +kernel
theorem d_Layout_instructionAt_5 : decode b_Layout_instructionAt 5 = .ok (.aload_n 0, 1) := by decide +kernel
theorem d_Layout_instructionAt_6 : decode b_Layout_instructionAt 6 = .ok (.iload_n 1, 1) := by decide +kernel
theorem d_Layout_instructionAt_7 : decode b_Layout_instructionAt 7 = .ok (.invokevirtual 93, 3) := by decide +kernel
theorem d_Layout_instructionAt_10 : decode b_Layout_instructionAt 10 = .ok (.if_icmp .ge 13, 3) := by decide +kernel
theorem d_Layout_instructionAt_13 : decode b_Layout_instructionAt 13 = .ok (.aload_n 0, 1) := by decide +kernel
theorem d_Layout_instructionAt_14 : decode b_Layout_instructionAt 14 = .ok (.iload_n 1, 1) := by decide +kernel
theorem d_Layout_instructionAt_15 : decode b_Layout_instructionAt 15 = .ok (.invokevirtual 96, 3) := by decide +kernel
theorem d_Layout_instructionAt_18 : decode b_Layout_instructionAt 18 = .ok (.iload_n 2, 1) := by decide +kernel
theorem d_Layout_instructionAt_19 : decode b_Layout_instructionAt 19 = .ok (.iadd, 1) := by decide +kernel
theorem d_Layout_instructionAt_20 : decode b_Layout_instructionAt 20 = .ok (.goto 4, 3) := by decide +kernel
theorem d_Layout_instructionAt_23 : decode b_Layout_instructionAt 23 = .ok (.iconst (-1), 1) := by decide +kernel
theorem d_Layout_instructionAt_24 : decode b_Layout_instructionAt 24 = .ok (.ireturn, 1) := by decide +kernel
theorem d_Layout_instructionBytes_0 : decode b_Layout_instructionBytes 0 = .ok (.iconst 0, 1) := by decide +kernel
theorem d_Layout_instructionBytes_1 : decode b_Layout_instructionBytes 1 = .ok (.istore_n 1, 1) := by decide +kernel
theorem d_Layout_instructionBytes_2 : decode b_Layout_instructionBytes 2 = .ok (.iconst 0, 1) := by decide +kernel
theorem d_Layout_instructionBytes_3 : decode b_Layout_instructionBytes 3 = .ok (.istore_n 2, 1) := by decide +kernel
theorem d_Layout_instructionBytes_4 : decode b_Layout_instructionBytes 4 = .ok (.iload_n 2, 1) := by decide +kernel
theorem d_Layout_instructionBytes_5 : decode b_Layout_instructionBytes 5 = .ok (.aload_n 0, 1) := by decide +kernel
theorem d_Layout_instructionBytes_6 : decode b_Layout_instructionBytes 6 = .ok (.getfield 70, 3) := by decide +kernel
theorem d_Layout_instructionBytes_9 : decode b_Layout_instructionBytes 9 = .ok (.if_icmp .ge 17, 3) := by decide +kernel
theorem d_Layout_instructionBytes_12 : decode b_Layout_instructionBytes 12 = .ok (.iload_n 1, 1) := by decide +kernel
theorem d_Layout_instructionBytes_13 : decode b_Layout_instructionBytes 13 = .ok (.aload_n 0, 1) := by decide +kernel
theorem d_Layout_instructionBytes_14 : decode b_Layout_instructionBytes 14 = .ok (.iload_n 2, 1) := by decide +kernel
theorem d_Layout_instructionBytes_15 : decode b_Layout_instructionBytes 15 = .ok (.invokevirtual 93, 3) := by decide +kernel
theorem d_Layout_instructionBytes_18 : decode b_Layout_instructionBytes 18 = .ok (.iadd, 1) := by decide +kernel
theorem d_Layout_instructionBytes_19 : decode b_Layout_instructionBytes 19 = .ok (.istore_n 1, 1) := by decide +kernel
theorem d_Layout_instructionBytes_20 : decode b_Layout_instructionBytes 20 = .ok (.iinc 2 1, 3) := by decide +kernel
theorem d_Layout_instructionBytes_23 : decode b_Layout_instructionBytes 23 = .ok (.goto (-19), 3) := by decide +kernel
theorem d_Layout_instructionBytes_26 : decode b_Layout_instructionBytes 26 = .ok (.iload_n 1, 1) := by decide +kernel
theorem d_Layout_instructionBytes_27 : decode b_Layout_instructionBytes 27 = .ok (.ireturn, 1) := by decide +kernel
theorem d_Layout_instructionsAt_0 : decode b_Layout_instructionsAt 0 = .ok (.aload_n 0, 1) := by decide +kernel
theorem d_Layout_instructionsAt_1 : decode b_Layout_instructionsAt 1 = .ok (.iload_n 1, 1) := by decide +kernel
theorem d_Layout_instructionsAt_2 : decode b_Layout_instructionsAt 2 = .ok (.invokevirtual 86, 3) := by decide +kernel
theorem d_Layout_instructionsAt_5 : decode b_Layout_instructionsAt 5 = .ok (.bipush 14, 2) := by decide +kernel
theorem d_Layout_instructionsAt_7 : decode b_Layout_instructionsAt 7 = .ok (.iadd, 1) := by decide +kernel
theorem d_Layout_instructionsAt_8 : decode b_Layout_instructionsAt 8 = .ok (.ireturn, 1) := by decide +kernel
theorem d_Layout_interfaceAt_0 : decode b_Layout_interfaceAt 0 = .ok (.aload_n 0, 1) := by decide +kernel
theorem d_Layout_interfaceAt_1 : decode b_Layout_interfaceAt 1 = .ok (.getfield 83, 3) := by decide +kernel
theorem d_Layout_interfaceAt_4 : decode b_Layout_interfaceAt 4 = .ok (.bipush 6, 2) := by decide +kernel
theorem d_Layout_interfaceAt_6 : decode b_Layout_interfaceAt 6 = .ok (.iadd, 1) := by decide +kernel
theorem d_Layout_interfaceAt_7 : decode b_Layout_interfaceAt 7 = .ok (.iconst 2, 1) := by decide +kernel
theorem d_Layout_interfaceAt_8 : decode b_Layout_interfaceAt 8 = .ok (.iload_n 1, 1) := by decide +kernel
theorem d_Layout_interfaceAt_9 : decode b_Layout_interfaceAt 9 = .ok (.imul, 1) := by decide +kernel
theorem d_Layout_interfaceAt_10 : decode b_Layout_interfaceAt 10 = .ok (.iadd, 1) := by decide +kernel
theorem d_Layout_interfaceAt_11 : decode b_Layout_interfaceAt 11 = .ok (.ireturn, 1) := by decide +kernel
theorem d_Layout_isSame_0 : decode b_Layout_isSame 0 = .ok (.aload_n 0, 1) := by decide +kernel
theorem d_Layout_isSame_1 : decode b_Layout_isSame 1 = .ok (.iload_n 1, 1) := by decide +kernel
theorem d_Layout_isSame_2 : decode b_Layout_isSame 2 = .ok (.invokevirtual 80, 3) := by decide +kernel
theorem d_Layout_isSame_5 : decode b_Layout_isSame 5 = .ok (.istore_n 3, 1) := by decide +kernel
theorem d_Layout_isSame_6 : decode b_Layout_isSame 6 = .ok (.aload_n 0, 1) := by decide +kernel
theorem d_Layout_isSame_7 : decode b_Layout_isSame 7 = .ok (.iload_n 1, 1) := by decide +kernel
theorem d_Layout_isSame_8 : decode b_Layout_isSame 8 = .ok (.invokevirtual 115, 3) := by decide +kernel
theorem d_Layout_isSame_11 : decode b_Layout_isSame 11 = .ok (.istore 4, 2) := by decide +kernel
theorem d_Layout_isSame_13 : decode b_Layout_isSame 13 = .ok (.aload_n 0, 1) := by decide +kernel
theorem d_Layout_isSame_14 : decode b_Layout_isSame 14 = .ok (.iload_n 2, 1) := by decide +kernel
theorem d_Layout_isSame_15 : decode b_Layout_isSame 15 = .ok (.invokevirtual 115, 3) := by decide +kernel
theorem d_Layout_isSame_18 : decode b_Layout_isSame 18 = .ok (.istore 5, 2) := by decide +kernel
theorem d_Layout_isSame_20 : decode b_Layout_isSame 20 = .ok (.iload_n 3, 1) := by decide +kernel
theorem d_Layout_isSame_21 : decode b_Layout_isSame 21 = .ok (.aload_n 0, 1) := by decide +kernel
theorem d_Layout_isSame_22 : decode b_Layout_isSame 22 = .ok (.iload_n 2, 1) := by decide +kernel
theorem d_Layout_isSame_23 : decode b_Layout_isSame 23 = .ok (.invokevirtual 80, 3) := by decide +kernel
theorem d_Layout_isSame_26 : decode b_Layout_isSame 26 = .ok (.if_icmp .eq 5, 3) := by decide +kernel
theorem d_Layout_isSame_29 : decode b_Layout_isSame 29 = .ok (.iconst 0, 1) := by decide +kernel
theorem d_Layout_isSame_30 : decode b_Layout_isSame 30 = .ok (.ireturn, 1) := by decide +kernel
theorem d_Layout_isSame_31 : decode b_Layout_isSame 31 = .ok (.iconst 0, 1) := by decide +kernel
theorem d_Layout_isSame_32 : decode b_Layout_isSame 32 = .ok (.istore 6, 2) := by decide +kernel
theorem d_Layout_isSame_34 : decode b_Layout_isSame 34 = .ok (.iload 6, 2) := by decide +kernel
theorem d_Layout_isSame_36 : decode b_Layout_isSame 36 = .ok (.iload_n 3, 1) := by decide +kernel
theorem d_Layout_isSame_37 : decode b_Layout_isSame 37 = .ok (.if_icmp .ge 38, 3) := by decide +kernel
theorem d_Layout_isSame_40 : decode b_Layout_isSame 40 = .ok (.aload_n 0, 1) := by decide +kernel
theorem d_Layout_isSame_41 : decode b_Layout_isSame 41 = .ok (.getfield 12, 3) := by decide +kernel
theorem d_Layout_isSame_44 : decode b_Layout_isSame 44 = .ok (.iload 4, 2) := by decide +kernel
theorem d_Layout_isSame_46 : decode b_Layout_isSame 46 = .ok (.iload 6, 2) := by decide +kernel
theorem d_Layout_isSame_48 : decode b_Layout_isSame 48 = .ok (.iadd, 1) := by decide +kernel
theorem d_Layout_isSame_49 : decode b_Layout_isSame 49 = .ok (.invokevirtual 118, 3) := by decide +kernel
theorem d_Layout_isSame_52 : decode b_Layout_isSame 52 = .ok (.aload_n 0, 1) := by decide +kernel
theorem d_Layout_isSame_53 : decode b_Layout_isSame 53 = .ok (.getfield 12, 3) := by decide +kernel
theorem d_Layout_isSame_56 : decode b_Layout_isSame 56 = .ok (.iload 5, 2) := by decide +kernel
theorem d_Layout_isSame_58 : decode b_Layout_isSame 58 = .ok (.iload 6, 2) := by decide +kernel
theorem d_Layout_isSame_60 : decode b_Layout_isSame 60 = .ok (.iadd, 1) := by decide +kernel
theorem d_Layout_isSame_61 : decode b_Layout_isSame 61 = .ok (.invokevirtual 118, 3) := by decide +kernel
theorem d_Layout_isSame_64 : decode b_Layout_isSame 64 = .ok (.if_icmp .eq 5, 3) := by decide +kernel
theorem d_Layout_isSame_67 : decode b_Layout_isSame 67 = .ok (.iconst 0, 1) := by decide +kernel
theorem d_Layout_isSame_68 : decode b_Layout_isSame 68 = .ok (.ireturn, 1) := by decide +kernel
theorem d_Layout_isSame_69 : decode b_Layout_isSame 69 = .ok (.iinc 6 1, 3) := by decide +kernel
theorem d_Layout_isSame_72 : decode b_Layout_isSame 72 = .ok (.goto (-38), 3) := by decide +kernel
theorem d_Layout_isSame_75 : decode b_Layout_isSame 75 = .ok (.iconst 1, 1) := by decide +kernel
theorem d_Layout_isSame_76 : decode b_Layout_isSame 76 = .ok (.ireturn, 1) := by decide +kernel
theorem d_Layout_lengthOf_0 : decode b_Layout_lengthOf 0 = .ok (.aload_n 0, 1) := by decide +kernel
theorem d_Layout_lengthOf_1 : decode b_Layout_lengthOf 1 = .ok (.iload_n 1, 1) := by decide +kernel
theorem d_Layout_lengthOf_2 : decode b_Layout_lengthOf 2 = .ok (.invokevirtual 86, 3) := by decide +kernel
theorem d_Layout_lengthOf_5 : decode b_Layout_lengthOf 5 = .ok (.ifCond .ne 7, 3) := by decide +kernel
theorem d_Layout_lengthOf_8 : decode b_Layout_lengthOf 8 = .ok (.iconst 0, 1) := by decide +kernel
theorem d_Layout_lengthOf_9 : decode b_Layout_lengthOf 9 = .ok (.goto 19, 3) := by decide +kernel
theorem d_Layout_lengthOf_12 : decode b_Layout_lengthOf 12 = .ok (.aload_n 0, 1) := by decide +kernel
theorem d_Layout_lengthOf_13 : decode b_Layout_lengthOf 13 = .ok (.getfield 12, 3) := by decide +kernel
theorem d_Layout_lengthOf_16 : decode b_Layout_lengthOf 16 = .ok (.aload_n 0, 1) := by decide +kernel
theorem d_Layout_lengthOf_17 : decode b_Layout_lengthOf 17 = .ok (.iload_n 1, 1) := by decide +kernel
theorem d_Layout_lengthOf_18 : decode b_Layout_lengthOf 18 = .ok (.invokevirtual 86, 3) := by decide +kernel
theorem d_Layout_lengthOf_21 : decode b_Layout_lengthOf 21 = .ok (.bipush 10, 2) := by decide +kernel
theorem d_Layout_lengthOf_23 : decode b_Layout_lengthOf 23 = .ok (.iadd, 1) := by decide +kernel
theorem d_Layout_lengthOf_24 : decode b_Layout_lengthOf 24 = .ok (.invokevirtual 89, 3) := by decide +kernel
theorem d_Layout_lengthOf_27 : decode b_Layout_lengthOf 27 = .ok (.l2i, 1) := by decide +kernel
theorem d_Layout_lengthOf_28 : decode b_Layout_lengthOf 28 = .ok (.ireturn, 1) := by decide +kernel
theorem d_Layout_localsOf_0 : decode b_Layout_localsOf 0 = .ok (.aload_n 0, 1) := by decide +kernel
theorem d_Layout_localsOf_1 : decode b_Layout_localsOf 1 = .ok (.getfield 12, 3) := by decide +kernel
theorem d_Layout_localsOf_4 : decode b_Layout_localsOf 4 = .ok (.aload_n 0, 1) := by decide +kernel
theorem d_Layout_localsOf_5 : decode b_Layout_localsOf 5 = .ok (.iload_n 1, 1) := by decide +kernel
theorem d_Layout_localsOf_6 : decode b_Layout_localsOf 6 = .ok (.invokevirtual 86, 3) := by decide +kernel
theorem d_Layout_localsOf_9 : decode b_Layout_localsOf 9 = .ok (.bipush 8, 2) := by decide +kernel
theorem d_Layout_localsOf_11 : decode b_Layout_localsOf 11 = .ok (.iadd, 1) := by decide +kernel
theorem d_Layout_localsOf_12 : decode b_Layout_localsOf 12 = .ok (.invokevirtual 73, 3) := by decide +kernel
theorem d_Layout_localsOf_15 : decode b_Layout_localsOf 15 = .ok (.ireturn, 1) := by decide +kernel
theorem d_Layout_memberAt_0 : decode b_Layout_memberAt 0 = .ok (.iload_n 2, 1) := by decide +kernel
theorem d_Layout_memberAt_1 : decode b_Layout_memberAt 1 = .ok (.ifCond .lt 22, 3) := by decide +kernel
theorem d_Layout_memberAt_4 : decode b_Layout_memberAt 4 = .ok (.iload_n 2, 1) := by decide +kernel
theorem d_Layout_memberAt_5 : decode b_Layout_memberAt 5 = .ok (.iload_n 1, 1) := by decide +kernel
theorem d_Layout_memberAt_6 : decode b_Layout_memberAt 6 = .ok (.ifCond .eq 10, 3) := by decide +kernel
theorem d_Layout_memberAt_9 : decode b_Layout_memberAt 9 = .ok (.aload_n 0, 1) := by decide +kernel
theorem d_Layout_memberAt_10 : decode b_Layout_memberAt 10 = .ok (.getfield 70, 3) := by decide +kernel
theorem d_Layout_memberAt_13 : decode b_Layout_memberAt 13 = .ok (.goto 7, 3) := by decide +kernel
theorem d_Layout_memberAt_16 : decode b_Layout_memberAt 16 = .ok (.aload_n 0, 1) := by decide +kernel
theorem d_Layout_memberAt_17 : decode b_Layout_memberAt 17 = .ok (.getfield 67, 3) := by decide +kernel
theorem d_Layout_memberAt_20 : decode b_Layout_memberAt 20 = .ok (.if_icmp .lt 5, 3) := by decide +kernel
theorem d_Layout_memberAt_23 : decode b_Layout_memberAt 23 = .ok (.iconst (-1), 1) := by decide +kernel
theorem d_Layout_memberAt_24 : decode b_Layout_memberAt 24 = .ok (.ireturn, 1) := by decide +kernel
theorem d_Layout_memberAt_25 : decode b_Layout_memberAt 25 = .ok (.iload_n 1, 1) := by decide +kernel
theorem d_Layout_memberAt_26 : decode b_Layout_memberAt 26 = .ok (.ifCond .eq 12, 3) := by decide +kernel
theorem d_Layout_memberAt_29 : decode b_Layout_memberAt 29 = .ok (.aload_n 0, 1) := by decide +kernel
theorem d_Layout_memberAt_30 : decode b_Layout_memberAt 30 = .ok (.getfield 41, 3) := by decide +kernel
theorem d_Layout_memberAt_33 : decode b_Layout_memberAt 33 = .ok (.iload_n 2, 1) := by decide +kernel
theorem d_Layout_memberAt_34 : decode b_Layout_memberAt 34 = .ok (.iaload, 1) := by decide +kernel
theorem d_Layout_memberAt_35 : decode b_Layout_memberAt 35 = .ok (.goto 9, 3) := by decide +kernel
theorem d_Layout_memberAt_38 : decode b_Layout_memberAt 38 = .ok (.aload_n 0, 1) := by decide +kernel
theorem d_Layout_memberAt_39 : decode b_Layout_memberAt 39 = .ok (.getfield 38, 3) := by decide +kernel
theorem d_Layout_memberAt_42 : decode b_Layout_memberAt 42 = .ok (.iload_n 2, 1) := by decide +kernel
theorem d_Layout_memberAt_43 : decode b_Layout_memberAt 43 = .ok (.iaload, 1) := by decide +kernel
theorem d_Layout_memberAt_44 : decode b_Layout_memberAt 44 = .ok (.ireturn, 1) := by decide +kernel
theorem d_Layout_nameAt_0 : decode b_Layout_nameAt 0 = .ok (.aload_n 0, 1) := by decide +kernel
theorem d_Layout_nameAt_1 : decode b_Layout_nameAt 1 = .ok (.getfield 12, 3) := by decide +kernel
theorem d_Layout_nameAt_4 : decode b_Layout_nameAt 4 = .ok (.iload_n 1, 1) := by decide +kernel
theorem d_Layout_nameAt_5 : decode b_Layout_nameAt 5 = .ok (.iconst 2, 1) := by decide +kernel
theorem d_Layout_nameAt_6 : decode b_Layout_nameAt 6 = .ok (.iadd, 1) := by decide +kernel
theorem d_Layout_nameAt_7 : decode b_Layout_nameAt 7 = .ok (.invokevirtual 73, 3) := by decide +kernel
theorem d_Layout_nameAt_10 : decode b_Layout_nameAt 10 = .ok (.ireturn, 1) := by decide +kernel
theorem d_Layout_placeOf_0 : decode b_Layout_placeOf 0 = .ok (.iload_n 1, 1) := by decide +kernel
theorem d_Layout_placeOf_1 : decode b_Layout_placeOf 1 = .ok (.ifCond .le 19, 3) := by decide +kernel
theorem d_Layout_placeOf_4 : decode b_Layout_placeOf 4 = .ok (.iload_n 1, 1) := by decide +kernel
theorem d_Layout_placeOf_5 : decode b_Layout_placeOf 5 = .ok (.sipush 200, 3) := by decide +kernel
theorem d_Layout_placeOf_8 : decode b_Layout_placeOf 8 = .ok (.if_icmp .ge 12, 3) := by decide +kernel
theorem d_Layout_placeOf_11 : decode b_Layout_placeOf 11 = .ok (.aload_n 0, 1) := by decide +kernel
theorem d_Layout_placeOf_12 : decode b_Layout_placeOf 12 = .ok (.getfield 29, 3) := by decide +kernel
theorem d_Layout_placeOf_15 : decode b_Layout_placeOf 15 = .ok (.iload_n 1, 1) := by decide +kernel
theorem d_Layout_placeOf_16 : decode b_Layout_placeOf 16 = .ok (.iaload, 1) := by decide +kernel
theorem d_Layout_placeOf_17 : decode b_Layout_placeOf 17 = .ok (.goto 4, 3) := by decide +kernel
theorem d_Layout_placeOf_20 : decode b_Layout_placeOf 20 = .ok (.iconst 0, 1) := by decide +kernel
theorem d_Layout_placeOf_21 : decode b_Layout_placeOf 21 = .ok (.ireturn, 1) := by decide +kernel
theorem d_Layout_secondOf_0 : decode b_Layout_secondOf 0 = .ok (.iload_n 1, 1) := by decide +kernel
theorem d_Layout_secondOf_1 : decode b_Layout_secondOf 1 = .ok (.ifCond .le 19, 3) := by decide +kernel
theorem d_Layout_secondOf_4 : decode b_Layout_secondOf 4 = .ok (.iload_n 1, 1) := by decide +kernel
theorem d_Layout_secondOf_5 : decode b_Layout_secondOf 5 = .ok (.sipush 200, 3) := by decide +kernel
theorem d_Layout_secondOf_8 : decode b_Layout_secondOf 8 = .ok (.if_icmp .ge 12, 3) := by decide +kernel
theorem d_Layout_secondOf_11 : decode b_Layout_secondOf 11 = .ok (.aload_n 0, 1) := by decide +kernel
theorem d_Layout_secondOf_12 : decode b_Layout_secondOf 12 = .ok (.getfield 35, 3) := by decide +kernel
theorem d_Layout_secondOf_15 : decode b_Layout_secondOf 15 = .ok (.iload_n 1, 1) := by decide +kernel
theorem d_Layout_secondOf_16 : decode b_Layout_secondOf 16 = .ok (.iaload, 1) := by decide +kernel
theorem d_Layout_secondOf_17 : decode b_Layout_secondOf 17 = .ok (.goto 4, 3) := by decide +kernel
theorem d_Layout_secondOf_20 : decode b_Layout_secondOf 20 = .ok (.iconst 0, 1) := by decide +kernel
theorem d_Layout_secondOf_21 : decode b_Layout_secondOf 21 = .ok (.ireturn, 1) := by decide +kernel
theorem d_Layout_stackOf_0 : decode b_Layout_stackOf 0 = .ok (.aload_n 0, 1) := by decide +kernel
theorem d_Layout_stackOf_1 : decode b_Layout_stackOf 1 = .ok (.getfield 12, 3) := by decide +kernel
theorem d_Layout_stackOf_4 : decode b_Layout_stackOf 4 = .ok (.aload_n 0, 1) := by decide +kernel
theorem d_Layout_stackOf_5 : decode b_Layout_stackOf 5 = .ok (.iload_n 1, 1) := by decide +kernel
theorem d_Layout_stackOf_6 : decode b_Layout_stackOf 6 = .ok (.invokevirtual 86, 3) := by decide +kernel
theorem d_Layout_stackOf_9 : decode b_Layout_stackOf 9 = .ok (.bipush 6, 2) := by decide +kernel
theorem d_Layout_stackOf_11 : decode b_Layout_stackOf 11 = .ok (.iadd, 1) := by decide +kernel
theorem d_Layout_stackOf_12 : decode b_Layout_stackOf 12 = .ok (.invokevirtual 73, 3) := by decide +kernel
theorem d_Layout_stackOf_15 : decode b_Layout_stackOf 15 = .ok (.ireturn, 1) := by decide +kernel
theorem d_Layout_tagOf_0 : decode b_Layout_tagOf 0 = .ok (.iload_n 1, 1) := by decide +kernel
theorem d_Layout_tagOf_1 : decode b_Layout_tagOf 1 = .ok (.ifCond .le 19, 3) := by decide +kernel
theorem d_Layout_tagOf_4 : decode b_Layout_tagOf 4 = .ok (.iload_n 1, 1) := by decide +kernel
theorem d_Layout_tagOf_5 : decode b_Layout_tagOf 5 = .ok (.sipush 200, 3) := by decide +kernel
theorem d_Layout_tagOf_8 : decode b_Layout_tagOf 8 = .ok (.if_icmp .ge 12, 3) := by decide +kernel
theorem d_Layout_tagOf_11 : decode b_Layout_tagOf 11 = .ok (.aload_n 0, 1) := by decide +kernel
theorem d_Layout_tagOf_12 : decode b_Layout_tagOf 12 = .ok (.getfield 25, 3) := by decide +kernel
theorem d_Layout_tagOf_15 : decode b_Layout_tagOf 15 = .ok (.iload_n 1, 1) := by decide +kernel
theorem d_Layout_tagOf_16 : decode b_Layout_tagOf 16 = .ok (.iaload, 1) := by decide +kernel
theorem d_Layout_tagOf_17 : decode b_Layout_tagOf 17 = .ok (.goto 4, 3) := by decide +kernel
theorem d_Layout_tagOf_20 : decode b_Layout_tagOf 20 = .ok (.iconst 0, 1) := by decide +kernel
theorem d_Layout_tagOf_21 : decode b_Layout_tagOf 21 = .ok (.ireturn, 1) := by decide +kernel
theorem d_Layout_textEnd_0 : decode b_Layout_textEnd 0 = .ok (.aload_n 0, 1) := by decide +kernel
theorem d_Layout_textEnd_1 : decode b_Layout_textEnd 1 = .ok (.iload_n 1, 1) := by decide +kernel
theorem d_Layout_textEnd_2 : decode b_Layout_textEnd 2 = .ok (.invokevirtual 77, 3) := by decide +kernel
theorem d_Layout_textEnd_5 : decode b_Layout_textEnd 5 = .ok (.iconst 3, 1) := by decide +kernel
theorem d_Layout_textEnd_6 : decode b_Layout_textEnd 6 = .ok (.iadd, 1) := by decide +kernel
theorem d_Layout_textEnd_7 : decode b_Layout_textEnd 7 = .ok (.aload_n 0, 1) := by decide +kernel
theorem d_Layout_textEnd_8 : decode b_Layout_textEnd 8 = .ok (.iload_n 1, 1) := by decide +kernel
theorem d_Layout_textEnd_9 : decode b_Layout_textEnd 9 = .ok (.invokevirtual 80, 3) := by decide +kernel
theorem d_Layout_textEnd_12 : decode b_Layout_textEnd 12 = .ok (.iadd, 1) := by decide +kernel
theorem d_Layout_textEnd_13 : decode b_Layout_textEnd 13 = .ok (.ireturn, 1) := by decide +kernel
theorem d_Layout_textFrom_0 : decode b_Layout_textFrom 0 = .ok (.aload_n 0, 1) := by decide +kernel
theorem d_Layout_textFrom_1 : decode b_Layout_textFrom 1 = .ok (.iload_n 1, 1) := by decide +kernel
theorem d_Layout_textFrom_2 : decode b_Layout_textFrom 2 = .ok (.invokevirtual 77, 3) := by decide +kernel
theorem d_Layout_textFrom_5 : decode b_Layout_textFrom 5 = .ok (.iconst 3, 1) := by decide +kernel
theorem d_Layout_textFrom_6 : decode b_Layout_textFrom 6 = .ok (.iadd, 1) := by decide +kernel
theorem d_Layout_textFrom_7 : decode b_Layout_textFrom 7 = .ok (.ireturn, 1) := by decide +kernel
theorem d_Layout_textNumber_0 : decode b_Layout_textNumber 0 = .ok (.iload_n 1, 1) := by decide +kernel
theorem d_Layout_textNumber_1 : decode b_Layout_textNumber 1 = .ok (.iconst 2, 1) := by decide +kernel
theorem d_Layout_textNumber_2 : decode b_Layout_textNumber 2 = .ok (.if_icmp .ge 16, 3) := by decide +kernel
theorem d_Layout_textNumber_5 : decode b_Layout_textNumber 5 = .ok (.aload_n 0, 1) := by decide +kernel
theorem d_Layout_textNumber_6 : decode b_Layout_textNumber 6 = .ok (.aload_n 0, 1) := by decide +kernel
theorem d_Layout_textNumber_7 : decode b_Layout_textNumber 7 = .ok (.getfield 83, 3) := by decide +kernel
theorem d_Layout_textNumber_10 : decode b_Layout_textNumber 10 = .ok (.iconst 2, 1) := by decide +kernel
theorem d_Layout_textNumber_11 : decode b_Layout_textNumber 11 = .ok (.iload_n 1, 1) := by decide +kernel
theorem d_Layout_textNumber_12 : decode b_Layout_textNumber 12 = .ok (.imul, 1) := by decide +kernel
theorem d_Layout_textNumber_13 : decode b_Layout_textNumber 13 = .ok (.iadd, 1) := by decide +kernel
theorem d_Layout_textNumber_14 : decode b_Layout_textNumber 14 = .ok (.invokevirtual 99, 3) := by decide +kernel
theorem d_Layout_textNumber_17 : decode b_Layout_textNumber 17 = .ok (.ireturn, 1) := by decide +kernel
theorem d_Layout_textNumber_18 : decode b_Layout_textNumber 18 = .ok (.iload_n 1, 1) := by decide +kernel
theorem d_Layout_textNumber_19 : decode b_Layout_textNumber 19 = .ok (.iconst 2, 1) := by decide +kernel
theorem d_Layout_textNumber_20 : decode b_Layout_textNumber 20 = .ok (.if_icmp .ne 29, 3) := by decide +kernel
theorem d_Layout_textNumber_23 : decode b_Layout_textNumber 23 = .ok (.iload_n 2, 1) := by decide +kernel
theorem d_Layout_textNumber_24 : decode b_Layout_textNumber 24 = .ok (.ifCond .lt 23, 3) := by decide +kernel
theorem d_Layout_textNumber_27 : decode b_Layout_textNumber 27 = .ok (.iload_n 2, 1) := by decide +kernel
theorem d_Layout_textNumber_28 : decode b_Layout_textNumber 28 = .ok (.aload_n 0, 1) := by decide +kernel
theorem d_Layout_textNumber_29 : decode b_Layout_textNumber 29 = .ok (.getfield 64, 3) := by decide +kernel
theorem d_Layout_textNumber_32 : decode b_Layout_textNumber 32 = .ok (.if_icmp .ge 15, 3) := by decide +kernel
theorem d_Layout_textNumber_35 : decode b_Layout_textNumber 35 = .ok (.aload_n 0, 1) := by decide +kernel
theorem d_Layout_textNumber_36 : decode b_Layout_textNumber 36 = .ok (.aload_n 0, 1) := by decide +kernel
theorem d_Layout_textNumber_37 : decode b_Layout_textNumber 37 = .ok (.iload_n 2, 1) := by decide +kernel
theorem d_Layout_textNumber_38 : decode b_Layout_textNumber 38 = .ok (.invokevirtual 102, 3) := by decide +kernel
theorem d_Layout_textNumber_41 : decode b_Layout_textNumber 41 = .ok (.invokevirtual 99, 3) := by decide +kernel
theorem d_Layout_textNumber_44 : decode b_Layout_textNumber 44 = .ok (.goto 4, 3) := by decide +kernel
theorem d_Layout_textNumber_47 : decode b_Layout_textNumber 47 = .ok (.iconst 0, 1) := by decide +kernel
theorem d_Layout_textNumber_48 : decode b_Layout_textNumber 48 = .ok (.ireturn, 1) := by decide +kernel
theorem d_Layout_textNumber_49 : decode b_Layout_textNumber 49 = .ok (.aload_n 0, 1) := by decide +kernel
theorem d_Layout_textNumber_50 : decode b_Layout_textNumber 50 = .ok (.iload_n 1, 1) := by decide +kernel
theorem d_Layout_textNumber_51 : decode b_Layout_textNumber 51 = .ok (.iconst 4, 1) := by decide +kernel
theorem d_Layout_textNumber_52 : decode b_Layout_textNumber 52 = .ok (.if_icmp .le 7, 3) := by decide +kernel
theorem d_Layout_textNumber_55 : decode b_Layout_textNumber 55 = .ok (.iconst 1, 1) := by decide +kernel
theorem d_Layout_textNumber_56 : decode b_Layout_textNumber 56 = .ok (.goto 4, 3) := by decide +kernel
theorem d_Layout_textNumber_59 : decode b_Layout_textNumber 59 = .ok (.iconst 0, 1) := by decide +kernel
theorem d_Layout_textNumber_60 : decode b_Layout_textNumber 60 = .ok (.iload_n 2, 1) := by decide +kernel
theorem d_Layout_textNumber_61 : decode b_Layout_textNumber 61 = .ok (.invokevirtual 105, 3) := by decide +kernel
theorem d_Layout_textNumber_64 : decode b_Layout_textNumber 64 = .ok (.istore_n 3, 1) := by decide +kernel
theorem d_Layout_textNumber_65 : decode b_Layout_textNumber 65 = .ok (.iload_n 3, 1) := by decide +kernel
theorem d_Layout_textNumber_66 : decode b_Layout_textNumber 66 = .ok (.iconst (-1), 1) := by decide +kernel
theorem d_Layout_textNumber_67 : decode b_Layout_textNumber 67 = .ok (.if_icmp .ne 5, 3) := by decide +kernel
theorem d_Layout_textNumber_70 : decode b_Layout_textNumber 70 = .ok (.iconst 0, 1) := by decide +kernel
theorem d_Layout_textNumber_71 : decode b_Layout_textNumber 71 = .ok (.ireturn, 1) := by decide +kernel
theorem d_Layout_textNumber_72 : decode b_Layout_textNumber 72 = .ok (.iload_n 1, 1) := by decide +kernel
theorem d_Layout_textNumber_73 : decode b_Layout_textNumber 73 = .ok (.iconst 3, 1) := by decide +kernel
theorem d_Layout_textNumber_74 : decode b_Layout_textNumber 74 = .ok (.if_icmp .eq 8, 3) := by decide +kernel
theorem d_Layout_textNumber_77 : decode b_Layout_textNumber 77 = .ok (.iload_n 1, 1) := by decide +kernel
theorem d_Layout_textNumber_78 : decode b_Layout_textNumber 78 = .ok (.iconst 5, 1) := by decide +kernel
theorem d_Layout_textNumber_79 : decode b_Layout_textNumber 79 = .ok (.if_icmp .ne 11, 3) := by decide +kernel
theorem d_Layout_textNumber_82 : decode b_Layout_textNumber 82 = .ok (.aload_n 0, 1) := by decide +kernel
theorem d_Layout_textNumber_83 : decode b_Layout_textNumber 83 = .ok (.iload_n 3, 1) := by decide +kernel
theorem d_Layout_textNumber_84 : decode b_Layout_textNumber 84 = .ok (.invokevirtual 109, 3) := by decide +kernel
theorem d_Layout_textNumber_87 : decode b_Layout_textNumber 87 = .ok (.goto 8, 3) := by decide +kernel
theorem d_Layout_textNumber_90 : decode b_Layout_textNumber 90 = .ok (.aload_n 0, 1) := by decide +kernel
theorem d_Layout_textNumber_91 : decode b_Layout_textNumber 91 = .ok (.iload_n 3, 1) := by decide +kernel
theorem d_Layout_textNumber_92 : decode b_Layout_textNumber 92 = .ok (.invokevirtual 112, 3) := by decide +kernel
theorem d_Layout_textNumber_95 : decode b_Layout_textNumber 95 = .ok (.ireturn, 1) := by decide +kernel
theorem d_Layout_typeAt_0 : decode b_Layout_typeAt 0 = .ok (.aload_n 0, 1) := by decide +kernel
theorem d_Layout_typeAt_1 : decode b_Layout_typeAt 1 = .ok (.getfield 12, 3) := by decide +kernel
theorem d_Layout_typeAt_4 : decode b_Layout_typeAt 4 = .ok (.iload_n 1, 1) := by decide +kernel
theorem d_Layout_typeAt_5 : decode b_Layout_typeAt 5 = .ok (.iconst 4, 1) := by decide +kernel
theorem d_Layout_typeAt_6 : decode b_Layout_typeAt 6 = .ok (.iadd, 1) := by decide +kernel
theorem d_Layout_typeAt_7 : decode b_Layout_typeAt 7 = .ok (.invokevirtual 73, 3) := by decide +kernel
theorem d_Layout_typeAt_10 : decode b_Layout_typeAt 10 = .ok (.ireturn, 1) := by decide +kernel
theorem d_Opcodes_goesOn_0 : decode b_Opcodes_goesOn 0 = .ok (.iload_n 0, 1) := by decide +kernel
theorem d_Opcodes_goesOn_1 : decode b_Opcodes_goesOn 1 = .ok (.sipush 167, 3) := by decide +kernel
theorem d_Opcodes_goesOn_4 : decode b_Opcodes_goesOn 4 = .ok (.if_icmp .eq 21, 3) := by decide +kernel
theorem d_Opcodes_goesOn_7 : decode b_Opcodes_goesOn 7 = .ok (.iload_n 0, 1) := by decide +kernel
theorem d_Opcodes_goesOn_8 : decode b_Opcodes_goesOn 8 = .ok (.sipush 191, 3) := by decide +kernel
theorem d_Opcodes_goesOn_11 : decode b_Opcodes_goesOn 11 = .ok (.if_icmp .eq 14, 3) := by decide +kernel
theorem d_Opcodes_goesOn_14 : decode b_Opcodes_goesOn 14 = .ok (.iload_n 0, 1) := by decide +kernel
theorem d_Opcodes_goesOn_15 : decode b_Opcodes_goesOn 15 = .ok (.invokestatic 31, 3) := by decide +kernel
theorem d_Opcodes_goesOn_18 : decode b_Opcodes_goesOn 18 = .ok (.ifCond .ne 7, 3) := by decide +kernel
theorem d_Opcodes_goesOn_21 : decode b_Opcodes_goesOn 21 = .ok (.iconst 1, 1) := by decide +kernel
theorem d_Opcodes_goesOn_22 : decode b_Opcodes_goesOn 22 = .ok (.goto 4, 3) := by decide +kernel
theorem d_Opcodes_goesOn_25 : decode b_Opcodes_goesOn 25 = .ok (.iconst 0, 1) := by decide +kernel
theorem d_Opcodes_goesOn_26 : decode b_Opcodes_goesOn 26 = .ok (.ireturn, 1) := by decide +kernel
theorem d_Opcodes_isAlone_0 : decode b_Opcodes_isAlone 0 = .ok (.iload_n 0, 1) := by decide +kernel
theorem d_Opcodes_isAlone_1 : decode b_Opcodes_isAlone 1 = .ok (.lookupswitch 93 #[(92, 91), (95, 91), (133, 91), (136, 91), (172, 91), (173, 91), (176, 91), (177, 91), (190, 91), (191, 91)], 91) := by decide +kernel
theorem d_Opcodes_isAlone_92 : decode b_Opcodes_isAlone 92 = .ok (.iconst 1, 1) := by decide +kernel
theorem d_Opcodes_isAlone_93 : decode b_Opcodes_isAlone 93 = .ok (.ireturn, 1) := by decide +kernel
theorem d_Opcodes_isAlone_94 : decode b_Opcodes_isAlone 94 = .ok (.iload_n 0, 1) := by decide +kernel
theorem d_Opcodes_isAlone_95 : decode b_Opcodes_isAlone 95 = .ok (.iconst 0, 1) := by decide +kernel
theorem d_Opcodes_isAlone_96 : decode b_Opcodes_isAlone 96 = .ok (.bipush 10, 2) := by decide +kernel
theorem d_Opcodes_isAlone_98 : decode b_Opcodes_isAlone 98 = .ok (.invokestatic 9, 3) := by decide +kernel
theorem d_Opcodes_isAlone_101 : decode b_Opcodes_isAlone 101 = .ok (.ifCond .ne 78, 3) := by decide +kernel
theorem d_Opcodes_isAlone_104 : decode b_Opcodes_isAlone 104 = .ok (.iload_n 0, 1) := by decide +kernel
theorem d_Opcodes_isAlone_105 : decode b_Opcodes_isAlone 105 = .ok (.bipush 26, 2) := by decide +kernel
theorem d_Opcodes_isAlone_107 : decode b_Opcodes_isAlone 107 = .ok (.bipush 33, 2) := by decide +kernel
theorem d_Opcodes_isAlone_109 : decode b_Opcodes_isAlone 109 = .ok (.invokestatic 9, 3) := by decide +kernel
theorem d_Opcodes_isAlone_112 : decode b_Opcodes_isAlone 112 = .ok (.ifCond .ne 67, 3) := by decide +kernel
theorem d_Opcodes_isAlone_115 : decode b_Opcodes_isAlone 115 = .ok (.iload_n 0, 1) := by decide +kernel
theorem d_Opcodes_isAlone_116 : decode b_Opcodes_isAlone 116 = .ok (.bipush 42, 2) := by decide +kernel
theorem d_Opcodes_isAlone_118 : decode b_Opcodes_isAlone 118 = .ok (.bipush 45, 2) := by decide +kernel
theorem d_Opcodes_isAlone_120 : decode b_Opcodes_isAlone 120 = .ok (.invokestatic 9, 3) := by decide +kernel
theorem d_Opcodes_isAlone_123 : decode b_Opcodes_isAlone 123 = .ok (.ifCond .ne 56, 3) := by decide +kernel
theorem d_Opcodes_isAlone_126 : decode b_Opcodes_isAlone 126 = .ok (.iload_n 0, 1) := by decide +kernel
theorem d_Opcodes_isAlone_127 : decode b_Opcodes_isAlone 127 = .ok (.bipush 59, 2) := by decide +kernel
theorem d_Opcodes_isAlone_129 : decode b_Opcodes_isAlone 129 = .ok (.bipush 66, 2) := by decide +kernel
theorem d_Opcodes_isAlone_131 : decode b_Opcodes_isAlone 131 = .ok (.invokestatic 9, 3) := by decide +kernel
theorem d_Opcodes_isAlone_134 : decode b_Opcodes_isAlone 134 = .ok (.ifCond .ne 45, 3) := by decide +kernel
theorem d_Opcodes_isAlone_137 : decode b_Opcodes_isAlone 137 = .ok (.iload_n 0, 1) := by decide +kernel
theorem d_Opcodes_isAlone_138 : decode b_Opcodes_isAlone 138 = .ok (.bipush 75, 2) := by decide +kernel
theorem d_Opcodes_isAlone_140 : decode b_Opcodes_isAlone 140 = .ok (.bipush 78, 2) := by decide +kernel
theorem d_Opcodes_isAlone_142 : decode b_Opcodes_isAlone 142 = .ok (.invokestatic 9, 3) := by decide +kernel
theorem d_Opcodes_isAlone_145 : decode b_Opcodes_isAlone 145 = .ok (.ifCond .ne 34, 3) := by decide +kernel
theorem d_Opcodes_isAlone_148 : decode b_Opcodes_isAlone 148 = .ok (.iload_n 0, 1) := by decide +kernel
theorem d_Opcodes_isAlone_149 : decode b_Opcodes_isAlone 149 = .ok (.bipush 87, 2) := by decide +kernel
theorem d_Opcodes_isAlone_151 : decode b_Opcodes_isAlone 151 = .ok (.bipush 89, 2) := by decide +kernel
theorem d_Opcodes_isAlone_153 : decode b_Opcodes_isAlone 153 = .ok (.invokestatic 9, 3) := by decide +kernel
theorem d_Opcodes_isAlone_156 : decode b_Opcodes_isAlone 156 = .ok (.ifCond .ne 23, 3) := by decide +kernel
theorem d_Opcodes_isAlone_159 : decode b_Opcodes_isAlone 159 = .ok (.iload_n 0, 1) := by decide +kernel
theorem d_Opcodes_isAlone_160 : decode b_Opcodes_isAlone 160 = .ok (.invokestatic 19, 3) := by decide +kernel
theorem d_Opcodes_isAlone_163 : decode b_Opcodes_isAlone 163 = .ok (.ifCond .ne 16, 3) := by decide +kernel
theorem d_Opcodes_isAlone_166 : decode b_Opcodes_isAlone 166 = .ok (.iload_n 0, 1) := by decide +kernel
theorem d_Opcodes_isAlone_167 : decode b_Opcodes_isAlone 167 = .ok (.sipush 145, 3) := by decide +kernel
theorem d_Opcodes_isAlone_170 : decode b_Opcodes_isAlone 170 = .ok (.sipush 148, 3) := by decide +kernel
theorem d_Opcodes_isAlone_173 : decode b_Opcodes_isAlone 173 = .ok (.invokestatic 9, 3) := by decide +kernel
theorem d_Opcodes_isAlone_176 : decode b_Opcodes_isAlone 176 = .ok (.ifCond .eq 7, 3) := by decide +kernel
theorem d_Opcodes_isAlone_179 : decode b_Opcodes_isAlone 179 = .ok (.iconst 1, 1) := by decide +kernel
theorem d_Opcodes_isAlone_180 : decode b_Opcodes_isAlone 180 = .ok (.goto 4, 3) := by decide +kernel
theorem d_Opcodes_isAlone_183 : decode b_Opcodes_isAlone 183 = .ok (.iconst 0, 1) := by decide +kernel
theorem d_Opcodes_isAlone_184 : decode b_Opcodes_isAlone 184 = .ok (.ireturn, 1) := by decide +kernel
theorem d_Opcodes_isArithmetic_0 : decode b_Opcodes_isArithmetic 0 = .ok (.iload_n 0, 1) := by decide +kernel
theorem d_Opcodes_isArithmetic_1 : decode b_Opcodes_isArithmetic 1 = .ok (.bipush 96, 2) := by decide +kernel
theorem d_Opcodes_isArithmetic_3 : decode b_Opcodes_isArithmetic 3 = .ok (.bipush 117, 2) := by decide +kernel
theorem d_Opcodes_isArithmetic_5 : decode b_Opcodes_isArithmetic 5 = .ok (.invokestatic 9, 3) := by decide +kernel
theorem d_Opcodes_isArithmetic_8 : decode b_Opcodes_isArithmetic 8 = .ok (.ifCond .eq 10, 3) := by decide +kernel
theorem d_Opcodes_isArithmetic_11 : decode b_Opcodes_isArithmetic 11 = .ok (.iload_n 0, 1) := by decide +kernel
theorem d_Opcodes_isArithmetic_12 : decode b_Opcodes_isArithmetic 12 = .ok (.iconst 3, 1) := by decide +kernel
theorem d_Opcodes_isArithmetic_13 : decode b_Opcodes_isArithmetic 13 = .ok (.iand, 1) := by decide +kernel
theorem d_Opcodes_isArithmetic_14 : decode b_Opcodes_isArithmetic 14 = .ok (.iconst 2, 1) := by decide +kernel
theorem d_Opcodes_isArithmetic_15 : decode b_Opcodes_isArithmetic 15 = .ok (.if_icmp .lt 15, 3) := by decide +kernel
theorem d_Opcodes_isArithmetic_18 : decode b_Opcodes_isArithmetic 18 = .ok (.iload_n 0, 1) := by decide +kernel
theorem d_Opcodes_isArithmetic_19 : decode b_Opcodes_isArithmetic 19 = .ok (.bipush 120, 2) := by decide +kernel
theorem d_Opcodes_isArithmetic_21 : decode b_Opcodes_isArithmetic 21 = .ok (.sipush 131, 3) := by decide +kernel
theorem d_Opcodes_isArithmetic_24 : decode b_Opcodes_isArithmetic 24 = .ok (.invokestatic 9, 3) := by decide +kernel
theorem d_Opcodes_isArithmetic_27 : decode b_Opcodes_isArithmetic 27 = .ok (.ifCond .eq 7, 3) := by decide +kernel
theorem d_Opcodes_isArithmetic_30 : decode b_Opcodes_isArithmetic 30 = .ok (.iconst 1, 1) := by decide +kernel
theorem d_Opcodes_isArithmetic_31 : decode b_Opcodes_isArithmetic 31 = .ok (.goto 4, 3) := by decide +kernel
theorem d_Opcodes_isArithmetic_34 : decode b_Opcodes_isArithmetic 34 = .ok (.iconst 0, 1) := by decide +kernel
theorem d_Opcodes_isArithmetic_35 : decode b_Opcodes_isArithmetic 35 = .ok (.ireturn, 1) := by decide +kernel
theorem d_Opcodes_isCall_0 : decode b_Opcodes_isCall 0 = .ok (.iload_n 0, 1) := by decide +kernel
theorem d_Opcodes_isCall_1 : decode b_Opcodes_isCall 1 = .ok (.sipush 182, 3) := by decide +kernel
theorem d_Opcodes_isCall_4 : decode b_Opcodes_isCall 4 = .ok (.sipush 184, 3) := by decide +kernel
theorem d_Opcodes_isCall_7 : decode b_Opcodes_isCall 7 = .ok (.invokestatic 9, 3) := by decide +kernel
theorem d_Opcodes_isCall_10 : decode b_Opcodes_isCall 10 = .ok (.ireturn, 1) := by decide +kernel
theorem d_Opcodes_isFieldUse_0 : decode b_Opcodes_isFieldUse 0 = .ok (.iload_n 0, 1) := by decide +kernel
theorem d_Opcodes_isFieldUse_1 : decode b_Opcodes_isFieldUse 1 = .ok (.sipush 178, 3) := by decide +kernel
theorem d_Opcodes_isFieldUse_4 : decode b_Opcodes_isFieldUse 4 = .ok (.sipush 181, 3) := by decide +kernel
theorem d_Opcodes_isFieldUse_7 : decode b_Opcodes_isFieldUse 7 = .ok (.invokestatic 9, 3) := by decide +kernel
theorem d_Opcodes_isFieldUse_10 : decode b_Opcodes_isFieldUse 10 = .ok (.ireturn, 1) := by decide +kernel
theorem d_Opcodes_isReturn_0 : decode b_Opcodes_isReturn 0 = .ok (.iload_n 0, 1) := by decide +kernel
theorem d_Opcodes_isReturn_1 : decode b_Opcodes_isReturn 1 = .ok (.sipush 172, 3) := by decide +kernel
theorem d_Opcodes_isReturn_4 : decode b_Opcodes_isReturn 4 = .ok (.sipush 177, 3) := by decide +kernel
theorem d_Opcodes_isReturn_7 : decode b_Opcodes_isReturn 7 = .ok (.invokestatic 9, 3) := by decide +kernel
theorem d_Opcodes_isReturn_10 : decode b_Opcodes_isReturn 10 = .ok (.ireturn, 1) := by decide +kernel
theorem d_Opcodes_isShuffle_0 : decode b_Opcodes_isShuffle 0 = .ok (.iload_n 0, 1) := by decide +kernel
theorem d_Opcodes_isShuffle_1 : decode b_Opcodes_isShuffle 1 = .ok (.bipush 87, 2) := by decide +kernel
theorem d_Opcodes_isShuffle_3 : decode b_Opcodes_isShuffle 3 = .ok (.bipush 95, 2) := by decide +kernel
theorem d_Opcodes_isShuffle_5 : decode b_Opcodes_isShuffle 5 = .ok (.invokestatic 9, 3) := by decide +kernel
theorem d_Opcodes_isShuffle_8 : decode b_Opcodes_isShuffle 8 = .ok (.ireturn, 1) := by decide +kernel
theorem d_Opcodes_isStore_0 : decode b_Opcodes_isStore 0 = .ok (.iload_n 0, 1) := by decide +kernel
theorem d_Opcodes_isStore_1 : decode b_Opcodes_isStore 1 = .ok (.bipush 54, 2) := by decide +kernel
theorem d_Opcodes_isStore_3 : decode b_Opcodes_isStore 3 = .ok (.bipush 78, 2) := by decide +kernel
theorem d_Opcodes_isStore_5 : decode b_Opcodes_isStore 5 = .ok (.invokestatic 9, 3) := by decide +kernel
theorem d_Opcodes_isStore_8 : decode b_Opcodes_isStore 8 = .ok (.ireturn, 1) := by decide +kernel
theorem d_Opcodes_isWithin_0 : decode b_Opcodes_isWithin 0 = .ok (.iload_n 0, 1) := by decide +kernel
theorem d_Opcodes_isWithin_1 : decode b_Opcodes_isWithin 1 = .ok (.iload_n 1, 1) := by decide +kernel
theorem d_Opcodes_isWithin_2 : decode b_Opcodes_isWithin 2 = .ok (.if_icmp .lt 12, 3) := by decide +kernel
theorem d_Opcodes_isWithin_5 : decode b_Opcodes_isWithin 5 = .ok (.iload_n 0, 1) := by decide +kernel
theorem d_Opcodes_isWithin_6 : decode b_Opcodes_isWithin 6 = .ok (.iload_n 2, 1) := by decide +kernel
theorem d_Opcodes_isWithin_7 : decode b_Opcodes_isWithin 7 = .ok (.if_icmp .gt 7, 3) := by decide +kernel
theorem d_Opcodes_isWithin_10 : decode b_Opcodes_isWithin 10 = .ok (.iconst 1, 1) := by decide +kernel
theorem d_Opcodes_isWithin_11 : decode b_Opcodes_isWithin 11 = .ok (.goto 4, 3) := by decide +kernel
theorem d_Opcodes_isWithin_14 : decode b_Opcodes_isWithin 14 = .ok (.iconst 0, 1) := by decide +kernel
theorem d_Opcodes_isWithin_15 : decode b_Opcodes_isWithin 15 = .ok (.ireturn, 1) := by decide +kernel
theorem d_Opcodes_lengthOf_0 : decode b_Opcodes_lengthOf 0 = .ok (.iload_n 0, 1) := by decide +kernel
theorem d_Opcodes_lengthOf_1 : decode b_Opcodes_lengthOf 1 = .ok (.lookupswitch 143 #[(16, 139), (17, 141), (18, 139), (20, 141), (21, 139), (22, 139), (25, 139), (54, 139), (55, 139), (58, 139), (132, 141), (187, 141), (192, 141), (193, 141), (198, 141), (199, 141)], 139) := by decide +kernel
theorem d_Opcodes_lengthOf_140 : decode b_Opcodes_lengthOf 140 = .ok (.iconst 2, 1) := by decide +kernel
theorem d_Opcodes_lengthOf_141 : decode b_Opcodes_lengthOf 141 = .ok (.ireturn, 1) := by decide +kernel
theorem d_Opcodes_lengthOf_142 : decode b_Opcodes_lengthOf 142 = .ok (.iconst 3, 1) := by decide +kernel
theorem d_Opcodes_lengthOf_143 : decode b_Opcodes_lengthOf 143 = .ok (.ireturn, 1) := by decide +kernel
theorem d_Opcodes_lengthOf_144 : decode b_Opcodes_lengthOf 144 = .ok (.iload_n 0, 1) := by decide +kernel
theorem d_Opcodes_lengthOf_145 : decode b_Opcodes_lengthOf 145 = .ok (.sipush 153, 3) := by decide +kernel
theorem d_Opcodes_lengthOf_148 : decode b_Opcodes_lengthOf 148 = .ok (.sipush 167, 3) := by decide +kernel
theorem d_Opcodes_lengthOf_151 : decode b_Opcodes_lengthOf 151 = .ok (.invokestatic 9, 3) := by decide +kernel
theorem d_Opcodes_lengthOf_154 : decode b_Opcodes_lengthOf 154 = .ok (.ifCond .ne 16, 3) := by decide +kernel
theorem d_Opcodes_lengthOf_157 : decode b_Opcodes_lengthOf 157 = .ok (.iload_n 0, 1) := by decide +kernel
theorem d_Opcodes_lengthOf_158 : decode b_Opcodes_lengthOf 158 = .ok (.sipush 178, 3) := by decide +kernel
theorem d_Opcodes_lengthOf_161 : decode b_Opcodes_lengthOf 161 = .ok (.sipush 184, 3) := by decide +kernel
theorem d_Opcodes_lengthOf_164 : decode b_Opcodes_lengthOf 164 = .ok (.invokestatic 9, 3) := by decide +kernel
theorem d_Opcodes_lengthOf_167 : decode b_Opcodes_lengthOf 167 = .ok (.ifCond .eq 5, 3) := by decide +kernel
theorem d_Opcodes_lengthOf_170 : decode b_Opcodes_lengthOf 170 = .ok (.iconst 3, 1) := by decide +kernel
theorem d_Opcodes_lengthOf_171 : decode b_Opcodes_lengthOf 171 = .ok (.ireturn, 1) := by decide +kernel
theorem d_Opcodes_lengthOf_172 : decode b_Opcodes_lengthOf 172 = .ok (.iload_n 0, 1) := by decide +kernel
theorem d_Opcodes_lengthOf_173 : decode b_Opcodes_lengthOf 173 = .ok (.invokestatic 15, 3) := by decide +kernel
theorem d_Opcodes_lengthOf_176 : decode b_Opcodes_lengthOf 176 = .ok (.ifCond .eq 7, 3) := by decide +kernel
theorem d_Opcodes_lengthOf_179 : decode b_Opcodes_lengthOf 179 = .ok (.iconst 1, 1) := by decide +kernel
theorem d_Opcodes_lengthOf_180 : decode b_Opcodes_lengthOf 180 = .ok (.goto 4, 3) := by decide +kernel
theorem d_Opcodes_lengthOf_183 : decode b_Opcodes_lengthOf 183 = .ok (.iconst 0, 1) := by decide +kernel
theorem d_Opcodes_lengthOf_184 : decode b_Opcodes_lengthOf 184 = .ok (.ireturn, 1) := by decide +kernel
theorem d_Opcodes_localKindOf_0 : decode b_Opcodes_localKindOf 0 = .ok (.iload_n 0, 1) := by decide +kernel
theorem d_Opcodes_localKindOf_1 : decode b_Opcodes_localKindOf 1 = .ok (.bipush 22, 2) := by decide +kernel
theorem d_Opcodes_localKindOf_3 : decode b_Opcodes_localKindOf 3 = .ok (.if_icmp .eq 31, 3) := by decide +kernel
theorem d_Opcodes_localKindOf_6 : decode b_Opcodes_localKindOf 6 = .ok (.iload_n 0, 1) := by decide +kernel
theorem d_Opcodes_localKindOf_7 : decode b_Opcodes_localKindOf 7 = .ok (.bipush 55, 2) := by decide +kernel
theorem d_Opcodes_localKindOf_9 : decode b_Opcodes_localKindOf 9 = .ok (.if_icmp .eq 25, 3) := by decide +kernel
theorem d_Opcodes_localKindOf_12 : decode b_Opcodes_localKindOf 12 = .ok (.iload_n 0, 1) := by decide +kernel
theorem d_Opcodes_localKindOf_13 : decode b_Opcodes_localKindOf 13 = .ok (.bipush 30, 2) := by decide +kernel
theorem d_Opcodes_localKindOf_15 : decode b_Opcodes_localKindOf 15 = .ok (.bipush 33, 2) := by decide +kernel
theorem d_Opcodes_localKindOf_17 : decode b_Opcodes_localKindOf 17 = .ok (.invokestatic 9, 3) := by decide +kernel
theorem d_Opcodes_localKindOf_20 : decode b_Opcodes_localKindOf 20 = .ok (.ifCond .ne 14, 3) := by decide +kernel
theorem d_Opcodes_localKindOf_23 : decode b_Opcodes_localKindOf 23 = .ok (.iload_n 0, 1) := by decide +kernel
theorem d_Opcodes_localKindOf_24 : decode b_Opcodes_localKindOf 24 = .ok (.bipush 63, 2) := by decide +kernel
theorem d_Opcodes_localKindOf_26 : decode b_Opcodes_localKindOf 26 = .ok (.bipush 66, 2) := by decide +kernel
theorem d_Opcodes_localKindOf_28 : decode b_Opcodes_localKindOf 28 = .ok (.invokestatic 9, 3) := by decide +kernel
theorem d_Opcodes_localKindOf_31 : decode b_Opcodes_localKindOf 31 = .ok (.ifCond .eq 5, 3) := by decide +kernel
theorem d_Opcodes_localKindOf_34 : decode b_Opcodes_localKindOf 34 = .ok (.iconst 2, 1) := by decide +kernel
theorem d_Opcodes_localKindOf_35 : decode b_Opcodes_localKindOf 35 = .ok (.ireturn, 1) := by decide +kernel
theorem d_Opcodes_localKindOf_36 : decode b_Opcodes_localKindOf 36 = .ok (.iload_n 0, 1) := by decide +kernel
theorem d_Opcodes_localKindOf_37 : decode b_Opcodes_localKindOf 37 = .ok (.bipush 25, 2) := by decide +kernel
theorem d_Opcodes_localKindOf_39 : decode b_Opcodes_localKindOf 39 = .ok (.if_icmp .eq 31, 3) := by decide +kernel
theorem d_Opcodes_localKindOf_42 : decode b_Opcodes_localKindOf 42 = .ok (.iload_n 0, 1) := by decide +kernel
theorem d_Opcodes_localKindOf_43 : decode b_Opcodes_localKindOf 43 = .ok (.bipush 58, 2) := by decide +kernel
theorem d_Opcodes_localKindOf_45 : decode b_Opcodes_localKindOf 45 = .ok (.if_icmp .eq 25, 3) := by decide +kernel
theorem d_Opcodes_localKindOf_48 : decode b_Opcodes_localKindOf 48 = .ok (.iload_n 0, 1) := by decide +kernel
theorem d_Opcodes_localKindOf_49 : decode b_Opcodes_localKindOf 49 = .ok (.bipush 42, 2) := by decide +kernel
theorem d_Opcodes_localKindOf_51 : decode b_Opcodes_localKindOf 51 = .ok (.bipush 45, 2) := by decide +kernel
theorem d_Opcodes_localKindOf_53 : decode b_Opcodes_localKindOf 53 = .ok (.invokestatic 9, 3) := by decide +kernel
theorem d_Opcodes_localKindOf_56 : decode b_Opcodes_localKindOf 56 = .ok (.ifCond .ne 14, 3) := by decide +kernel
theorem d_Opcodes_localKindOf_59 : decode b_Opcodes_localKindOf 59 = .ok (.iload_n 0, 1) := by decide +kernel
theorem d_Opcodes_localKindOf_60 : decode b_Opcodes_localKindOf 60 = .ok (.bipush 75, 2) := by decide +kernel
theorem d_Opcodes_localKindOf_62 : decode b_Opcodes_localKindOf 62 = .ok (.bipush 78, 2) := by decide +kernel
theorem d_Opcodes_localKindOf_64 : decode b_Opcodes_localKindOf 64 = .ok (.invokestatic 9, 3) := by decide +kernel
theorem d_Opcodes_localKindOf_67 : decode b_Opcodes_localKindOf 67 = .ok (.ifCond .eq 7, 3) := by decide +kernel
theorem d_Opcodes_localKindOf_70 : decode b_Opcodes_localKindOf 70 = .ok (.iconst 4, 1) := by decide +kernel
theorem d_Opcodes_localKindOf_71 : decode b_Opcodes_localKindOf 71 = .ok (.goto 4, 3) := by decide +kernel
theorem d_Opcodes_localKindOf_74 : decode b_Opcodes_localKindOf 74 = .ok (.iconst 1, 1) := by decide +kernel
theorem d_Opcodes_localKindOf_75 : decode b_Opcodes_localKindOf 75 = .ok (.ireturn, 1) := by decide +kernel
theorem d_Opcodes_localOf_0 : decode b_Opcodes_localOf 0 = .ok (.iload_n 0, 1) := by decide +kernel
theorem d_Opcodes_localOf_1 : decode b_Opcodes_localOf 1 = .ok (.bipush 26, 2) := by decide +kernel
theorem d_Opcodes_localOf_3 : decode b_Opcodes_localOf 3 = .ok (.bipush 45, 2) := by decide +kernel
theorem d_Opcodes_localOf_5 : decode b_Opcodes_localOf 5 = .ok (.invokestatic 9, 3) := by decide +kernel
theorem d_Opcodes_localOf_8 : decode b_Opcodes_localOf 8 = .ok (.ifCond .eq 10, 3) := by decide +kernel
theorem d_Opcodes_localOf_11 : decode b_Opcodes_localOf 11 = .ok (.iload_n 0, 1) := by decide +kernel
theorem d_Opcodes_localOf_12 : decode b_Opcodes_localOf 12 = .ok (.bipush 26, 2) := by decide +kernel
theorem d_Opcodes_localOf_14 : decode b_Opcodes_localOf 14 = .ok (.isub, 1) := by decide +kernel
theorem d_Opcodes_localOf_15 : decode b_Opcodes_localOf 15 = .ok (.iconst 3, 1) := by decide +kernel
theorem d_Opcodes_localOf_16 : decode b_Opcodes_localOf 16 = .ok (.iand, 1) := by decide +kernel
theorem d_Opcodes_localOf_17 : decode b_Opcodes_localOf 17 = .ok (.ireturn, 1) := by decide +kernel
theorem d_Opcodes_localOf_18 : decode b_Opcodes_localOf 18 = .ok (.iload_n 0, 1) := by decide +kernel
theorem d_Opcodes_localOf_19 : decode b_Opcodes_localOf 19 = .ok (.bipush 59, 2) := by decide +kernel
theorem d_Opcodes_localOf_21 : decode b_Opcodes_localOf 21 = .ok (.bipush 78, 2) := by decide +kernel
theorem d_Opcodes_localOf_23 : decode b_Opcodes_localOf 23 = .ok (.invokestatic 9, 3) := by decide +kernel
theorem d_Opcodes_localOf_26 : decode b_Opcodes_localOf 26 = .ok (.ifCond .eq 12, 3) := by decide +kernel
theorem d_Opcodes_localOf_29 : decode b_Opcodes_localOf 29 = .ok (.iload_n 0, 1) := by decide +kernel
theorem d_Opcodes_localOf_30 : decode b_Opcodes_localOf 30 = .ok (.bipush 59, 2) := by decide +kernel
theorem d_Opcodes_localOf_32 : decode b_Opcodes_localOf 32 = .ok (.isub, 1) := by decide +kernel
theorem d_Opcodes_localOf_33 : decode b_Opcodes_localOf 33 = .ok (.iconst 3, 1) := by decide +kernel
theorem d_Opcodes_localOf_34 : decode b_Opcodes_localOf 34 = .ok (.iand, 1) := by decide +kernel
theorem d_Opcodes_localOf_35 : decode b_Opcodes_localOf 35 = .ok (.goto 4, 3) := by decide +kernel
theorem d_Opcodes_localOf_38 : decode b_Opcodes_localOf 38 = .ok (.iload_n 1, 1) := by decide +kernel
theorem d_Opcodes_localOf_39 : decode b_Opcodes_localOf 39 = .ok (.ireturn, 1) := by decide +kernel
theorem d_Opcodes_mayJump_0 : decode b_Opcodes_mayJump 0 = .ok (.iload_n 0, 1) := by decide +kernel
theorem d_Opcodes_mayJump_1 : decode b_Opcodes_mayJump 1 = .ok (.sipush 153, 3) := by decide +kernel
theorem d_Opcodes_mayJump_4 : decode b_Opcodes_mayJump 4 = .ok (.sipush 167, 3) := by decide +kernel
theorem d_Opcodes_mayJump_7 : decode b_Opcodes_mayJump 7 = .ok (.invokestatic 9, 3) := by decide +kernel
theorem d_Opcodes_mayJump_10 : decode b_Opcodes_mayJump 10 = .ok (.ifCond .ne 17, 3) := by decide +kernel
theorem d_Opcodes_mayJump_13 : decode b_Opcodes_mayJump 13 = .ok (.iload_n 0, 1) := by decide +kernel
theorem d_Opcodes_mayJump_14 : decode b_Opcodes_mayJump 14 = .ok (.sipush 198, 3) := by decide +kernel
theorem d_Opcodes_mayJump_17 : decode b_Opcodes_mayJump 17 = .ok (.if_icmp .eq 10, 3) := by decide +kernel
theorem d_Opcodes_mayJump_20 : decode b_Opcodes_mayJump 20 = .ok (.iload_n 0, 1) := by decide +kernel
theorem d_Opcodes_mayJump_21 : decode b_Opcodes_mayJump 21 = .ok (.sipush 199, 3) := by decide +kernel
theorem d_Opcodes_mayJump_24 : decode b_Opcodes_mayJump 24 = .ok (.if_icmp .ne 7, 3) := by decide +kernel
theorem d_Opcodes_mayJump_27 : decode b_Opcodes_mayJump 27 = .ok (.iconst 1, 1) := by decide +kernel
theorem d_Opcodes_mayJump_28 : decode b_Opcodes_mayJump 28 = .ok (.goto 4, 3) := by decide +kernel
theorem d_Opcodes_mayJump_31 : decode b_Opcodes_mayJump 31 = .ok (.iconst 0, 1) := by decide +kernel
theorem d_Opcodes_mayJump_32 : decode b_Opcodes_mayJump 32 = .ok (.ireturn, 1) := by decide +kernel
theorem d_Opcodes_tagOf_0 : decode b_Opcodes_tagOf 0 = .ok (.iload_n 0, 1) := by decide +kernel
theorem d_Opcodes_tagOf_1 : decode b_Opcodes_tagOf 1 = .ok (.bipush 20, 2) := by decide +kernel
theorem d_Opcodes_tagOf_3 : decode b_Opcodes_tagOf 3 = .ok (.if_icmp .ne 5, 3) := by decide +kernel
theorem d_Opcodes_tagOf_6 : decode b_Opcodes_tagOf 6 = .ok (.iconst 5, 1) := by decide +kernel
theorem d_Opcodes_tagOf_7 : decode b_Opcodes_tagOf 7 = .ok (.ireturn, 1) := by decide +kernel
theorem d_Opcodes_tagOf_8 : decode b_Opcodes_tagOf 8 = .ok (.iload_n 0, 1) := by decide +kernel
theorem d_Opcodes_tagOf_9 : decode b_Opcodes_tagOf 9 = .ok (.invokestatic 25, 3) := by decide +kernel
theorem d_Opcodes_tagOf_12 : decode b_Opcodes_tagOf 12 = .ok (.ifCond .eq 6, 3) := by decide +kernel
theorem d_Opcodes_tagOf_15 : decode b_Opcodes_tagOf 15 = .ok (.bipush 9, 2) := by decide +kernel
theorem d_Opcodes_tagOf_17 : decode b_Opcodes_tagOf 17 = .ok (.ireturn, 1) := by decide +kernel
theorem d_Opcodes_tagOf_18 : decode b_Opcodes_tagOf 18 = .ok (.iload_n 0, 1) := by decide +kernel
theorem d_Opcodes_tagOf_19 : decode b_Opcodes_tagOf 19 = .ok (.invokestatic 28, 3) := by decide +kernel
theorem d_Opcodes_tagOf_22 : decode b_Opcodes_tagOf 22 = .ok (.ifCond .eq 8, 3) := by decide +kernel
theorem d_Opcodes_tagOf_25 : decode b_Opcodes_tagOf 25 = .ok (.bipush 10, 2) := by decide +kernel
theorem d_Opcodes_tagOf_27 : decode b_Opcodes_tagOf 27 = .ok (.goto 5, 3) := by decide +kernel
theorem d_Opcodes_tagOf_30 : decode b_Opcodes_tagOf 30 = .ok (.bipush 7, 2) := by decide +kernel
theorem d_Opcodes_tagOf_32 : decode b_Opcodes_tagOf 32 = .ok (.ireturn, 1) := by decide +kernel
theorem d_Opcodes_tellsConstant_0 : decode b_Opcodes_tellsConstant 0 = .ok (.iload_n 0, 1) := by decide +kernel
theorem d_Opcodes_tellsConstant_1 : decode b_Opcodes_tellsConstant 1 = .ok (.bipush 20, 2) := by decide +kernel
theorem d_Opcodes_tellsConstant_3 : decode b_Opcodes_tellsConstant 3 = .ok (.if_icmp .eq 38, 3) := by decide +kernel
theorem d_Opcodes_tellsConstant_6 : decode b_Opcodes_tellsConstant 6 = .ok (.iload_n 0, 1) := by decide +kernel
theorem d_Opcodes_tellsConstant_7 : decode b_Opcodes_tellsConstant 7 = .ok (.sipush 187, 3) := by decide +kernel
theorem d_Opcodes_tellsConstant_10 : decode b_Opcodes_tellsConstant 10 = .ok (.if_icmp .eq 31, 3) := by decide +kernel
theorem d_Opcodes_tellsConstant_13 : decode b_Opcodes_tellsConstant 13 = .ok (.iload_n 0, 1) := by decide +kernel
theorem d_Opcodes_tellsConstant_14 : decode b_Opcodes_tellsConstant 14 = .ok (.sipush 192, 3) := by decide +kernel
theorem d_Opcodes_tellsConstant_17 : decode b_Opcodes_tellsConstant 17 = .ok (.if_icmp .eq 24, 3) := by decide +kernel
theorem d_Opcodes_tellsConstant_20 : decode b_Opcodes_tellsConstant 20 = .ok (.iload_n 0, 1) := by decide +kernel
theorem d_Opcodes_tellsConstant_21 : decode b_Opcodes_tellsConstant 21 = .ok (.sipush 193, 3) := by decide +kernel
theorem d_Opcodes_tellsConstant_24 : decode b_Opcodes_tellsConstant 24 = .ok (.if_icmp .eq 17, 3) := by decide +kernel
theorem d_Opcodes_tellsConstant_27 : decode b_Opcodes_tellsConstant 27 = .ok (.iload_n 0, 1) := by decide +kernel
theorem d_Opcodes_tellsConstant_28 : decode b_Opcodes_tellsConstant 28 = .ok (.invokestatic 25, 3) := by decide +kernel
theorem d_Opcodes_tellsConstant_31 : decode b_Opcodes_tellsConstant 31 = .ok (.ifCond .ne 10, 3) := by decide +kernel
theorem d_Opcodes_tellsConstant_34 : decode b_Opcodes_tellsConstant 34 = .ok (.iload_n 0, 1) := by decide +kernel
theorem d_Opcodes_tellsConstant_35 : decode b_Opcodes_tellsConstant 35 = .ok (.invokestatic 28, 3) := by decide +kernel
theorem d_Opcodes_tellsConstant_38 : decode b_Opcodes_tellsConstant 38 = .ok (.ifCond .eq 7, 3) := by decide +kernel
theorem d_Opcodes_tellsConstant_41 : decode b_Opcodes_tellsConstant 41 = .ok (.iconst 1, 1) := by decide +kernel
theorem d_Opcodes_tellsConstant_42 : decode b_Opcodes_tellsConstant 42 = .ok (.goto 4, 3) := by decide +kernel
theorem d_Opcodes_tellsConstant_45 : decode b_Opcodes_tellsConstant 45 = .ok (.iconst 0, 1) := by decide +kernel
theorem d_Opcodes_tellsConstant_46 : decode b_Opcodes_tellsConstant 46 = .ok (.ireturn, 1) := by decide +kernel
theorem d_Opcodes_tellsLocal_0 : decode b_Opcodes_tellsLocal 0 = .ok (.iload_n 0, 1) := by decide +kernel
theorem d_Opcodes_tellsLocal_1 : decode b_Opcodes_tellsLocal 1 = .ok (.sipush 132, 3) := by decide +kernel
theorem d_Opcodes_tellsLocal_4 : decode b_Opcodes_tellsLocal 4 = .ok (.if_icmp .eq 21, 3) := by decide +kernel
theorem d_Opcodes_tellsLocal_7 : decode b_Opcodes_tellsLocal 7 = .ok (.iload_n 0, 1) := by decide +kernel
theorem d_Opcodes_tellsLocal_8 : decode b_Opcodes_tellsLocal 8 = .ok (.bipush 21, 2) := by decide +kernel
theorem d_Opcodes_tellsLocal_10 : decode b_Opcodes_tellsLocal 10 = .ok (.bipush 45, 2) := by decide +kernel
theorem d_Opcodes_tellsLocal_12 : decode b_Opcodes_tellsLocal 12 = .ok (.invokestatic 9, 3) := by decide +kernel
theorem d_Opcodes_tellsLocal_15 : decode b_Opcodes_tellsLocal 15 = .ok (.ifCond .ne 10, 3) := by decide +kernel
theorem d_Opcodes_tellsLocal_18 : decode b_Opcodes_tellsLocal 18 = .ok (.iload_n 0, 1) := by decide +kernel
theorem d_Opcodes_tellsLocal_19 : decode b_Opcodes_tellsLocal 19 = .ok (.invokestatic 22, 3) := by decide +kernel
theorem d_Opcodes_tellsLocal_22 : decode b_Opcodes_tellsLocal 22 = .ok (.ifCond .eq 7, 3) := by decide +kernel
theorem d_Opcodes_tellsLocal_25 : decode b_Opcodes_tellsLocal 25 = .ok (.iconst 1, 1) := by decide +kernel
theorem d_Opcodes_tellsLocal_26 : decode b_Opcodes_tellsLocal 26 = .ok (.goto 4, 3) := by decide +kernel
theorem d_Opcodes_tellsLocal_29 : decode b_Opcodes_tellsLocal 29 = .ok (.iconst 0, 1) := by decide +kernel
theorem d_Opcodes_tellsLocal_30 : decode b_Opcodes_tellsLocal 30 = .ok (.ireturn, 1) := by decide +kernel
