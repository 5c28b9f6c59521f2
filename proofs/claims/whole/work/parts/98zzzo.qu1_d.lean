theorem d_Mod_count_12 : decode b_Mod_count 12 = .ok (.iload_n 1, 1) := by decide +kernel
theorem d_Mod_count_13 : decode b_Mod_count 13 = .ok (.iconst 0, 1) := by decide +kernel
theorem d_Mod_count_14 : decode b_Mod_count 14 = .ok (.bipush 6, 2) := by decide +kernel
theorem d_Mod_count_16 : decode b_Mod_count 16 = .ok (.invokestatic 136, 3) := by decide +kernel
theorem d_Mod_count_19 : decode b_Mod_count 19 = .ok (.ifCond .ne 7, 3) := by decide +kernel
theorem d_Mod_count_22 : decode b_Mod_count 22 = .ok (.iconst 2, 1) := by decide +kernel
theorem d_Mod_count_23 : decode b_Mod_count 23 = .ok (.goto 4, 3) := by decide +kernel
theorem d_Mod_count_26 : decode b_Mod_count 26 = .ok (.iconst 0, 1) := by decide +kernel
theorem d_Mod_count_37 : decode b_Mod_count 37 = .ok (.aload_n 0, 1) := by decide +kernel
theorem d_Mod_count_38 : decode b_Mod_count 38 = .ok (.getfield 112, 3) := by decide +kernel
theorem d_Mod_count_41 : decode b_Mod_count 41 = .ok (.iload_n 1, 1) := by decide +kernel
theorem d_Mod_count_42 : decode b_Mod_count 42 = .ok (.iaload, 1) := by decide +kernel
theorem d_Mod_depth_8 : decode b_Mod_depth 8 = .ok (.iconst 0, 1) := by decide +kernel
theorem d_Mod_depth_9 : decode b_Mod_depth 9 = .ok (.goto 4, 3) := by decide +kernel
theorem d_Mod_depth_21 : decode b_Mod_depth 21 = .ok (.aload_n 0, 1) := by decide +kernel
theorem d_Mod_depth_22 : decode b_Mod_depth 22 = .ok (.iload_n 1, 1) := by decide +kernel
theorem d_Mod_depth_23 : decode b_Mod_depth 23 = .ok (.iload_n 2, 1) := by decide +kernel
theorem d_Mod_depth_24 : decode b_Mod_depth 24 = .ok (.invokevirtual 417, 3) := by decide +kernel
theorem d_Mod_depth_27 : decode b_Mod_depth 27 = .ok (.istore_n 3, 1) := by decide +kernel
theorem d_Mod_depth_28 : decode b_Mod_depth 28 = .ok (.iload_n 3, 1) := by decide +kernel
theorem d_Mod_depth_29 : decode b_Mod_depth 29 = .ok (.ifCond .ge 7, 3) := by decide +kernel
theorem d_Mod_depth_32 : decode b_Mod_depth 32 = .ok (.iconst (-1), 1) := by decide +kernel
theorem d_Mod_depth_33 : decode b_Mod_depth 33 = .ok (.goto 9, 3) := by decide +kernel
theorem d_Mod_depth_36 : decode b_Mod_depth 36 = .ok (.aload_n 0, 1) := by decide +kernel
theorem d_Mod_depth_37 : decode b_Mod_depth 37 = .ok (.getfield 127, 3) := by decide +kernel
theorem d_Mod_depth_40 : decode b_Mod_depth 40 = .ok (.iload_n 3, 1) := by decide +kernel
theorem d_Mod_depth_41 : decode b_Mod_depth 41 = .ok (.iaload, 1) := by decide +kernel
theorem d_Mod_depth_42 : decode b_Mod_depth 42 = .ok (.ireturn, 1) := by decide +kernel
theorem d_Mod_frameAt_0 : decode b_Mod_frameAt 0 = .ok (.iload_n 1, 1) := by decide +kernel
theorem d_Mod_frameAt_1 : decode b_Mod_frameAt 1 = .ok (.ifCond .lt 31, 3) := by decide +kernel
theorem d_Mod_frameAt_4 : decode b_Mod_frameAt 4 = .ok (.iload_n 1, 1) := by decide +kernel
theorem d_Mod_frameAt_5 : decode b_Mod_frameAt 5 = .ok (.aload_n 0, 1) := by decide +kernel
theorem d_Mod_frameAt_6 : decode b_Mod_frameAt 6 = .ok (.getfield 112, 3) := by decide +kernel
theorem d_Mod_frameAt_9 : decode b_Mod_frameAt 9 = .ok (.iconst 3, 1) := by decide +kernel
theorem d_Mod_frameAt_10 : decode b_Mod_frameAt 10 = .ok (.iaload, 1) := by decide +kernel
theorem d_Mod_frameAt_11 : decode b_Mod_frameAt 11 = .ok (.if_icmp .ge 21, 3) := by decide +kernel
theorem d_Mod_frameAt_14 : decode b_Mod_frameAt 14 = .ok (.iload_n 2, 1) := by decide +kernel
theorem d_Mod_frameAt_15 : decode b_Mod_frameAt 15 = .ok (.ifCond .lt 17, 3) := by decide +kernel
theorem d_Mod_frameAt_18 : decode b_Mod_frameAt 18 = .ok (.iload_n 2, 1) := by decide +kernel
theorem d_Mod_frameAt_19 : decode b_Mod_frameAt 19 = .ok (.aload_n 0, 1) := by decide +kernel
theorem d_Mod_frameAt_20 : decode b_Mod_frameAt 20 = .ok (.getfield 121, 3) := by decide +kernel
theorem d_Mod_frameAt_23 : decode b_Mod_frameAt 23 = .ok (.iload_n 1, 1) := by decide +kernel
theorem d_Mod_frameAt_24 : decode b_Mod_frameAt 24 = .ok (.iaload, 1) := by decide +kernel
theorem d_Mod_frameAt_25 : decode b_Mod_frameAt 25 = .ok (.if_icmp .ge 7, 3) := by decide +kernel
theorem d_Mod_frameAt_28 : decode b_Mod_frameAt 28 = .ok (.iconst 1, 1) := by decide +kernel
theorem d_Mod_frameAt_29 : decode b_Mod_frameAt 29 = .ok (.goto 4, 3) := by decide +kernel
theorem d_Mod_frameAt_32 : decode b_Mod_frameAt 32 = .ok (.iconst 0, 1) := by decide +kernel
theorem d_Mod_frameAt_33 : decode b_Mod_frameAt 33 = .ok (.istore_n 3, 1) := by decide +kernel
theorem d_Mod_frameAt_34 : decode b_Mod_frameAt 34 = .ok (.iload_n 3, 1) := by decide +kernel
theorem d_Mod_frameAt_35 : decode b_Mod_frameAt 35 = .ok (.ifCond .eq 30, 3) := by decide +kernel
theorem d_Mod_frameAt_38 : decode b_Mod_frameAt 38 = .ok (.aload_n 0, 1) := by decide +kernel
theorem d_Mod_frameAt_39 : decode b_Mod_frameAt 39 = .ok (.getfield 127, 3) := by decide +kernel
theorem d_Mod_frameAt_42 : decode b_Mod_frameAt 42 = .ok (.aload_n 0, 1) := by decide +kernel
theorem d_Mod_frameAt_43 : decode b_Mod_frameAt 43 = .ok (.getfield 118, 3) := by decide +kernel
theorem d_Mod_frameAt_46 : decode b_Mod_frameAt 46 = .ok (.iload_n 1, 1) := by decide +kernel
theorem d_Mod_frameAt_47 : decode b_Mod_frameAt 47 = .ok (.iaload, 1) := by decide +kernel
theorem d_Mod_frameAt_48 : decode b_Mod_frameAt 48 = .ok (.iload_n 2, 1) := by decide +kernel
theorem d_Mod_frameAt_49 : decode b_Mod_frameAt 49 = .ok (.iadd, 1) := by decide +kernel
theorem d_Mod_frameAt_50 : decode b_Mod_frameAt 50 = .ok (.iaload, 1) := by decide +kernel
theorem d_Mod_frameAt_51 : decode b_Mod_frameAt 51 = .ok (.ifCond .lt 14, 3) := by decide +kernel
theorem d_Mod_frameAt_54 : decode b_Mod_frameAt 54 = .ok (.aload_n 0, 1) := by decide +kernel
theorem d_Mod_frameAt_55 : decode b_Mod_frameAt 55 = .ok (.getfield 118, 3) := by decide +kernel
theorem d_Mod_frameAt_58 : decode b_Mod_frameAt 58 = .ok (.iload_n 1, 1) := by decide +kernel
theorem d_Mod_frameAt_59 : decode b_Mod_frameAt 59 = .ok (.iaload, 1) := by decide +kernel
theorem d_Mod_frameAt_60 : decode b_Mod_frameAt 60 = .ok (.iload_n 2, 1) := by decide +kernel
theorem d_Mod_frameAt_61 : decode b_Mod_frameAt 61 = .ok (.iadd, 1) := by decide +kernel
theorem d_Mod_frameAt_62 : decode b_Mod_frameAt 62 = .ok (.goto 4, 3) := by decide +kernel
theorem d_Mod_frameAt_65 : decode b_Mod_frameAt 65 = .ok (.iconst (-1), 1) := by decide +kernel
theorem d_Mod_frameAt_66 : decode b_Mod_frameAt 66 = .ok (.ireturn, 1) := by decide +kernel
theorem d_Mod_kind_8 : decode b_Mod_kind 8 = .ok (.iconst 0, 1) := by decide +kernel
theorem d_Mod_kind_9 : decode b_Mod_kind 9 = .ok (.goto 4, 3) := by decide +kernel
theorem d_Mod_kind_21 : decode b_Mod_kind 21 = .ok (.aload_n 0, 1) := by decide +kernel
theorem d_Mod_kind_22 : decode b_Mod_kind 22 = .ok (.iload_n 1, 1) := by decide +kernel
theorem d_Mod_kind_23 : decode b_Mod_kind 23 = .ok (.iload_n 2, 1) := by decide +kernel
theorem d_Mod_kind_24 : decode b_Mod_kind 24 = .ok (.invokevirtual 417, 3) := by decide +kernel
theorem d_Mod_kind_27 : decode b_Mod_kind 27 = .ok (.istore 5, 2) := by decide +kernel
theorem d_Mod_kind_29 : decode b_Mod_kind 29 = .ok (.iload 5, 2) := by decide +kernel
theorem d_Mod_kind_31 : decode b_Mod_kind 31 = .ok (.ifCond .lt 33, 3) := by decide +kernel
theorem d_Mod_kind_34 : decode b_Mod_kind 34 = .ok (.iload 4, 2) := by decide +kernel
theorem d_Mod_kind_36 : decode b_Mod_kind 36 = .ok (.ifCond .lt 28, 3) := by decide +kernel
theorem d_Mod_kind_39 : decode b_Mod_kind 39 = .ok (.iload 4, 2) := by decide +kernel
theorem d_Mod_kind_41 : decode b_Mod_kind 41 = .ok (.iload_n 3, 1) := by decide +kernel
theorem d_Mod_kind_42 : decode b_Mod_kind 42 = .ok (.ifCond .eq 12, 3) := by decide +kernel
theorem d_Mod_kind_45 : decode b_Mod_kind 45 = .ok (.aload_n 0, 1) := by decide +kernel
theorem d_Mod_kind_46 : decode b_Mod_kind 46 = .ok (.getfield 124, 3) := by decide +kernel
theorem d_Mod_kind_49 : decode b_Mod_kind 49 = .ok (.iload_n 1, 1) := by decide +kernel
theorem d_Mod_kind_50 : decode b_Mod_kind 50 = .ok (.iaload, 1) := by decide +kernel
theorem d_Mod_kind_51 : decode b_Mod_kind 51 = .ok (.goto 10, 3) := by decide +kernel
theorem d_Mod_kind_54 : decode b_Mod_kind 54 = .ok (.aload_n 0, 1) := by decide +kernel
theorem d_Mod_kind_55 : decode b_Mod_kind 55 = .ok (.getfield 127, 3) := by decide +kernel
theorem d_Mod_kind_58 : decode b_Mod_kind 58 = .ok (.iload 5, 2) := by decide +kernel
theorem d_Mod_kind_60 : decode b_Mod_kind 60 = .ok (.iaload, 1) := by decide +kernel
theorem d_Mod_kind_61 : decode b_Mod_kind 61 = .ok (.if_icmp .lt 5, 3) := by decide +kernel
theorem d_Mod_kind_64 : decode b_Mod_kind 64 = .ok (.iconst (-1), 1) := by decide +kernel
theorem d_Mod_kind_65 : decode b_Mod_kind 65 = .ok (.ireturn, 1) := by decide +kernel
theorem d_Mod_kind_66 : decode b_Mod_kind 66 = .ok (.aload_n 0, 1) := by decide +kernel
theorem d_Mod_kind_67 : decode b_Mod_kind 67 = .ok (.getfield 130, 3) := by decide +kernel
theorem d_Mod_kind_70 : decode b_Mod_kind 70 = .ok (.sipush 128, 3) := by decide +kernel
theorem d_Mod_kind_73 : decode b_Mod_kind 73 = .ok (.iload 5, 2) := by decide +kernel
theorem d_Mod_kind_75 : decode b_Mod_kind 75 = .ok (.imul, 1) := by decide +kernel
theorem d_Mod_kind_76 : decode b_Mod_kind 76 = .ok (.iload_n 3, 1) := by decide +kernel
theorem d_Mod_kind_77 : decode b_Mod_kind 77 = .ok (.ifCond .eq 8, 3) := by decide +kernel
theorem d_Mod_kind_80 : decode b_Mod_kind 80 = .ok (.iload 4, 2) := by decide +kernel
theorem d_Mod_kind_82 : decode b_Mod_kind 82 = .ok (.goto 8, 3) := by decide +kernel
theorem d_Mod_kind_85 : decode b_Mod_kind 85 = .ok (.bipush 64, 2) := by decide +kernel
theorem d_Mod_kind_87 : decode b_Mod_kind 87 = .ok (.iload 4, 2) := by decide +kernel
theorem d_Mod_kind_89 : decode b_Mod_kind 89 = .ok (.iadd, 1) := by decide +kernel
theorem d_Mod_kind_90 : decode b_Mod_kind 90 = .ok (.iadd, 1) := by decide +kernel
theorem d_Mod_kind_91 : decode b_Mod_kind 91 = .ok (.iaload, 1) := by decide +kernel
theorem d_Mod_kind_92 : decode b_Mod_kind 92 = .ok (.ireturn, 1) := by decide +kernel
theorem d_Mod_text_12 : decode b_Mod_text 12 = .ok (.iload_n 1, 1) := by decide +kernel
theorem d_Mod_text_13 : decode b_Mod_text 13 = .ok (.iconst 0, 1) := by decide +kernel
theorem d_Mod_text_14 : decode b_Mod_text 14 = .ok (.bipush 6, 2) := by decide +kernel
theorem d_Mod_text_16 : decode b_Mod_text 16 = .ok (.invokestatic 136, 3) := by decide +kernel
theorem d_Mod_text_19 : decode b_Mod_text 19 = .ok (.ifCond .ne 7, 3) := by decide +kernel
theorem d_Mod_text_22 : decode b_Mod_text 22 = .ok (.iconst 2, 1) := by decide +kernel
theorem d_Mod_text_23 : decode b_Mod_text 23 = .ok (.goto 4, 3) := by decide +kernel
theorem d_Mod_text_26 : decode b_Mod_text 26 = .ok (.iconst 0, 1) := by decide +kernel
theorem d_Mod_text_36 : decode b_Mod_text 36 = .ok (.iload_n 1, 1) := by decide +kernel
theorem d_Mod_text_37 : decode b_Mod_text 37 = .ok (.ifCond .ne 7, 3) := by decide +kernel
theorem d_Mod_text_40 : decode b_Mod_text 40 = .ok (.iconst 0, 1) := by decide +kernel
theorem d_Mod_text_41 : decode b_Mod_text 41 = .ok (.goto 64, 3) := by decide +kernel
theorem d_Mod_text_44 : decode b_Mod_text 44 = .ok (.iload_n 1, 1) := by decide +kernel
theorem d_Mod_text_45 : decode b_Mod_text 45 = .ok (.iconst 1, 1) := by decide +kernel
theorem d_Mod_text_46 : decode b_Mod_text 46 = .ok (.if_icmp .ne 7, 3) := by decide +kernel
theorem d_Mod_text_49 : decode b_Mod_text 49 = .ok (.iconst 2, 1) := by decide +kernel
theorem d_Mod_text_50 : decode b_Mod_text 50 = .ok (.goto 55, 3) := by decide +kernel
theorem d_Mod_text_53 : decode b_Mod_text 53 = .ok (.iload_n 1, 1) := by decide +kernel
theorem d_Mod_text_54 : decode b_Mod_text 54 = .ok (.iconst 2, 1) := by decide +kernel
theorem d_Mod_text_55 : decode b_Mod_text 55 = .ok (.if_icmp .ne 13, 3) := by decide +kernel
theorem d_Mod_text_58 : decode b_Mod_text 58 = .ok (.sipush 400, 3) := by decide +kernel
theorem d_Mod_text_61 : decode b_Mod_text 61 = .ok (.iconst 2, 1) := by decide +kernel
theorem d_Mod_text_62 : decode b_Mod_text 62 = .ok (.iload_n 2, 1) := by decide +kernel
theorem d_Mod_text_63 : decode b_Mod_text 63 = .ok (.imul, 1) := by decide +kernel
theorem d_Mod_text_64 : decode b_Mod_text 64 = .ok (.iadd, 1) := by decide +kernel
theorem d_Mod_text_65 : decode b_Mod_text 65 = .ok (.goto 40, 3) := by decide +kernel
theorem d_Mod_text_68 : decode b_Mod_text 68 = .ok (.iload_n 1, 1) := by decide +kernel
theorem d_Mod_text_69 : decode b_Mod_text 69 = .ok (.iconst 5, 1) := by decide +kernel
theorem d_Mod_text_70 : decode b_Mod_text 70 = .ok (.if_icmp .ge 17, 3) := by decide +kernel
theorem d_Mod_text_73 : decode b_Mod_text 73 = .ok (.iconst 4, 1) := by decide +kernel
theorem d_Mod_text_74 : decode b_Mod_text 74 = .ok (.iconst 4, 1) := by decide +kernel
theorem d_Mod_text_75 : decode b_Mod_text 75 = .ok (.iload_n 2, 1) := by decide +kernel
theorem d_Mod_text_76 : decode b_Mod_text 76 = .ok (.imul, 1) := by decide +kernel
theorem d_Mod_text_77 : decode b_Mod_text 77 = .ok (.iadd, 1) := by decide +kernel
theorem d_Mod_text_78 : decode b_Mod_text 78 = .ok (.iconst 2, 1) := by decide +kernel
theorem d_Mod_text_79 : decode b_Mod_text 79 = .ok (.iload_n 1, 1) := by decide +kernel
theorem d_Mod_text_80 : decode b_Mod_text 80 = .ok (.iconst 3, 1) := by decide +kernel
theorem d_Mod_text_81 : decode b_Mod_text 81 = .ok (.isub, 1) := by decide +kernel
theorem d_Mod_text_82 : decode b_Mod_text 82 = .ok (.imul, 1) := by decide +kernel
theorem d_Mod_text_83 : decode b_Mod_text 83 = .ok (.iadd, 1) := by decide +kernel
theorem d_Mod_text_84 : decode b_Mod_text 84 = .ok (.goto 21, 3) := by decide +kernel
theorem d_Mod_text_87 : decode b_Mod_text 87 = .ok (.iconst 4, 1) := by decide +kernel
theorem d_Mod_text_88 : decode b_Mod_text 88 = .ok (.iconst 4, 1) := by decide +kernel
theorem d_Mod_text_89 : decode b_Mod_text 89 = .ok (.aload_n 0, 1) := by decide +kernel
theorem d_Mod_text_90 : decode b_Mod_text 90 = .ok (.getfield 112, 3) := by decide +kernel
theorem d_Mod_text_93 : decode b_Mod_text 93 = .ok (.iconst 2, 1) := by decide +kernel
theorem d_Mod_text_94 : decode b_Mod_text 94 = .ok (.iaload, 1) := by decide +kernel
theorem d_Mod_text_95 : decode b_Mod_text 95 = .ok (.iload_n 2, 1) := by decide +kernel
theorem d_Mod_text_96 : decode b_Mod_text 96 = .ok (.iadd, 1) := by decide +kernel
theorem d_Mod_text_97 : decode b_Mod_text 97 = .ok (.imul, 1) := by decide +kernel
theorem d_Mod_text_98 : decode b_Mod_text 98 = .ok (.iadd, 1) := by decide +kernel
theorem d_Mod_text_99 : decode b_Mod_text 99 = .ok (.iconst 2, 1) := by decide +kernel
theorem d_Mod_text_100 : decode b_Mod_text 100 = .ok (.iload_n 1, 1) := by decide +kernel
theorem d_Mod_text_101 : decode b_Mod_text 101 = .ok (.iconst 5, 1) := by decide +kernel
theorem d_Mod_text_102 : decode b_Mod_text 102 = .ok (.isub, 1) := by decide +kernel
theorem d_Mod_text_103 : decode b_Mod_text 103 = .ok (.imul, 1) := by decide +kernel
theorem d_Mod_text_104 : decode b_Mod_text 104 = .ok (.iadd, 1) := by decide +kernel
theorem d_Mod_text_105 : decode b_Mod_text 105 = .ok (.istore 4, 2) := by decide +kernel
theorem d_Mod_text_107 : decode b_Mod_text 107 = .ok (.iload_n 1, 1) := by decide +kernel
theorem d_Mod_text_108 : decode b_Mod_text 108 = .ok (.iconst 2, 1) := by decide +kernel
theorem d_Mod_text_109 : decode b_Mod_text 109 = .ok (.if_icmp .lt 45, 3) := by decide +kernel
theorem d_Mod_text_112 : decode b_Mod_text 112 = .ok (.iload_n 2, 1) := by decide +kernel
theorem d_Mod_text_113 : decode b_Mod_text 113 = .ok (.ifCond .lt 45, 3) := by decide +kernel
theorem d_Mod_text_116 : decode b_Mod_text 116 = .ok (.iload_n 2, 1) := by decide +kernel
theorem d_Mod_text_117 : decode b_Mod_text 117 = .ok (.iload_n 1, 1) := by decide +kernel
theorem d_Mod_text_118 : decode b_Mod_text 118 = .ok (.iconst 2, 1) := by decide +kernel
theorem d_Mod_text_119 : decode b_Mod_text 119 = .ok (.if_icmp .ne 12, 3) := by decide +kernel
theorem d_Mod_text_122 : decode b_Mod_text 122 = .ok (.aload_n 0, 1) := by decide +kernel
theorem d_Mod_text_123 : decode b_Mod_text 123 = .ok (.getfield 112, 3) := by decide +kernel
theorem d_Mod_text_126 : decode b_Mod_text 126 = .ok (.iconst 1, 1) := by decide +kernel
theorem d_Mod_text_127 : decode b_Mod_text 127 = .ok (.iaload, 1) := by decide +kernel
theorem d_Mod_text_128 : decode b_Mod_text 128 = .ok (.goto 23, 3) := by decide +kernel
theorem d_Mod_text_131 : decode b_Mod_text 131 = .ok (.iload_n 1, 1) := by decide +kernel
theorem d_Mod_text_132 : decode b_Mod_text 132 = .ok (.iconst 5, 1) := by decide +kernel
theorem d_Mod_text_133 : decode b_Mod_text 133 = .ok (.if_icmp .ge 12, 3) := by decide +kernel
theorem d_Mod_text_136 : decode b_Mod_text 136 = .ok (.aload_n 0, 1) := by decide +kernel
theorem d_Mod_text_137 : decode b_Mod_text 137 = .ok (.getfield 112, 3) := by decide +kernel
theorem d_Mod_text_140 : decode b_Mod_text 140 = .ok (.iconst 2, 1) := by decide +kernel
theorem d_Mod_text_141 : decode b_Mod_text 141 = .ok (.iaload, 1) := by decide +kernel
theorem d_Mod_text_142 : decode b_Mod_text 142 = .ok (.goto 9, 3) := by decide +kernel
theorem d_Mod_text_145 : decode b_Mod_text 145 = .ok (.aload_n 0, 1) := by decide +kernel
theorem d_Mod_text_146 : decode b_Mod_text 146 = .ok (.getfield 112, 3) := by decide +kernel
theorem d_Mod_text_149 : decode b_Mod_text 149 = .ok (.iconst 3, 1) := by decide +kernel
theorem d_Mod_text_150 : decode b_Mod_text 150 = .ok (.iaload, 1) := by decide +kernel
theorem d_Mod_text_151 : decode b_Mod_text 151 = .ok (.if_icmp .ge 7, 3) := by decide +kernel
theorem d_Mod_text_154 : decode b_Mod_text 154 = .ok (.iconst 1, 1) := by decide +kernel
theorem d_Mod_text_155 : decode b_Mod_text 155 = .ok (.goto 4, 3) := by decide +kernel
theorem d_Mod_text_158 : decode b_Mod_text 158 = .ok (.iconst 0, 1) := by decide +kernel
theorem d_Mod_text_159 : decode b_Mod_text 159 = .ok (.istore 5, 2) := by decide +kernel
theorem d_Mod_text_161 : decode b_Mod_text 161 = .ok (.iload 5, 2) := by decide +kernel
theorem d_Mod_text_163 : decode b_Mod_text 163 = .ok (.ifCond .eq 38, 3) := by decide +kernel
theorem d_Mod_text_166 : decode b_Mod_text 166 = .ok (.iload_n 3, 1) := by decide +kernel
theorem d_Mod_text_167 : decode b_Mod_text 167 = .ok (.ifCond .lt 34, 3) := by decide +kernel
theorem d_Mod_text_170 : decode b_Mod_text 170 = .ok (.iload_n 3, 1) := by decide +kernel
theorem d_Mod_text_171 : decode b_Mod_text 171 = .ok (.aload_n 0, 1) := by decide +kernel
theorem d_Mod_text_172 : decode b_Mod_text 172 = .ok (.getfield 115, 3) := by decide +kernel
theorem d_Mod_text_175 : decode b_Mod_text 175 = .ok (.iload 4, 2) := by decide +kernel
theorem d_Mod_text_177 : decode b_Mod_text 177 = .ok (.iconst 1, 1) := by decide +kernel
theorem d_Mod_text_178 : decode b_Mod_text 178 = .ok (.iadd, 1) := by decide +kernel
theorem d_Mod_text_179 : decode b_Mod_text 179 = .ok (.iaload, 1) := by decide +kernel
theorem d_Mod_text_180 : decode b_Mod_text 180 = .ok (.if_icmp .ge 21, 3) := by decide +kernel
theorem d_Mod_text_183 : decode b_Mod_text 183 = .ok (.aload_n 0, 1) := by decide +kernel
theorem d_Mod_text_184 : decode b_Mod_text 184 = .ok (.getfield 109, 3) := by decide +kernel
theorem d_Mod_text_187 : decode b_Mod_text 187 = .ok (.aload_n 0, 1) := by decide +kernel
theorem d_Mod_text_188 : decode b_Mod_text 188 = .ok (.getfield 115, 3) := by decide +kernel
theorem d_Mod_text_191 : decode b_Mod_text 191 = .ok (.iload 4, 2) := by decide +kernel
theorem d_Mod_text_193 : decode b_Mod_text 193 = .ok (.iaload, 1) := by decide +kernel
theorem d_Mod_text_194 : decode b_Mod_text 194 = .ok (.iload_n 3, 1) := by decide +kernel
theorem d_Mod_text_195 : decode b_Mod_text 195 = .ok (.iadd, 1) := by decide +kernel
theorem d_Mod_text_196 : decode b_Mod_text 196 = .ok (.iaload, 1) := by decide +kernel
theorem d_Mod_text_197 : decode b_Mod_text 197 = .ok (.i2c, 1) := by decide +kernel
theorem d_Mod_text_198 : decode b_Mod_text 198 = .ok (.goto 5, 3) := by decide +kernel
theorem d_Mod_text_201 : decode b_Mod_text 201 = .ok (.bipush 32, 2) := by decide +kernel
theorem d_Mod_text_203 : decode b_Mod_text 203 = .ok (.ireturn, 1) := by decide +kernel
