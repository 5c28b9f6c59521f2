theorem d_Mod_begins_0 : decode b_Mod_begins 0 = .ok (.iconst 0, 1) := by decide +kernel
theorem d_Mod_begins_1 : decode b_Mod_begins 1 = .ok (.istore_n 3, 1) := by decide +kernel
theorem d_Mod_begins_2 : decode b_Mod_begins 2 = .ok (.bipush 6, 2) := by decide +kernel
theorem d_Mod_begins_4 : decode b_Mod_begins 4 = .ok (.iload_n 2, 1) := by decide +kernel
theorem d_Mod_begins_5 : decode b_Mod_begins 5 = .ok (.imul, 1) := by decide +kernel
theorem d_Mod_begins_6 : decode b_Mod_begins 6 = .ok (.istore 4, 2) := by decide +kernel
theorem d_Mod_begins_8 : decode b_Mod_begins 8 = .ok (.iload 4, 2) := by decide +kernel
theorem d_Mod_begins_10 : decode b_Mod_begins 10 = .ok (.bipush 6, 2) := by decide +kernel
theorem d_Mod_begins_12 : decode b_Mod_begins 12 = .ok (.iload_n 2, 1) := by decide +kernel
theorem d_Mod_begins_13 : decode b_Mod_begins 13 = .ok (.imul, 1) := by decide +kernel
theorem d_Mod_begins_14 : decode b_Mod_begins 14 = .ok (.aload_n 0, 1) := by decide +kernel
theorem d_Mod_begins_15 : decode b_Mod_begins 15 = .ok (.getfield 13, 3) := by decide +kernel
theorem d_Mod_begins_18 : decode b_Mod_begins 18 = .ok (.iload_n 2, 1) := by decide +kernel
theorem d_Mod_begins_19 : decode b_Mod_begins 19 = .ok (.iaload, 1) := by decide +kernel
theorem d_Mod_begins_20 : decode b_Mod_begins 20 = .ok (.iadd, 1) := by decide +kernel
theorem d_Mod_begins_21 : decode b_Mod_begins 21 = .ok (.if_icmp .ge 110, 3) := by decide +kernel
theorem d_Mod_begins_24 : decode b_Mod_begins 24 = .ok (.aload_n 0, 1) := by decide +kernel
theorem d_Mod_begins_25 : decode b_Mod_begins 25 = .ok (.getfield 16, 3) := by decide +kernel
theorem d_Mod_begins_28 : decode b_Mod_begins 28 = .ok (.iload 4, 2) := by decide +kernel
theorem d_Mod_begins_30 : decode b_Mod_begins 30 = .ok (.iaload, 1) := by decide +kernel
theorem d_Mod_begins_31 : decode b_Mod_begins 31 = .ok (.aload_n 0, 1) := by decide +kernel
theorem d_Mod_begins_32 : decode b_Mod_begins 32 = .ok (.getfield 41, 3) := by decide +kernel
theorem d_Mod_begins_35 : decode b_Mod_begins 35 = .ok (.iload_n 1, 1) := by decide +kernel
theorem d_Mod_begins_36 : decode b_Mod_begins 36 = .ok (.iaload, 1) := by decide +kernel
theorem d_Mod_begins_37 : decode b_Mod_begins 37 = .ok (.if_icmp .gt 7, 3) := by decide +kernel
theorem d_Mod_begins_40 : decode b_Mod_begins 40 = .ok (.iconst 1, 1) := by decide +kernel
theorem d_Mod_begins_41 : decode b_Mod_begins 41 = .ok (.goto 4, 3) := by decide +kernel
theorem d_Mod_begins_44 : decode b_Mod_begins 44 = .ok (.iconst 0, 1) := by decide +kernel
theorem d_Mod_begins_45 : decode b_Mod_begins 45 = .ok (.istore 5, 2) := by decide +kernel
theorem d_Mod_begins_47 : decode b_Mod_begins 47 = .ok (.iconst 0, 1) := by decide +kernel
theorem d_Mod_begins_48 : decode b_Mod_begins 48 = .ok (.istore 6, 2) := by decide +kernel
theorem d_Mod_begins_50 : decode b_Mod_begins 50 = .ok (.iload 5, 2) := by decide +kernel
theorem d_Mod_begins_52 : decode b_Mod_begins 52 = .ok (.ifCond .eq 58, 3) := by decide +kernel
theorem d_Mod_begins_55 : decode b_Mod_begins 55 = .ok (.iload 6, 2) := by decide +kernel
theorem d_Mod_begins_57 : decode b_Mod_begins 57 = .ok (.aload_n 0, 1) := by decide +kernel
theorem d_Mod_begins_58 : decode b_Mod_begins 58 = .ok (.getfield 16, 3) := by decide +kernel
theorem d_Mod_begins_61 : decode b_Mod_begins 61 = .ok (.iload 4, 2) := by decide +kernel
theorem d_Mod_begins_63 : decode b_Mod_begins 63 = .ok (.iaload, 1) := by decide +kernel
theorem d_Mod_begins_64 : decode b_Mod_begins 64 = .ok (.if_icmp .ge 46, 3) := by decide +kernel
theorem d_Mod_begins_67 : decode b_Mod_begins 67 = .ok (.aload_n 0, 1) := by decide +kernel
theorem d_Mod_begins_68 : decode b_Mod_begins 68 = .ok (.getfield 7, 3) := by decide +kernel
theorem d_Mod_begins_71 : decode b_Mod_begins 71 = .ok (.aload_n 0, 1) := by decide +kernel
theorem d_Mod_begins_72 : decode b_Mod_begins 72 = .ok (.getfield 38, 3) := by decide +kernel
theorem d_Mod_begins_75 : decode b_Mod_begins 75 = .ok (.iload_n 1, 1) := by decide +kernel
theorem d_Mod_begins_76 : decode b_Mod_begins 76 = .ok (.iaload, 1) := by decide +kernel
theorem d_Mod_begins_77 : decode b_Mod_begins 77 = .ok (.iload 6, 2) := by decide +kernel
theorem d_Mod_begins_79 : decode b_Mod_begins 79 = .ok (.iadd, 1) := by decide +kernel
theorem d_Mod_begins_80 : decode b_Mod_begins 80 = .ok (.iaload, 1) := by decide +kernel
theorem d_Mod_begins_81 : decode b_Mod_begins 81 = .ok (.aload_n 0, 1) := by decide +kernel
theorem d_Mod_begins_82 : decode b_Mod_begins 82 = .ok (.getfield 19, 3) := by decide +kernel
theorem d_Mod_begins_85 : decode b_Mod_begins 85 = .ok (.bipush 40, 2) := by decide +kernel
theorem d_Mod_begins_87 : decode b_Mod_begins 87 = .ok (.iload 4, 2) := by decide +kernel
theorem d_Mod_begins_89 : decode b_Mod_begins 89 = .ok (.imul, 1) := by decide +kernel
theorem d_Mod_begins_90 : decode b_Mod_begins 90 = .ok (.iload 6, 2) := by decide +kernel
theorem d_Mod_begins_92 : decode b_Mod_begins 92 = .ok (.iadd, 1) := by decide +kernel
theorem d_Mod_begins_93 : decode b_Mod_begins 93 = .ok (.iaload, 1) := by decide +kernel
theorem d_Mod_begins_94 : decode b_Mod_begins 94 = .ok (.if_icmp .ne 7, 3) := by decide +kernel
theorem d_Mod_begins_97 : decode b_Mod_begins 97 = .ok (.iconst 1, 1) := by decide +kernel
theorem d_Mod_begins_98 : decode b_Mod_begins 98 = .ok (.goto 4, 3) := by decide +kernel
theorem d_Mod_begins_101 : decode b_Mod_begins 101 = .ok (.iconst 0, 1) := by decide +kernel
theorem d_Mod_begins_102 : decode b_Mod_begins 102 = .ok (.istore 5, 2) := by decide +kernel
theorem d_Mod_begins_104 : decode b_Mod_begins 104 = .ok (.iinc 6 1, 3) := by decide +kernel
theorem d_Mod_begins_107 : decode b_Mod_begins 107 = .ok (.goto (-57), 3) := by decide +kernel
theorem d_Mod_begins_110 : decode b_Mod_begins 110 = .ok (.iload_n 3, 1) := by decide +kernel
theorem d_Mod_begins_111 : decode b_Mod_begins 111 = .ok (.ifCond .ne 8, 3) := by decide +kernel
theorem d_Mod_begins_114 : decode b_Mod_begins 114 = .ok (.iload 5, 2) := by decide +kernel
theorem d_Mod_begins_116 : decode b_Mod_begins 116 = .ok (.ifCond .eq 7, 3) := by decide +kernel
theorem d_Mod_begins_119 : decode b_Mod_begins 119 = .ok (.iconst 1, 1) := by decide +kernel
theorem d_Mod_begins_120 : decode b_Mod_begins 120 = .ok (.goto 4, 3) := by decide +kernel
theorem d_Mod_begins_123 : decode b_Mod_begins 123 = .ok (.iconst 0, 1) := by decide +kernel
theorem d_Mod_begins_124 : decode b_Mod_begins 124 = .ok (.istore_n 3, 1) := by decide +kernel
theorem d_Mod_begins_125 : decode b_Mod_begins 125 = .ok (.iinc 4 1, 3) := by decide +kernel
theorem d_Mod_begins_128 : decode b_Mod_begins 128 = .ok (.goto (-120), 3) := by decide +kernel
theorem d_Mod_begins_131 : decode b_Mod_begins 131 = .ok (.iload_n 3, 1) := by decide +kernel
theorem d_Mod_begins_132 : decode b_Mod_begins 132 = .ok (.ireturn, 1) := by decide +kernel
theorem d_Mod_isFinalizer_0 : decode b_Mod_isFinalizer 0 = .ok (.aload_n 0, 1) := by decide +kernel
theorem d_Mod_isFinalizer_1 : decode b_Mod_isFinalizer 1 = .ok (.getfield 38, 3) := by decide +kernel
theorem d_Mod_isFinalizer_4 : decode b_Mod_isFinalizer 4 = .ok (.aload_n 0, 1) := by decide +kernel
theorem d_Mod_isFinalizer_5 : decode b_Mod_isFinalizer 5 = .ok (.getfield 56, 3) := by decide +kernel
theorem d_Mod_isFinalizer_8 : decode b_Mod_isFinalizer 8 = .ok (.iload_n 1, 1) := by decide +kernel
theorem d_Mod_isFinalizer_9 : decode b_Mod_isFinalizer 9 = .ok (.iaload, 1) := by decide +kernel
theorem d_Mod_isFinalizer_10 : decode b_Mod_isFinalizer 10 = .ok (.iaload, 1) := by decide +kernel
theorem d_Mod_isFinalizer_11 : decode b_Mod_isFinalizer 11 = .ok (.istore_n 2, 1) := by decide +kernel
theorem d_Mod_isFinalizer_12 : decode b_Mod_isFinalizer 12 = .ok (.aload_n 0, 1) := by decide +kernel
theorem d_Mod_isFinalizer_13 : decode b_Mod_isFinalizer 13 = .ok (.getfield 38, 3) := by decide +kernel
theorem d_Mod_isFinalizer_16 : decode b_Mod_isFinalizer 16 = .ok (.aload_n 0, 1) := by decide +kernel
theorem d_Mod_isFinalizer_17 : decode b_Mod_isFinalizer 17 = .ok (.getfield 59, 3) := by decide +kernel
theorem d_Mod_isFinalizer_20 : decode b_Mod_isFinalizer 20 = .ok (.iload_n 1, 1) := by decide +kernel
theorem d_Mod_isFinalizer_21 : decode b_Mod_isFinalizer 21 = .ok (.iaload, 1) := by decide +kernel
theorem d_Mod_isFinalizer_22 : decode b_Mod_isFinalizer 22 = .ok (.iaload, 1) := by decide +kernel
theorem d_Mod_isFinalizer_23 : decode b_Mod_isFinalizer 23 = .ok (.istore_n 3, 1) := by decide +kernel
theorem d_Mod_isFinalizer_24 : decode b_Mod_isFinalizer 24 = .ok (.aload_n 0, 1) := by decide +kernel
theorem d_Mod_isFinalizer_25 : decode b_Mod_isFinalizer 25 = .ok (.getfield 41, 3) := by decide +kernel
theorem d_Mod_isFinalizer_28 : decode b_Mod_isFinalizer 28 = .ok (.aload_n 0, 1) := by decide +kernel
theorem d_Mod_isFinalizer_29 : decode b_Mod_isFinalizer 29 = .ok (.getfield 56, 3) := by decide +kernel
theorem d_Mod_isFinalizer_32 : decode b_Mod_isFinalizer 32 = .ok (.iload_n 1, 1) := by decide +kernel
theorem d_Mod_isFinalizer_33 : decode b_Mod_isFinalizer 33 = .ok (.iaload, 1) := by decide +kernel
theorem d_Mod_isFinalizer_34 : decode b_Mod_isFinalizer 34 = .ok (.iaload, 1) := by decide +kernel
theorem d_Mod_isFinalizer_35 : decode b_Mod_isFinalizer 35 = .ok (.bipush 8, 2) := by decide +kernel
theorem d_Mod_isFinalizer_37 : decode b_Mod_isFinalizer 37 = .ok (.if_icmp .ne 111, 3) := by decide +kernel
theorem d_Mod_isFinalizer_40 : decode b_Mod_isFinalizer 40 = .ok (.aload_n 0, 1) := by decide +kernel
theorem d_Mod_isFinalizer_41 : decode b_Mod_isFinalizer 41 = .ok (.getfield 7, 3) := by decide +kernel
theorem d_Mod_isFinalizer_44 : decode b_Mod_isFinalizer 44 = .ok (.iload_n 2, 1) := by decide +kernel
theorem d_Mod_isFinalizer_45 : decode b_Mod_isFinalizer 45 = .ok (.iaload, 1) := by decide +kernel
theorem d_Mod_isFinalizer_46 : decode b_Mod_isFinalizer 46 = .ok (.bipush 102, 2) := by decide +kernel
theorem d_Mod_isFinalizer_48 : decode b_Mod_isFinalizer 48 = .ok (.if_icmp .ne 100, 3) := by decide +kernel
theorem d_Mod_isFinalizer_51 : decode b_Mod_isFinalizer 51 = .ok (.aload_n 0, 1) := by decide +kernel
theorem d_Mod_isFinalizer_52 : decode b_Mod_isFinalizer 52 = .ok (.getfield 7, 3) := by decide +kernel
theorem d_Mod_isFinalizer_55 : decode b_Mod_isFinalizer 55 = .ok (.iload_n 2, 1) := by decide +kernel
theorem d_Mod_isFinalizer_56 : decode b_Mod_isFinalizer 56 = .ok (.iconst 1, 1) := by decide +kernel
theorem d_Mod_isFinalizer_57 : decode b_Mod_isFinalizer 57 = .ok (.iadd, 1) := by decide +kernel
theorem d_Mod_isFinalizer_58 : decode b_Mod_isFinalizer 58 = .ok (.iaload, 1) := by decide +kernel
theorem d_Mod_isFinalizer_59 : decode b_Mod_isFinalizer 59 = .ok (.bipush 105, 2) := by decide +kernel
theorem d_Mod_isFinalizer_61 : decode b_Mod_isFinalizer 61 = .ok (.if_icmp .ne 87, 3) := by decide +kernel
theorem d_Mod_isFinalizer_64 : decode b_Mod_isFinalizer 64 = .ok (.aload_n 0, 1) := by decide +kernel
theorem d_Mod_isFinalizer_65 : decode b_Mod_isFinalizer 65 = .ok (.getfield 7, 3) := by decide +kernel
theorem d_Mod_isFinalizer_68 : decode b_Mod_isFinalizer 68 = .ok (.iload_n 2, 1) := by decide +kernel
theorem d_Mod_isFinalizer_69 : decode b_Mod_isFinalizer 69 = .ok (.iconst 2, 1) := by decide +kernel
theorem d_Mod_isFinalizer_70 : decode b_Mod_isFinalizer 70 = .ok (.iadd, 1) := by decide +kernel
theorem d_Mod_isFinalizer_71 : decode b_Mod_isFinalizer 71 = .ok (.iaload, 1) := by decide +kernel
theorem d_Mod_isFinalizer_72 : decode b_Mod_isFinalizer 72 = .ok (.bipush 110, 2) := by decide +kernel
theorem d_Mod_isFinalizer_74 : decode b_Mod_isFinalizer 74 = .ok (.if_icmp .ne 74, 3) := by decide +kernel
theorem d_Mod_isFinalizer_77 : decode b_Mod_isFinalizer 77 = .ok (.aload_n 0, 1) := by decide +kernel
theorem d_Mod_isFinalizer_78 : decode b_Mod_isFinalizer 78 = .ok (.getfield 7, 3) := by decide +kernel
theorem d_Mod_isFinalizer_81 : decode b_Mod_isFinalizer 81 = .ok (.iload_n 2, 1) := by decide +kernel
theorem d_Mod_isFinalizer_82 : decode b_Mod_isFinalizer 82 = .ok (.iconst 3, 1) := by decide +kernel
theorem d_Mod_isFinalizer_83 : decode b_Mod_isFinalizer 83 = .ok (.iadd, 1) := by decide +kernel
theorem d_Mod_isFinalizer_84 : decode b_Mod_isFinalizer 84 = .ok (.iaload, 1) := by decide +kernel
theorem d_Mod_isFinalizer_85 : decode b_Mod_isFinalizer 85 = .ok (.bipush 97, 2) := by decide +kernel
theorem d_Mod_isFinalizer_87 : decode b_Mod_isFinalizer 87 = .ok (.if_icmp .ne 61, 3) := by decide +kernel
theorem d_Mod_isFinalizer_90 : decode b_Mod_isFinalizer 90 = .ok (.aload_n 0, 1) := by decide +kernel
theorem d_Mod_isFinalizer_91 : decode b_Mod_isFinalizer 91 = .ok (.getfield 7, 3) := by decide +kernel
theorem d_Mod_isFinalizer_94 : decode b_Mod_isFinalizer 94 = .ok (.iload_n 2, 1) := by decide +kernel
theorem d_Mod_isFinalizer_95 : decode b_Mod_isFinalizer 95 = .ok (.iconst 4, 1) := by decide +kernel
theorem d_Mod_isFinalizer_96 : decode b_Mod_isFinalizer 96 = .ok (.iadd, 1) := by decide +kernel
theorem d_Mod_isFinalizer_97 : decode b_Mod_isFinalizer 97 = .ok (.iaload, 1) := by decide +kernel
theorem d_Mod_isFinalizer_98 : decode b_Mod_isFinalizer 98 = .ok (.bipush 108, 2) := by decide +kernel
theorem d_Mod_isFinalizer_100 : decode b_Mod_isFinalizer 100 = .ok (.if_icmp .ne 48, 3) := by decide +kernel
theorem d_Mod_isFinalizer_103 : decode b_Mod_isFinalizer 103 = .ok (.aload_n 0, 1) := by decide +kernel
theorem d_Mod_isFinalizer_104 : decode b_Mod_isFinalizer 104 = .ok (.getfield 7, 3) := by decide +kernel
theorem d_Mod_isFinalizer_107 : decode b_Mod_isFinalizer 107 = .ok (.iload_n 2, 1) := by decide +kernel
theorem d_Mod_isFinalizer_108 : decode b_Mod_isFinalizer 108 = .ok (.iconst 5, 1) := by decide +kernel
theorem d_Mod_isFinalizer_109 : decode b_Mod_isFinalizer 109 = .ok (.iadd, 1) := by decide +kernel
theorem d_Mod_isFinalizer_110 : decode b_Mod_isFinalizer 110 = .ok (.iaload, 1) := by decide +kernel
theorem d_Mod_isFinalizer_111 : decode b_Mod_isFinalizer 111 = .ok (.bipush 105, 2) := by decide +kernel
theorem d_Mod_isFinalizer_113 : decode b_Mod_isFinalizer 113 = .ok (.if_icmp .ne 35, 3) := by decide +kernel
theorem d_Mod_isFinalizer_116 : decode b_Mod_isFinalizer 116 = .ok (.aload_n 0, 1) := by decide +kernel
theorem d_Mod_isFinalizer_117 : decode b_Mod_isFinalizer 117 = .ok (.getfield 7, 3) := by decide +kernel
theorem d_Mod_isFinalizer_120 : decode b_Mod_isFinalizer 120 = .ok (.iload_n 2, 1) := by decide +kernel
theorem d_Mod_isFinalizer_121 : decode b_Mod_isFinalizer 121 = .ok (.bipush 6, 2) := by decide +kernel
theorem d_Mod_isFinalizer_123 : decode b_Mod_isFinalizer 123 = .ok (.iadd, 1) := by decide +kernel
theorem d_Mod_isFinalizer_124 : decode b_Mod_isFinalizer 124 = .ok (.iaload, 1) := by decide +kernel
theorem d_Mod_isFinalizer_125 : decode b_Mod_isFinalizer 125 = .ok (.bipush 122, 2) := by decide +kernel
theorem d_Mod_isFinalizer_127 : decode b_Mod_isFinalizer 127 = .ok (.if_icmp .ne 21, 3) := by decide +kernel
theorem d_Mod_isFinalizer_130 : decode b_Mod_isFinalizer 130 = .ok (.aload_n 0, 1) := by decide +kernel
theorem d_Mod_isFinalizer_131 : decode b_Mod_isFinalizer 131 = .ok (.getfield 7, 3) := by decide +kernel
theorem d_Mod_isFinalizer_134 : decode b_Mod_isFinalizer 134 = .ok (.iload_n 2, 1) := by decide +kernel
theorem d_Mod_isFinalizer_135 : decode b_Mod_isFinalizer 135 = .ok (.bipush 7, 2) := by decide +kernel
theorem d_Mod_isFinalizer_137 : decode b_Mod_isFinalizer 137 = .ok (.iadd, 1) := by decide +kernel
theorem d_Mod_isFinalizer_138 : decode b_Mod_isFinalizer 138 = .ok (.iaload, 1) := by decide +kernel
theorem d_Mod_isFinalizer_139 : decode b_Mod_isFinalizer 139 = .ok (.bipush 101, 2) := by decide +kernel
theorem d_Mod_isFinalizer_141 : decode b_Mod_isFinalizer 141 = .ok (.if_icmp .ne 7, 3) := by decide +kernel
theorem d_Mod_isFinalizer_144 : decode b_Mod_isFinalizer 144 = .ok (.iconst 1, 1) := by decide +kernel
theorem d_Mod_isFinalizer_145 : decode b_Mod_isFinalizer 145 = .ok (.goto 4, 3) := by decide +kernel
theorem d_Mod_isFinalizer_148 : decode b_Mod_isFinalizer 148 = .ok (.iconst 0, 1) := by decide +kernel
theorem d_Mod_isFinalizer_149 : decode b_Mod_isFinalizer 149 = .ok (.istore 4, 2) := by decide +kernel
theorem d_Mod_isFinalizer_151 : decode b_Mod_isFinalizer 151 = .ok (.iload 4, 2) := by decide +kernel
theorem d_Mod_isFinalizer_153 : decode b_Mod_isFinalizer 153 = .ok (.ifCond .eq 59, 3) := by decide +kernel
theorem d_Mod_isFinalizer_156 : decode b_Mod_isFinalizer 156 = .ok (.aload_n 0, 1) := by decide +kernel
theorem d_Mod_isFinalizer_157 : decode b_Mod_isFinalizer 157 = .ok (.getfield 41, 3) := by decide +kernel
theorem d_Mod_isFinalizer_160 : decode b_Mod_isFinalizer 160 = .ok (.aload_n 0, 1) := by decide +kernel
theorem d_Mod_isFinalizer_161 : decode b_Mod_isFinalizer 161 = .ok (.getfield 59, 3) := by decide +kernel
theorem d_Mod_isFinalizer_164 : decode b_Mod_isFinalizer 164 = .ok (.iload_n 1, 1) := by decide +kernel
theorem d_Mod_isFinalizer_165 : decode b_Mod_isFinalizer 165 = .ok (.iaload, 1) := by decide +kernel
theorem d_Mod_isFinalizer_166 : decode b_Mod_isFinalizer 166 = .ok (.iaload, 1) := by decide +kernel
theorem d_Mod_isFinalizer_167 : decode b_Mod_isFinalizer 167 = .ok (.iconst 3, 1) := by decide +kernel
theorem d_Mod_isFinalizer_168 : decode b_Mod_isFinalizer 168 = .ok (.if_icmp .ne 44, 3) := by decide +kernel
theorem d_Mod_isFinalizer_171 : decode b_Mod_isFinalizer 171 = .ok (.aload_n 0, 1) := by decide +kernel
theorem d_Mod_isFinalizer_172 : decode b_Mod_isFinalizer 172 = .ok (.getfield 7, 3) := by decide +kernel
theorem d_Mod_isFinalizer_175 : decode b_Mod_isFinalizer 175 = .ok (.iload_n 3, 1) := by decide +kernel
theorem d_Mod_isFinalizer_176 : decode b_Mod_isFinalizer 176 = .ok (.iaload, 1) := by decide +kernel
theorem d_Mod_isFinalizer_177 : decode b_Mod_isFinalizer 177 = .ok (.bipush 40, 2) := by decide +kernel
theorem d_Mod_isFinalizer_179 : decode b_Mod_isFinalizer 179 = .ok (.if_icmp .ne 33, 3) := by decide +kernel
theorem d_Mod_isFinalizer_182 : decode b_Mod_isFinalizer 182 = .ok (.aload_n 0, 1) := by decide +kernel
theorem d_Mod_isFinalizer_183 : decode b_Mod_isFinalizer 183 = .ok (.getfield 7, 3) := by decide +kernel
theorem d_Mod_isFinalizer_186 : decode b_Mod_isFinalizer 186 = .ok (.iload_n 3, 1) := by decide +kernel
theorem d_Mod_isFinalizer_187 : decode b_Mod_isFinalizer 187 = .ok (.iconst 1, 1) := by decide +kernel
theorem d_Mod_isFinalizer_188 : decode b_Mod_isFinalizer 188 = .ok (.iadd, 1) := by decide +kernel
theorem d_Mod_isFinalizer_189 : decode b_Mod_isFinalizer 189 = .ok (.iaload, 1) := by decide +kernel
theorem d_Mod_isFinalizer_190 : decode b_Mod_isFinalizer 190 = .ok (.bipush 41, 2) := by decide +kernel
theorem d_Mod_isFinalizer_192 : decode b_Mod_isFinalizer 192 = .ok (.if_icmp .ne 20, 3) := by decide +kernel
theorem d_Mod_isFinalizer_195 : decode b_Mod_isFinalizer 195 = .ok (.aload_n 0, 1) := by decide +kernel
theorem d_Mod_isFinalizer_196 : decode b_Mod_isFinalizer 196 = .ok (.getfield 7, 3) := by decide +kernel
theorem d_Mod_isFinalizer_199 : decode b_Mod_isFinalizer 199 = .ok (.iload_n 3, 1) := by decide +kernel
theorem d_Mod_isFinalizer_200 : decode b_Mod_isFinalizer 200 = .ok (.iconst 2, 1) := by decide +kernel
theorem d_Mod_isFinalizer_201 : decode b_Mod_isFinalizer 201 = .ok (.iadd, 1) := by decide +kernel
theorem d_Mod_isFinalizer_202 : decode b_Mod_isFinalizer 202 = .ok (.iaload, 1) := by decide +kernel
theorem d_Mod_isFinalizer_203 : decode b_Mod_isFinalizer 203 = .ok (.bipush 86, 2) := by decide +kernel
theorem d_Mod_isFinalizer_205 : decode b_Mod_isFinalizer 205 = .ok (.if_icmp .ne 7, 3) := by decide +kernel
theorem d_Mod_isFinalizer_208 : decode b_Mod_isFinalizer 208 = .ok (.iconst 1, 1) := by decide +kernel
theorem d_Mod_isFinalizer_209 : decode b_Mod_isFinalizer 209 = .ok (.goto 4, 3) := by decide +kernel
theorem d_Mod_isFinalizer_212 : decode b_Mod_isFinalizer 212 = .ok (.iconst 0, 1) := by decide +kernel
theorem d_Mod_isFinalizer_213 : decode b_Mod_isFinalizer 213 = .ok (.ireturn, 1) := by decide +kernel
