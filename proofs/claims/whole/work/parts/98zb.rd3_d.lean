theorem d_Mod_isText_0 : decode b_Mod_isText 0 = .ok (.aload_n 0, 1) := by decide +kernel
theorem d_Mod_isText_1 : decode b_Mod_isText 1 = .ok (.getfield 38, 3) := by decide +kernel
theorem d_Mod_isText_4 : decode b_Mod_isText 4 = .ok (.iload_n 1, 1) := by decide +kernel
theorem d_Mod_isText_5 : decode b_Mod_isText 5 = .ok (.iaload, 1) := by decide +kernel
theorem d_Mod_isText_6 : decode b_Mod_isText 6 = .ok (.istore 6, 2) := by decide +kernel
theorem d_Mod_isText_8 : decode b_Mod_isText 8 = .ok (.aload_n 0, 1) := by decide +kernel
theorem d_Mod_isText_9 : decode b_Mod_isText 9 = .ok (.getfield 41, 3) := by decide +kernel
theorem d_Mod_isText_12 : decode b_Mod_isText 12 = .ok (.iload_n 1, 1) := by decide +kernel
theorem d_Mod_isText_13 : decode b_Mod_isText 13 = .ok (.iaload, 1) := by decide +kernel
theorem d_Mod_isText_14 : decode b_Mod_isText 14 = .ok (.iconst 4, 1) := by decide +kernel
theorem d_Mod_isText_15 : decode b_Mod_isText 15 = .ok (.if_icmp .ne 59, 3) := by decide +kernel
theorem d_Mod_isText_18 : decode b_Mod_isText 18 = .ok (.aload_n 0, 1) := by decide +kernel
theorem d_Mod_isText_19 : decode b_Mod_isText 19 = .ok (.getfield 7, 3) := by decide +kernel
theorem d_Mod_isText_22 : decode b_Mod_isText 22 = .ok (.iload 6, 2) := by decide +kernel
theorem d_Mod_isText_24 : decode b_Mod_isText 24 = .ok (.iaload, 1) := by decide +kernel
theorem d_Mod_isText_25 : decode b_Mod_isText 25 = .ok (.iload_n 2, 1) := by decide +kernel
theorem d_Mod_isText_26 : decode b_Mod_isText 26 = .ok (.if_icmp .ne 48, 3) := by decide +kernel
theorem d_Mod_isText_29 : decode b_Mod_isText 29 = .ok (.aload_n 0, 1) := by decide +kernel
theorem d_Mod_isText_30 : decode b_Mod_isText 30 = .ok (.getfield 7, 3) := by decide +kernel
theorem d_Mod_isText_33 : decode b_Mod_isText 33 = .ok (.iload 6, 2) := by decide +kernel
theorem d_Mod_isText_35 : decode b_Mod_isText 35 = .ok (.iconst 1, 1) := by decide +kernel
theorem d_Mod_isText_36 : decode b_Mod_isText 36 = .ok (.iadd, 1) := by decide +kernel
theorem d_Mod_isText_37 : decode b_Mod_isText 37 = .ok (.iaload, 1) := by decide +kernel
theorem d_Mod_isText_38 : decode b_Mod_isText 38 = .ok (.iload_n 3, 1) := by decide +kernel
theorem d_Mod_isText_39 : decode b_Mod_isText 39 = .ok (.if_icmp .ne 35, 3) := by decide +kernel
theorem d_Mod_isText_42 : decode b_Mod_isText 42 = .ok (.aload_n 0, 1) := by decide +kernel
theorem d_Mod_isText_43 : decode b_Mod_isText 43 = .ok (.getfield 7, 3) := by decide +kernel
theorem d_Mod_isText_46 : decode b_Mod_isText 46 = .ok (.iload 6, 2) := by decide +kernel
theorem d_Mod_isText_48 : decode b_Mod_isText 48 = .ok (.iconst 2, 1) := by decide +kernel
theorem d_Mod_isText_49 : decode b_Mod_isText 49 = .ok (.iadd, 1) := by decide +kernel
theorem d_Mod_isText_50 : decode b_Mod_isText 50 = .ok (.iaload, 1) := by decide +kernel
theorem d_Mod_isText_51 : decode b_Mod_isText 51 = .ok (.iload 4, 2) := by decide +kernel
theorem d_Mod_isText_53 : decode b_Mod_isText 53 = .ok (.if_icmp .ne 21, 3) := by decide +kernel
theorem d_Mod_isText_56 : decode b_Mod_isText 56 = .ok (.aload_n 0, 1) := by decide +kernel
theorem d_Mod_isText_57 : decode b_Mod_isText 57 = .ok (.getfield 7, 3) := by decide +kernel
theorem d_Mod_isText_60 : decode b_Mod_isText 60 = .ok (.iload 6, 2) := by decide +kernel
theorem d_Mod_isText_62 : decode b_Mod_isText 62 = .ok (.iconst 3, 1) := by decide +kernel
theorem d_Mod_isText_63 : decode b_Mod_isText 63 = .ok (.iadd, 1) := by decide +kernel
theorem d_Mod_isText_64 : decode b_Mod_isText 64 = .ok (.iaload, 1) := by decide +kernel
theorem d_Mod_isText_65 : decode b_Mod_isText 65 = .ok (.iload 5, 2) := by decide +kernel
theorem d_Mod_isText_67 : decode b_Mod_isText 67 = .ok (.if_icmp .ne 7, 3) := by decide +kernel
theorem d_Mod_isText_70 : decode b_Mod_isText 70 = .ok (.iconst 1, 1) := by decide +kernel
theorem d_Mod_isText_71 : decode b_Mod_isText 71 = .ok (.goto 4, 3) := by decide +kernel
theorem d_Mod_isText_74 : decode b_Mod_isText 74 = .ok (.iconst 0, 1) := by decide +kernel
theorem d_Mod_isText_75 : decode b_Mod_isText 75 = .ok (.ireturn, 1) := by decide +kernel
theorem d_Mod_readAttribute_0 : decode b_Mod_readAttribute 0 = .ok (.aload_n 0, 1) := by decide +kernel
theorem d_Mod_readAttribute_1 : decode b_Mod_readAttribute 1 = .ok (.getfield 150, 3) := by decide +kernel
theorem d_Mod_readAttribute_4 : decode b_Mod_readAttribute 4 = .ok (.istore_n 1, 1) := by decide +kernel
theorem d_Mod_readAttribute_5 : decode b_Mod_readAttribute 5 = .ok (.aload_n 0, 1) := by decide +kernel
theorem d_Mod_readAttribute_6 : decode b_Mod_readAttribute 6 = .ok (.invokevirtual 172, 3) := by decide +kernel
theorem d_Mod_readAttribute_9 : decode b_Mod_readAttribute 9 = .ok (.istore_n 2, 1) := by decide +kernel
theorem d_Mod_readAttribute_10 : decode b_Mod_readAttribute 10 = .ok (.aload_n 0, 1) := by decide +kernel
theorem d_Mod_readAttribute_11 : decode b_Mod_readAttribute 11 = .ok (.getfield 147, 3) := by decide +kernel
theorem d_Mod_readAttribute_14 : decode b_Mod_readAttribute 14 = .ok (.ifCond .ne 19, 3) := by decide +kernel
theorem d_Mod_readAttribute_17 : decode b_Mod_readAttribute 17 = .ok (.aload_n 0, 1) := by decide +kernel
theorem d_Mod_readAttribute_18 : decode b_Mod_readAttribute 18 = .ok (.iload_n 2, 1) := by decide +kernel
theorem d_Mod_readAttribute_19 : decode b_Mod_readAttribute 19 = .ok (.iconst 1, 1) := by decide +kernel
theorem d_Mod_readAttribute_20 : decode b_Mod_readAttribute 20 = .ok (.invokevirtual 184, 3) := by decide +kernel
theorem d_Mod_readAttribute_23 : decode b_Mod_readAttribute 23 = .ok (.ifCond .ne 10, 3) := by decide +kernel
theorem d_Mod_readAttribute_26 : decode b_Mod_readAttribute 26 = .ok (.aload_n 0, 1) := by decide +kernel
theorem d_Mod_readAttribute_27 : decode b_Mod_readAttribute 27 = .ok (.bipush 6, 2) := by decide +kernel
theorem d_Mod_readAttribute_29 : decode b_Mod_readAttribute 29 = .ok (.iload_n 1, 1) := by decide +kernel
theorem d_Mod_readAttribute_30 : decode b_Mod_readAttribute 30 = .ok (.invokevirtual 159, 3) := by decide +kernel
theorem d_Mod_readAttribute_33 : decode b_Mod_readAttribute 33 = .ok (.aload_n 0, 1) := by decide +kernel
theorem d_Mod_readAttribute_34 : decode b_Mod_readAttribute 34 = .ok (.iconst 4, 1) := by decide +kernel
theorem d_Mod_readAttribute_35 : decode b_Mod_readAttribute 35 = .ok (.invokevirtual 165, 3) := by decide +kernel
theorem d_Mod_readAttribute_38 : decode b_Mod_readAttribute 38 = .ok (.lstore_n 3, 1) := by decide +kernel
theorem d_Mod_readAttribute_39 : decode b_Mod_readAttribute 39 = .ok (.aload_n 0, 1) := by decide +kernel
theorem d_Mod_readAttribute_40 : decode b_Mod_readAttribute 40 = .ok (.lload_n 3, 1) := by decide +kernel
theorem d_Mod_readAttribute_41 : decode b_Mod_readAttribute 41 = .ok (.invokevirtual 180, 3) := by decide +kernel
theorem d_Mod_readAttribute_44 : decode b_Mod_readAttribute 44 = .ok (.pop, 1) := by decide +kernel
theorem d_Mod_readAttribute_45 : decode b_Mod_readAttribute 45 = .ok (.return_, 1) := by decide +kernel
theorem d_Mod_readAttributes_12 : decode b_Mod_readAttributes 12 = .ok (.aload_n 0, 1) := by decide +kernel
theorem d_Mod_readAttributes_13 : decode b_Mod_readAttributes 13 = .ok (.getfield 147, 3) := by decide +kernel
theorem d_Mod_readAttributes_16 : decode b_Mod_readAttributes 16 = .ok (.ifCond .ne 13, 3) := by decide +kernel
theorem d_Mod_readAttributes_19 : decode b_Mod_readAttributes 19 = .ok (.aload_n 0, 1) := by decide +kernel
theorem d_Mod_readAttributes_20 : decode b_Mod_readAttributes 20 = .ok (.invokevirtual 188, 3) := by decide +kernel
theorem d_Mod_readAttributes_23 : decode b_Mod_readAttributes 23 = .ok (.iinc 2 1, 3) := by decide +kernel
theorem d_Mod_readAttributes_26 : decode b_Mod_readAttributes 26 = .ok (.goto (-19), 3) := by decide +kernel
theorem d_Mod_readCode_0 : decode b_Mod_readCode 0 = .ok (.aload_n 0, 1) := by decide +kernel
theorem d_Mod_readCode_1 : decode b_Mod_readCode 1 = .ok (.getfield 65, 3) := by decide +kernel
theorem d_Mod_readCode_4 : decode b_Mod_readCode 4 = .ok (.iload_n 1, 1) := by decide +kernel
theorem d_Mod_readCode_5 : decode b_Mod_readCode 5 = .ok (.aload_n 0, 1) := by decide +kernel
theorem d_Mod_readCode_6 : decode b_Mod_readCode 6 = .ok (.invokevirtual 172, 3) := by decide +kernel
theorem d_Mod_readCode_9 : decode b_Mod_readCode 9 = .ok (.iastore, 1) := by decide +kernel
theorem d_Mod_readCode_10 : decode b_Mod_readCode 10 = .ok (.aload_n 0, 1) := by decide +kernel
theorem d_Mod_readCode_11 : decode b_Mod_readCode 11 = .ok (.getfield 68, 3) := by decide +kernel
theorem d_Mod_readCode_14 : decode b_Mod_readCode 14 = .ok (.iload_n 1, 1) := by decide +kernel
theorem d_Mod_readCode_15 : decode b_Mod_readCode 15 = .ok (.aload_n 0, 1) := by decide +kernel
theorem d_Mod_readCode_16 : decode b_Mod_readCode 16 = .ok (.invokevirtual 172, 3) := by decide +kernel
theorem d_Mod_readCode_19 : decode b_Mod_readCode 19 = .ok (.iastore, 1) := by decide +kernel
theorem d_Mod_readCode_20 : decode b_Mod_readCode 20 = .ok (.aload_n 0, 1) := by decide +kernel
theorem d_Mod_readCode_21 : decode b_Mod_readCode 21 = .ok (.iconst 4, 1) := by decide +kernel
theorem d_Mod_readCode_22 : decode b_Mod_readCode 22 = .ok (.invokevirtual 165, 3) := by decide +kernel
theorem d_Mod_readCode_25 : decode b_Mod_readCode 25 = .ok (.lstore_n 2, 1) := by decide +kernel
theorem d_Mod_readCode_26 : decode b_Mod_readCode 26 = .ok (.aload_n 0, 1) := by decide +kernel
theorem d_Mod_readCode_27 : decode b_Mod_readCode 27 = .ok (.getfield 147, 3) := by decide +kernel
theorem d_Mod_readCode_30 : decode b_Mod_readCode 30 = .ok (.ifCond .ne 19, 3) := by decide +kernel
theorem d_Mod_readCode_33 : decode b_Mod_readCode 33 = .ok (.lload_n 2, 1) := by decide +kernel
theorem d_Mod_readCode_34 : decode b_Mod_readCode 34 = .ok (.lconst 0, 1) := by decide +kernel
theorem d_Mod_readCode_35 : decode b_Mod_readCode 35 = .ok (.lcmp, 1) := by decide +kernel
theorem d_Mod_readCode_36 : decode b_Mod_readCode 36 = .ok (.ifCond .ne 13, 3) := by decide +kernel
theorem d_Mod_readCode_39 : decode b_Mod_readCode 39 = .ok (.aload_n 0, 1) := by decide +kernel
theorem d_Mod_readCode_40 : decode b_Mod_readCode 40 = .ok (.bipush 8, 2) := by decide +kernel
theorem d_Mod_readCode_42 : decode b_Mod_readCode 42 = .ok (.aload_n 0, 1) := by decide +kernel
theorem d_Mod_readCode_43 : decode b_Mod_readCode 43 = .ok (.getfield 156, 3) := by decide +kernel
theorem d_Mod_readCode_46 : decode b_Mod_readCode 46 = .ok (.invokevirtual 159, 3) := by decide +kernel
theorem d_Mod_readCode_49 : decode b_Mod_readCode 49 = .ok (.aload_n 0, 1) := by decide +kernel
theorem d_Mod_readCode_50 : decode b_Mod_readCode 50 = .ok (.getfield 71, 3) := by decide +kernel
theorem d_Mod_readCode_53 : decode b_Mod_readCode 53 = .ok (.iload_n 1, 1) := by decide +kernel
theorem d_Mod_readCode_54 : decode b_Mod_readCode 54 = .ok (.aload_n 0, 1) := by decide +kernel
theorem d_Mod_readCode_55 : decode b_Mod_readCode 55 = .ok (.lload_n 2, 1) := by decide +kernel
theorem d_Mod_readCode_56 : decode b_Mod_readCode 56 = .ok (.invokevirtual 180, 3) := by decide +kernel
theorem d_Mod_readCode_59 : decode b_Mod_readCode 59 = .ok (.iastore, 1) := by decide +kernel
theorem d_Mod_readCode_60 : decode b_Mod_readCode 60 = .ok (.aload_n 0, 1) := by decide +kernel
theorem d_Mod_readCode_61 : decode b_Mod_readCode 61 = .ok (.getfield 74, 3) := by decide +kernel
theorem d_Mod_readCode_64 : decode b_Mod_readCode 64 = .ok (.iload_n 1, 1) := by decide +kernel
theorem d_Mod_readCode_65 : decode b_Mod_readCode 65 = .ok (.lload_n 2, 1) := by decide +kernel
theorem d_Mod_readCode_66 : decode b_Mod_readCode 66 = .ok (.l2i, 1) := by decide +kernel
theorem d_Mod_readCode_67 : decode b_Mod_readCode 67 = .ok (.iastore, 1) := by decide +kernel
theorem d_Mod_readCode_68 : decode b_Mod_readCode 68 = .ok (.aload_n 0, 1) := by decide +kernel
theorem d_Mod_readCode_69 : decode b_Mod_readCode 69 = .ok (.invokevirtual 172, 3) := by decide +kernel
theorem d_Mod_readCode_72 : decode b_Mod_readCode 72 = .ok (.istore 4, 2) := by decide +kernel
theorem d_Mod_readCode_74 : decode b_Mod_readCode 74 = .ok (.aload_n 0, 1) := by decide +kernel
theorem d_Mod_readCode_75 : decode b_Mod_readCode 75 = .ok (.getfield 77, 3) := by decide +kernel
theorem d_Mod_readCode_78 : decode b_Mod_readCode 78 = .ok (.iload_n 1, 1) := by decide +kernel
theorem d_Mod_readCode_79 : decode b_Mod_readCode 79 = .ok (.aload_n 0, 1) := by decide +kernel
theorem d_Mod_readCode_80 : decode b_Mod_readCode 80 = .ok (.getfield 199, 3) := by decide +kernel
theorem d_Mod_readCode_83 : decode b_Mod_readCode 83 = .ok (.iastore, 1) := by decide +kernel
theorem d_Mod_readCode_84 : decode b_Mod_readCode 84 = .ok (.iconst 0, 1) := by decide +kernel
theorem d_Mod_readCode_85 : decode b_Mod_readCode 85 = .ok (.istore 5, 2) := by decide +kernel
theorem d_Mod_readCode_87 : decode b_Mod_readCode 87 = .ok (.iload 5, 2) := by decide +kernel
theorem d_Mod_readCode_89 : decode b_Mod_readCode 89 = .ok (.iload 4, 2) := by decide +kernel
theorem d_Mod_readCode_91 : decode b_Mod_readCode 91 = .ok (.if_icmp .ge 57, 3) := by decide +kernel
theorem d_Mod_readCode_94 : decode b_Mod_readCode 94 = .ok (.aload_n 0, 1) := by decide +kernel
theorem d_Mod_readCode_95 : decode b_Mod_readCode 95 = .ok (.getfield 147, 3) := by decide +kernel
theorem d_Mod_readCode_98 : decode b_Mod_readCode 98 = .ok (.ifCond .ne 50, 3) := by decide +kernel
theorem d_Mod_readCode_101 : decode b_Mod_readCode 101 = .ok (.aload_n 0, 1) := by decide +kernel
theorem d_Mod_readCode_102 : decode b_Mod_readCode 102 = .ok (.getfield 150, 3) := by decide +kernel
theorem d_Mod_readCode_105 : decode b_Mod_readCode 105 = .ok (.istore 6, 2) := by decide +kernel
theorem d_Mod_readCode_107 : decode b_Mod_readCode 107 = .ok (.aload_n 0, 1) := by decide +kernel
theorem d_Mod_readCode_108 : decode b_Mod_readCode 108 = .ok (.bipush 8, 2) := by decide +kernel
theorem d_Mod_readCode_110 : decode b_Mod_readCode 110 = .ok (.invokevirtual 165, 3) := by decide +kernel
theorem d_Mod_readCode_113 : decode b_Mod_readCode 113 = .ok (.pop2, 1) := by decide +kernel
theorem d_Mod_readCode_114 : decode b_Mod_readCode 114 = .ok (.aload_n 0, 1) := by decide +kernel
theorem d_Mod_readCode_115 : decode b_Mod_readCode 115 = .ok (.getfield 147, 3) := by decide +kernel
theorem d_Mod_readCode_118 : decode b_Mod_readCode 118 = .ok (.ifCond .ne 24, 3) := by decide +kernel
theorem d_Mod_readCode_121 : decode b_Mod_readCode 121 = .ok (.aload_n 0, 1) := by decide +kernel
theorem d_Mod_readCode_122 : decode b_Mod_readCode 122 = .ok (.getfield 83, 3) := by decide +kernel
theorem d_Mod_readCode_125 : decode b_Mod_readCode 125 = .ok (.aload_n 0, 1) := by decide +kernel
theorem d_Mod_readCode_126 : decode b_Mod_readCode 126 = .ok (.getfield 199, 3) := by decide +kernel
theorem d_Mod_readCode_129 : decode b_Mod_readCode 129 = .ok (.iload 6, 2) := by decide +kernel
theorem d_Mod_readCode_131 : decode b_Mod_readCode 131 = .ok (.iastore, 1) := by decide +kernel
theorem d_Mod_readCode_132 : decode b_Mod_readCode 132 = .ok (.aload_n 0, 1) := by decide +kernel
theorem d_Mod_readCode_133 : decode b_Mod_readCode 133 = .ok (.dup, 1) := by decide +kernel
theorem d_Mod_readCode_134 : decode b_Mod_readCode 134 = .ok (.getfield 199, 3) := by decide +kernel
theorem d_Mod_readCode_137 : decode b_Mod_readCode 137 = .ok (.iconst 1, 1) := by decide +kernel
theorem d_Mod_readCode_138 : decode b_Mod_readCode 138 = .ok (.iadd, 1) := by decide +kernel
theorem d_Mod_readCode_139 : decode b_Mod_readCode 139 = .ok (.putfield 199, 3) := by decide +kernel
theorem d_Mod_readCode_142 : decode b_Mod_readCode 142 = .ok (.iinc 5 1, 3) := by decide +kernel
theorem d_Mod_readCode_145 : decode b_Mod_readCode 145 = .ok (.goto (-58), 3) := by decide +kernel
theorem d_Mod_readCode_148 : decode b_Mod_readCode 148 = .ok (.aload_n 0, 1) := by decide +kernel
theorem d_Mod_readCode_149 : decode b_Mod_readCode 149 = .ok (.getfield 80, 3) := by decide +kernel
theorem d_Mod_readCode_152 : decode b_Mod_readCode 152 = .ok (.iload_n 1, 1) := by decide +kernel
theorem d_Mod_readCode_153 : decode b_Mod_readCode 153 = .ok (.aload_n 0, 1) := by decide +kernel
theorem d_Mod_readCode_154 : decode b_Mod_readCode 154 = .ok (.getfield 199, 3) := by decide +kernel
theorem d_Mod_readCode_157 : decode b_Mod_readCode 157 = .ok (.iastore, 1) := by decide +kernel
theorem d_Mod_readCode_158 : decode b_Mod_readCode 158 = .ok (.aload_n 0, 1) := by decide +kernel
theorem d_Mod_readCode_159 : decode b_Mod_readCode 159 = .ok (.invokevirtual 202, 3) := by decide +kernel
theorem d_Mod_readCode_162 : decode b_Mod_readCode 162 = .ok (.aload_n 0, 1) := by decide +kernel
theorem d_Mod_readCode_163 : decode b_Mod_readCode 163 = .ok (.getfield 147, 3) := by decide +kernel
theorem d_Mod_readCode_166 : decode b_Mod_readCode 166 = .ok (.ifCond .ne 24, 3) := by decide +kernel
theorem d_Mod_readCode_169 : decode b_Mod_readCode 169 = .ok (.aload_n 0, 1) := by decide +kernel
theorem d_Mod_readCode_170 : decode b_Mod_readCode 170 = .ok (.getfield 150, 3) := by decide +kernel
theorem d_Mod_readCode_173 : decode b_Mod_readCode 173 = .ok (.aload_n 0, 1) := by decide +kernel
theorem d_Mod_readCode_174 : decode b_Mod_readCode 174 = .ok (.getfield 153, 3) := by decide +kernel
theorem d_Mod_readCode_177 : decode b_Mod_readCode 177 = .ok (.if_icmp .ge 13, 3) := by decide +kernel
theorem d_Mod_readCode_180 : decode b_Mod_readCode 180 = .ok (.aload_n 0, 1) := by decide +kernel
theorem d_Mod_readCode_181 : decode b_Mod_readCode 181 = .ok (.bipush 8, 2) := by decide +kernel
theorem d_Mod_readCode_183 : decode b_Mod_readCode 183 = .ok (.aload_n 0, 1) := by decide +kernel
theorem d_Mod_readCode_184 : decode b_Mod_readCode 184 = .ok (.getfield 156, 3) := by decide +kernel
theorem d_Mod_readCode_187 : decode b_Mod_readCode 187 = .ok (.invokevirtual 159, 3) := by decide +kernel
theorem d_Mod_readCode_190 : decode b_Mod_readCode 190 = .ok (.return_, 1) := by decide +kernel
