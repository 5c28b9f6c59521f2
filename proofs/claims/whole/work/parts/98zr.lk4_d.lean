theorem d_Mod_link_0 : decode b_Mod_link 0 = .ok (.iconst 1, 1) := by decide +kernel
theorem d_Mod_link_1 : decode b_Mod_link 1 = .ok (.istore_n 1, 1) := by decide +kernel
theorem d_Mod_link_2 : decode b_Mod_link 2 = .ok (.iload_n 1, 1) := by decide +kernel
theorem d_Mod_link_3 : decode b_Mod_link 3 = .ok (.aload_n 0, 1) := by decide +kernel
theorem d_Mod_link_4 : decode b_Mod_link 4 = .ok (.getfield 169, 3) := by decide +kernel
theorem d_Mod_link_7 : decode b_Mod_link 7 = .ok (.if_icmp .ge 21, 3) := by decide +kernel
theorem d_Mod_link_10 : decode b_Mod_link 10 = .ok (.aload_n 0, 1) := by decide +kernel
theorem d_Mod_link_11 : decode b_Mod_link 11 = .ok (.getfield 147, 3) := by decide +kernel
theorem d_Mod_link_14 : decode b_Mod_link 14 = .ok (.ifCond .ne 14, 3) := by decide +kernel
theorem d_Mod_link_17 : decode b_Mod_link 17 = .ok (.aload_n 0, 1) := by decide +kernel
theorem d_Mod_link_18 : decode b_Mod_link 18 = .ok (.iload_n 1, 1) := by decide +kernel
theorem d_Mod_link_19 : decode b_Mod_link 19 = .ok (.invokevirtual 270, 3) := by decide +kernel
theorem d_Mod_link_22 : decode b_Mod_link 22 = .ok (.iinc 1 1, 3) := by decide +kernel
theorem d_Mod_link_25 : decode b_Mod_link 25 = .ok (.goto (-23), 3) := by decide +kernel
theorem d_Mod_link_28 : decode b_Mod_link 28 = .ok (.iconst 1, 1) := by decide +kernel
theorem d_Mod_link_29 : decode b_Mod_link 29 = .ok (.istore_n 1, 1) := by decide +kernel
theorem d_Mod_link_30 : decode b_Mod_link 30 = .ok (.iload_n 1, 1) := by decide +kernel
theorem d_Mod_link_31 : decode b_Mod_link 31 = .ok (.aload_n 0, 1) := by decide +kernel
theorem d_Mod_link_32 : decode b_Mod_link 32 = .ok (.getfield 169, 3) := by decide +kernel
theorem d_Mod_link_35 : decode b_Mod_link 35 = .ok (.if_icmp .ge 43, 3) := by decide +kernel
theorem d_Mod_link_38 : decode b_Mod_link 38 = .ok (.aload_n 0, 1) := by decide +kernel
theorem d_Mod_link_39 : decode b_Mod_link 39 = .ok (.getfield 147, 3) := by decide +kernel
theorem d_Mod_link_42 : decode b_Mod_link 42 = .ok (.ifCond .ne 36, 3) := by decide +kernel
theorem d_Mod_link_45 : decode b_Mod_link 45 = .ok (.aload_n 0, 1) := by decide +kernel
theorem d_Mod_link_46 : decode b_Mod_link 46 = .ok (.getfield 32, 3) := by decide +kernel
theorem d_Mod_link_49 : decode b_Mod_link 49 = .ok (.iload_n 1, 1) := by decide +kernel
theorem d_Mod_link_50 : decode b_Mod_link 50 = .ok (.iaload, 1) := by decide +kernel
theorem d_Mod_link_51 : decode b_Mod_link 51 = .ok (.bipush 9, 2) := by decide +kernel
theorem d_Mod_link_53 : decode b_Mod_link 53 = .ok (.if_icmp .eq 14, 3) := by decide +kernel
theorem d_Mod_link_56 : decode b_Mod_link 56 = .ok (.aload_n 0, 1) := by decide +kernel
theorem d_Mod_link_57 : decode b_Mod_link 57 = .ok (.getfield 32, 3) := by decide +kernel
theorem d_Mod_link_60 : decode b_Mod_link 60 = .ok (.iload_n 1, 1) := by decide +kernel
theorem d_Mod_link_61 : decode b_Mod_link 61 = .ok (.iaload, 1) := by decide +kernel
theorem d_Mod_link_62 : decode b_Mod_link 62 = .ok (.bipush 10, 2) := by decide +kernel
theorem d_Mod_link_64 : decode b_Mod_link 64 = .ok (.if_icmp .ne 8, 3) := by decide +kernel
theorem d_Mod_link_67 : decode b_Mod_link 67 = .ok (.aload_n 0, 1) := by decide +kernel
theorem d_Mod_link_68 : decode b_Mod_link 68 = .ok (.iload_n 1, 1) := by decide +kernel
theorem d_Mod_link_69 : decode b_Mod_link 69 = .ok (.invokevirtual 273, 3) := by decide +kernel
theorem d_Mod_link_72 : decode b_Mod_link 72 = .ok (.iinc 1 1, 3) := by decide +kernel
theorem d_Mod_link_75 : decode b_Mod_link 75 = .ok (.goto (-45), 3) := by decide +kernel
theorem d_Mod_link_78 : decode b_Mod_link 78 = .ok (.aload_n 0, 1) := by decide +kernel
theorem d_Mod_link_79 : decode b_Mod_link 79 = .ok (.aload_n 0, 1) := by decide +kernel
theorem d_Mod_link_80 : decode b_Mod_link 80 = .ok (.getfield 219, 3) := by decide +kernel
theorem d_Mod_link_83 : decode b_Mod_link 83 = .ok (.bipush 7, 2) := by decide +kernel
theorem d_Mod_link_85 : decode b_Mod_link 85 = .ok (.invokevirtual 184, 3) := by decide +kernel
theorem d_Mod_link_88 : decode b_Mod_link 88 = .ok (.ifCond .ne 13, 3) := by decide +kernel
theorem d_Mod_link_91 : decode b_Mod_link 91 = .ok (.aload_n 0, 1) := by decide +kernel
theorem d_Mod_link_92 : decode b_Mod_link 92 = .ok (.bipush 6, 2) := by decide +kernel
theorem d_Mod_link_94 : decode b_Mod_link 94 = .ok (.aload_n 0, 1) := by decide +kernel
theorem d_Mod_link_95 : decode b_Mod_link 95 = .ok (.getfield 216, 3) := by decide +kernel
theorem d_Mod_link_98 : decode b_Mod_link 98 = .ok (.invokevirtual 159, 3) := by decide +kernel
theorem d_Mod_link_101 : decode b_Mod_link 101 = .ok (.aload_n 0, 1) := by decide +kernel
theorem d_Mod_link_102 : decode b_Mod_link 102 = .ok (.aload_n 0, 1) := by decide +kernel
theorem d_Mod_link_103 : decode b_Mod_link 103 = .ok (.getfield 222, 3) := by decide +kernel
theorem d_Mod_link_106 : decode b_Mod_link 106 = .ok (.bipush 7, 2) := by decide +kernel
theorem d_Mod_link_108 : decode b_Mod_link 108 = .ok (.invokevirtual 184, 3) := by decide +kernel
theorem d_Mod_link_111 : decode b_Mod_link 111 = .ok (.ifCond .ne 15, 3) := by decide +kernel
theorem d_Mod_link_114 : decode b_Mod_link 114 = .ok (.aload_n 0, 1) := by decide +kernel
theorem d_Mod_link_115 : decode b_Mod_link 115 = .ok (.bipush 6, 2) := by decide +kernel
theorem d_Mod_link_117 : decode b_Mod_link 117 = .ok (.aload_n 0, 1) := by decide +kernel
theorem d_Mod_link_118 : decode b_Mod_link 118 = .ok (.getfield 216, 3) := by decide +kernel
theorem d_Mod_link_121 : decode b_Mod_link 121 = .ok (.iconst 2, 1) := by decide +kernel
theorem d_Mod_link_122 : decode b_Mod_link 122 = .ok (.iadd, 1) := by decide +kernel
theorem d_Mod_link_123 : decode b_Mod_link 123 = .ok (.invokevirtual 159, 3) := by decide +kernel
theorem d_Mod_link_126 : decode b_Mod_link 126 = .ok (.iconst 0, 1) := by decide +kernel
theorem d_Mod_link_127 : decode b_Mod_link 127 = .ok (.istore_n 1, 1) := by decide +kernel
theorem d_Mod_link_128 : decode b_Mod_link 128 = .ok (.iload_n 1, 1) := by decide +kernel
theorem d_Mod_link_129 : decode b_Mod_link 129 = .ok (.aload_n 0, 1) := by decide +kernel
theorem d_Mod_link_130 : decode b_Mod_link 130 = .ok (.getfield 225, 3) := by decide +kernel
theorem d_Mod_link_133 : decode b_Mod_link 133 = .ok (.if_icmp .ge 43, 3) := by decide +kernel
theorem d_Mod_link_136 : decode b_Mod_link 136 = .ok (.aload_n 0, 1) := by decide +kernel
theorem d_Mod_link_137 : decode b_Mod_link 137 = .ok (.getfield 147, 3) := by decide +kernel
theorem d_Mod_link_140 : decode b_Mod_link 140 = .ok (.ifCond .ne 36, 3) := by decide +kernel
theorem d_Mod_link_143 : decode b_Mod_link 143 = .ok (.aload_n 0, 1) := by decide +kernel
theorem d_Mod_link_144 : decode b_Mod_link 144 = .ok (.aload_n 0, 1) := by decide +kernel
theorem d_Mod_link_145 : decode b_Mod_link 145 = .ok (.getfield 44, 3) := by decide +kernel
theorem d_Mod_link_148 : decode b_Mod_link 148 = .ok (.iload_n 1, 1) := by decide +kernel
theorem d_Mod_link_149 : decode b_Mod_link 149 = .ok (.iaload, 1) := by decide +kernel
theorem d_Mod_link_150 : decode b_Mod_link 150 = .ok (.bipush 7, 2) := by decide +kernel
theorem d_Mod_link_152 : decode b_Mod_link 152 = .ok (.invokevirtual 184, 3) := by decide +kernel
theorem d_Mod_link_155 : decode b_Mod_link 155 = .ok (.ifCond .ne 15, 3) := by decide +kernel
theorem d_Mod_link_158 : decode b_Mod_link 158 = .ok (.aload_n 0, 1) := by decide +kernel
theorem d_Mod_link_159 : decode b_Mod_link 159 = .ok (.bipush 6, 2) := by decide +kernel
theorem d_Mod_link_161 : decode b_Mod_link 161 = .ok (.aload_n 0, 1) := by decide +kernel
theorem d_Mod_link_162 : decode b_Mod_link 162 = .ok (.getfield 47, 3) := by decide +kernel
theorem d_Mod_link_165 : decode b_Mod_link 165 = .ok (.iload_n 1, 1) := by decide +kernel
theorem d_Mod_link_166 : decode b_Mod_link 166 = .ok (.iaload, 1) := by decide +kernel
theorem d_Mod_link_167 : decode b_Mod_link 167 = .ok (.invokevirtual 159, 3) := by decide +kernel
theorem d_Mod_link_170 : decode b_Mod_link 170 = .ok (.iinc 1 1, 3) := by decide +kernel
theorem d_Mod_link_173 : decode b_Mod_link 173 = .ok (.goto (-45), 3) := by decide +kernel
theorem d_Mod_link_176 : decode b_Mod_link 176 = .ok (.iconst 0, 1) := by decide +kernel
theorem d_Mod_link_177 : decode b_Mod_link 177 = .ok (.istore_n 1, 1) := by decide +kernel
theorem d_Mod_link_178 : decode b_Mod_link 178 = .ok (.iload_n 1, 1) := by decide +kernel
theorem d_Mod_link_179 : decode b_Mod_link 179 = .ok (.aload_n 0, 1) := by decide +kernel
theorem d_Mod_link_180 : decode b_Mod_link 180 = .ok (.getfield 205, 3) := by decide +kernel
theorem d_Mod_link_183 : decode b_Mod_link 183 = .ok (.if_icmp .ge 21, 3) := by decide +kernel
theorem d_Mod_link_186 : decode b_Mod_link 186 = .ok (.aload_n 0, 1) := by decide +kernel
theorem d_Mod_link_187 : decode b_Mod_link 187 = .ok (.getfield 147, 3) := by decide +kernel
theorem d_Mod_link_190 : decode b_Mod_link 190 = .ok (.ifCond .ne 14, 3) := by decide +kernel
theorem d_Mod_link_193 : decode b_Mod_link 193 = .ok (.aload_n 0, 1) := by decide +kernel
theorem d_Mod_link_194 : decode b_Mod_link 194 = .ok (.iload_n 1, 1) := by decide +kernel
theorem d_Mod_link_195 : decode b_Mod_link 195 = .ok (.invokevirtual 276, 3) := by decide +kernel
theorem d_Mod_link_198 : decode b_Mod_link 198 = .ok (.iinc 1 1, 3) := by decide +kernel
theorem d_Mod_link_201 : decode b_Mod_link 201 = .ok (.goto (-23), 3) := by decide +kernel
theorem d_Mod_link_204 : decode b_Mod_link 204 = .ok (.return_, 1) := by decide +kernel
