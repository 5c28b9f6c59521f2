theorem d_Mod_rule_28 : decode b_Mod_rule 28 = .ok (.iconst 1, 1) := by decide +kernel
theorem d_Mod_rule_29 : decode b_Mod_rule 29 = .ok (.goto 4, 3) := by decide +kernel
theorem d_Mod_rule_48 : decode b_Mod_rule 48 = .ok (.iload 5, 2) := by decide +kernel
theorem d_Mod_rule_50 : decode b_Mod_rule 50 = .ok (.aload_n 0, 1) := by decide +kernel
theorem d_Mod_rule_51 : decode b_Mod_rule 51 = .ok (.getfield 140, 3) := by decide +kernel
theorem d_Mod_rule_54 : decode b_Mod_rule 54 = .ok (.if_icmp .ge 25, 3) := by decide +kernel
theorem d_Mod_rule_57 : decode b_Mod_rule 57 = .ok (.aload_n 0, 1) := by decide +kernel
theorem d_Mod_rule_58 : decode b_Mod_rule 58 = .ok (.getfield 7, 3) := by decide +kernel
theorem d_Mod_rule_61 : decode b_Mod_rule 61 = .ok (.iload 5, 2) := by decide +kernel
theorem d_Mod_rule_63 : decode b_Mod_rule 63 = .ok (.iaload, 1) := by decide +kernel
theorem d_Mod_rule_64 : decode b_Mod_rule 64 = .ok (.bipush 33, 2) := by decide +kernel
theorem d_Mod_rule_66 : decode b_Mod_rule 66 = .ok (.bipush 126, 2) := by decide +kernel
theorem d_Mod_rule_68 : decode b_Mod_rule 68 = .ok (.invokestatic 136, 3) := by decide +kernel
theorem d_Mod_rule_71 : decode b_Mod_rule 71 = .ok (.istore 4, 2) := by decide +kernel
theorem d_Mod_rule_73 : decode b_Mod_rule 73 = .ok (.iinc 5 1, 3) := by decide +kernel
theorem d_Mod_rule_76 : decode b_Mod_rule 76 = .ok (.goto (-33), 3) := by decide +kernel
theorem d_Mod_rule_89 : decode b_Mod_rule 89 = .ok (.aload_n 0, 1) := by decide +kernel
theorem d_Mod_rule_90 : decode b_Mod_rule 90 = .ok (.getfield 13, 3) := by decide +kernel
theorem d_Mod_rule_93 : decode b_Mod_rule 93 = .ok (.iload_n 3, 1) := by decide +kernel
theorem d_Mod_rule_94 : decode b_Mod_rule 94 = .ok (.iaload, 1) := by decide +kernel
theorem d_Mod_rule_95 : decode b_Mod_rule 95 = .ok (.bipush 6, 2) := by decide +kernel
theorem d_Mod_rule_97 : decode b_Mod_rule 97 = .ok (.if_icmp .ne 7, 3) := by decide +kernel
theorem d_Mod_rule_100 : decode b_Mod_rule 100 = .ok (.iconst 2, 1) := by decide +kernel
theorem d_Mod_rule_101 : decode b_Mod_rule 101 = .ok (.goto 4, 3) := by decide +kernel
theorem d_Mod_rule_104 : decode b_Mod_rule 104 = .ok (.iconst 0, 1) := by decide +kernel
theorem d_Mod_rule_113 : decode b_Mod_rule 113 = .ok (.bipush 6, 2) := by decide +kernel
theorem d_Mod_rule_115 : decode b_Mod_rule 115 = .ok (.iload_n 3, 1) := by decide +kernel
theorem d_Mod_rule_116 : decode b_Mod_rule 116 = .ok (.imul, 1) := by decide +kernel
theorem d_Mod_rule_117 : decode b_Mod_rule 117 = .ok (.aload_n 0, 1) := by decide +kernel
theorem d_Mod_rule_118 : decode b_Mod_rule 118 = .ok (.getfield 13, 3) := by decide +kernel
theorem d_Mod_rule_121 : decode b_Mod_rule 121 = .ok (.iload_n 3, 1) := by decide +kernel
theorem d_Mod_rule_122 : decode b_Mod_rule 122 = .ok (.iaload, 1) := by decide +kernel
theorem d_Mod_rule_123 : decode b_Mod_rule 123 = .ok (.iadd, 1) := by decide +kernel
theorem d_Mod_rule_124 : decode b_Mod_rule 124 = .ok (.istore 5, 2) := by decide +kernel
theorem d_Mod_rule_126 : decode b_Mod_rule 126 = .ok (.aload_n 0, 1) := by decide +kernel
theorem d_Mod_rule_127 : decode b_Mod_rule 127 = .ok (.getfield 16, 3) := by decide +kernel
theorem d_Mod_rule_130 : decode b_Mod_rule 130 = .ok (.iload 5, 2) := by decide +kernel
theorem d_Mod_rule_132 : decode b_Mod_rule 132 = .ok (.iload_n 2, 1) := by decide +kernel
theorem d_Mod_rule_133 : decode b_Mod_rule 133 = .ok (.iastore, 1) := by decide +kernel
theorem d_Mod_rule_134 : decode b_Mod_rule 134 = .ok (.iconst 0, 1) := by decide +kernel
theorem d_Mod_rule_135 : decode b_Mod_rule 135 = .ok (.istore 6, 2) := by decide +kernel
theorem d_Mod_rule_137 : decode b_Mod_rule 137 = .ok (.iload 6, 2) := by decide +kernel
theorem d_Mod_rule_139 : decode b_Mod_rule 139 = .ok (.iload_n 2, 1) := by decide +kernel
theorem d_Mod_rule_140 : decode b_Mod_rule 140 = .ok (.if_icmp .ge 36, 3) := by decide +kernel
theorem d_Mod_rule_143 : decode b_Mod_rule 143 = .ok (.aload_n 0, 1) := by decide +kernel
theorem d_Mod_rule_144 : decode b_Mod_rule 144 = .ok (.getfield 19, 3) := by decide +kernel
theorem d_Mod_rule_147 : decode b_Mod_rule 147 = .ok (.bipush 40, 2) := by decide +kernel
theorem d_Mod_rule_149 : decode b_Mod_rule 149 = .ok (.iload 5, 2) := by decide +kernel
theorem d_Mod_rule_151 : decode b_Mod_rule 151 = .ok (.imul, 1) := by decide +kernel
theorem d_Mod_rule_152 : decode b_Mod_rule 152 = .ok (.iload 6, 2) := by decide +kernel
theorem d_Mod_rule_154 : decode b_Mod_rule 154 = .ok (.iadd, 1) := by decide +kernel
theorem d_Mod_rule_155 : decode b_Mod_rule 155 = .ok (.aload_n 0, 1) := by decide +kernel
theorem d_Mod_rule_156 : decode b_Mod_rule 156 = .ok (.getfield 7, 3) := by decide +kernel
theorem d_Mod_rule_159 : decode b_Mod_rule 159 = .ok (.aload_n 0, 1) := by decide +kernel
theorem d_Mod_rule_160 : decode b_Mod_rule 160 = .ok (.getfield 140, 3) := by decide +kernel
theorem d_Mod_rule_163 : decode b_Mod_rule 163 = .ok (.iload_n 2, 1) := by decide +kernel
theorem d_Mod_rule_164 : decode b_Mod_rule 164 = .ok (.isub, 1) := by decide +kernel
theorem d_Mod_rule_165 : decode b_Mod_rule 165 = .ok (.iload 6, 2) := by decide +kernel
theorem d_Mod_rule_167 : decode b_Mod_rule 167 = .ok (.iadd, 1) := by decide +kernel
theorem d_Mod_rule_168 : decode b_Mod_rule 168 = .ok (.iaload, 1) := by decide +kernel
theorem d_Mod_rule_169 : decode b_Mod_rule 169 = .ok (.iastore, 1) := by decide +kernel
theorem d_Mod_rule_170 : decode b_Mod_rule 170 = .ok (.iinc 6 1, 3) := by decide +kernel
theorem d_Mod_rule_173 : decode b_Mod_rule 173 = .ok (.goto (-36), 3) := by decide +kernel
theorem d_Mod_rule_176 : decode b_Mod_rule 176 = .ok (.aload_n 0, 1) := by decide +kernel
theorem d_Mod_rule_177 : decode b_Mod_rule 177 = .ok (.aload_n 0, 1) := by decide +kernel
theorem d_Mod_rule_178 : decode b_Mod_rule 178 = .ok (.getfield 140, 3) := by decide +kernel
theorem d_Mod_rule_181 : decode b_Mod_rule 181 = .ok (.iload_n 2, 1) := by decide +kernel
theorem d_Mod_rule_182 : decode b_Mod_rule 182 = .ok (.isub, 1) := by decide +kernel
theorem d_Mod_rule_183 : decode b_Mod_rule 183 = .ok (.putfield 140, 3) := by decide +kernel
theorem d_Mod_rule_186 : decode b_Mod_rule 186 = .ok (.aload_n 0, 1) := by decide +kernel
theorem d_Mod_rule_187 : decode b_Mod_rule 187 = .ok (.getfield 13, 3) := by decide +kernel
theorem d_Mod_rule_190 : decode b_Mod_rule 190 = .ok (.iload_n 3, 1) := by decide +kernel
theorem d_Mod_rule_191 : decode b_Mod_rule 191 = .ok (.dup2, 1) := by decide +kernel
theorem d_Mod_rule_192 : decode b_Mod_rule 192 = .ok (.iaload, 1) := by decide +kernel
theorem d_Mod_rule_193 : decode b_Mod_rule 193 = .ok (.iconst 1, 1) := by decide +kernel
theorem d_Mod_rule_194 : decode b_Mod_rule 194 = .ok (.iadd, 1) := by decide +kernel
theorem d_Mod_rule_195 : decode b_Mod_rule 195 = .ok (.iastore, 1) := by decide +kernel
theorem d_Mod_rule_196 : decode b_Mod_rule 196 = .ok (.aload_n 0, 1) := by decide +kernel
theorem d_Mod_rule_197 : decode b_Mod_rule 197 = .ok (.getfield 13, 3) := by decide +kernel
theorem d_Mod_rule_200 : decode b_Mod_rule 200 = .ok (.iload_n 3, 1) := by decide +kernel
theorem d_Mod_rule_201 : decode b_Mod_rule 201 = .ok (.iaload, 1) := by decide +kernel
theorem d_Mod_rule_202 : decode b_Mod_rule 202 = .ok (.ireturn, 1) := by decide +kernel
