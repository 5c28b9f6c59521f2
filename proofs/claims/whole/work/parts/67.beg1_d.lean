theorem d_Machine_begin_0 : decode b_Machine_begin 0 = .ok (.aload_n 0, 1) := by decide +kernel
theorem d_Machine_begin_1 : decode b_Machine_begin 1 = .ok (.aload_n 1, 1) := by decide +kernel
theorem d_Machine_begin_2 : decode b_Machine_begin 2 = .ok (.putfield 21, 3) := by decide +kernel
theorem d_Machine_begin_5 : decode b_Machine_begin 5 = .ok (.aload_n 0, 1) := by decide +kernel
theorem d_Machine_begin_6 : decode b_Machine_begin 6 = .ok (.aload_n 0, 1) := by decide +kernel
theorem d_Machine_begin_7 : decode b_Machine_begin 7 = .ok (.getfield 21, 3) := by decide +kernel
theorem d_Machine_begin_10 : decode b_Machine_begin 10 = .ok (.iload_n 2, 1) := by decide +kernel
theorem d_Machine_begin_11 : decode b_Machine_begin 11 = .ok (.invokevirtual 25, 3) := by decide +kernel
theorem d_Machine_begin_14 : decode b_Machine_begin 14 = .ok (.bipush 64, 2) := by decide +kernel
theorem d_Machine_begin_16 : decode b_Machine_begin 16 = .ok (.invokestatic 31, 3) := by decide +kernel
theorem d_Machine_begin_19 : decode b_Machine_begin 19 = .ok (.putfield 37, 3) := by decide +kernel
theorem d_Machine_begin_22 : decode b_Machine_begin 22 = .ok (.aload_n 0, 1) := by decide +kernel
theorem d_Machine_begin_23 : decode b_Machine_begin 23 = .ok (.aload_n 0, 1) := by decide +kernel
theorem d_Machine_begin_24 : decode b_Machine_begin 24 = .ok (.getfield 21, 3) := by decide +kernel
theorem d_Machine_begin_27 : decode b_Machine_begin 27 = .ok (.iload_n 2, 1) := by decide +kernel
theorem d_Machine_begin_28 : decode b_Machine_begin 28 = .ok (.invokevirtual 41, 3) := by decide +kernel
theorem d_Machine_begin_31 : decode b_Machine_begin 31 = .ok (.bipush 64, 2) := by decide +kernel
theorem d_Machine_begin_33 : decode b_Machine_begin 33 = .ok (.invokestatic 31, 3) := by decide +kernel
theorem d_Machine_begin_36 : decode b_Machine_begin 36 = .ok (.putfield 44, 3) := by decide +kernel
theorem d_Machine_begin_39 : decode b_Machine_begin 39 = .ok (.aload_n 0, 1) := by decide +kernel
theorem d_Machine_begin_40 : decode b_Machine_begin 40 = .ok (.iconst 0, 1) := by decide +kernel
theorem d_Machine_begin_41 : decode b_Machine_begin 41 = .ok (.putfield 47, 3) := by decide +kernel
theorem d_Machine_begin_44 : decode b_Machine_begin 44 = .ok (.aload_n 0, 1) := by decide +kernel
theorem d_Machine_begin_45 : decode b_Machine_begin 45 = .ok (.getfield 15, 3) := by decide +kernel
theorem d_Machine_begin_48 : decode b_Machine_begin 48 = .ok (.iconst 0, 1) := by decide +kernel
theorem d_Machine_begin_49 : decode b_Machine_begin 49 = .ok (.invokestatic 50, 3) := by decide +kernel
theorem d_Machine_begin_52 : decode b_Machine_begin 52 = .ok (.aload_n 0, 1) := by decide +kernel
theorem d_Machine_begin_53 : decode b_Machine_begin 53 = .ok (.getfield 21, 3) := by decide +kernel
theorem d_Machine_begin_56 : decode b_Machine_begin 56 = .ok (.iconst 1, 1) := by decide +kernel
theorem d_Machine_begin_57 : decode b_Machine_begin 57 = .ok (.iload_n 2, 1) := by decide +kernel
theorem d_Machine_begin_58 : decode b_Machine_begin 58 = .ok (.invokevirtual 56, 3) := by decide +kernel
theorem d_Machine_begin_61 : decode b_Machine_begin 61 = .ok (.istore_n 3, 1) := by decide +kernel
theorem d_Machine_begin_62 : decode b_Machine_begin 62 = .ok (.aload_n 0, 1) := by decide +kernel
theorem d_Machine_begin_63 : decode b_Machine_begin 63 = .ok (.getfield 21, 3) := by decide +kernel
theorem d_Machine_begin_66 : decode b_Machine_begin 66 = .ok (.iload_n 3, 1) := by decide +kernel
theorem d_Machine_begin_67 : decode b_Machine_begin 67 = .ok (.invokevirtual 60, 3) := by decide +kernel
theorem d_Machine_begin_70 : decode b_Machine_begin 70 = .ok (.istore 4, 2) := by decide +kernel
theorem d_Machine_begin_72 : decode b_Machine_begin 72 = .ok (.aload_n 0, 1) := by decide +kernel
theorem d_Machine_begin_73 : decode b_Machine_begin 73 = .ok (.aload_n 0, 1) := by decide +kernel
theorem d_Machine_begin_74 : decode b_Machine_begin 74 = .ok (.getfield 21, 3) := by decide +kernel
theorem d_Machine_begin_77 : decode b_Machine_begin 77 = .ok (.iload 4, 2) := by decide +kernel
theorem d_Machine_begin_79 : decode b_Machine_begin 79 = .ok (.invokevirtual 63, 3) := by decide +kernel
theorem d_Machine_begin_82 : decode b_Machine_begin 82 = .ok (.aload_n 0, 1) := by decide +kernel
theorem d_Machine_begin_83 : decode b_Machine_begin 83 = .ok (.getfield 21, 3) := by decide +kernel
theorem d_Machine_begin_86 : decode b_Machine_begin 86 = .ok (.iload 4, 2) := by decide +kernel
theorem d_Machine_begin_88 : decode b_Machine_begin 88 = .ok (.invokevirtual 66, 3) := by decide +kernel
theorem d_Machine_begin_91 : decode b_Machine_begin 91 = .ok (.invokevirtual 69, 3) := by decide +kernel
theorem d_Machine_begin_94 : decode b_Machine_begin 94 = .ok (.aload_n 0, 1) := by decide +kernel
theorem d_Machine_begin_95 : decode b_Machine_begin 95 = .ok (.aload_n 0, 1) := by decide +kernel
theorem d_Machine_begin_96 : decode b_Machine_begin 96 = .ok (.getfield 73, 3) := by decide +kernel
theorem d_Machine_begin_99 : decode b_Machine_begin 99 = .ok (.putfield 76, 3) := by decide +kernel
theorem d_Machine_begin_102 : decode b_Machine_begin 102 = .ok (.aload_n 0, 1) := by decide +kernel
theorem d_Machine_begin_103 : decode b_Machine_begin 103 = .ok (.getfield 21, 3) := by decide +kernel
theorem d_Machine_begin_106 : decode b_Machine_begin 106 = .ok (.getfield 79, 3) := by decide +kernel
theorem d_Machine_begin_109 : decode b_Machine_begin 109 = .ok (.iload_n 3, 1) := by decide +kernel
theorem d_Machine_begin_110 : decode b_Machine_begin 110 = .ok (.invokevirtual 83, 3) := by decide +kernel
theorem d_Machine_begin_113 : decode b_Machine_begin 113 = .ok (.bipush 8, 2) := by decide +kernel
theorem d_Machine_begin_115 : decode b_Machine_begin 115 = .ok (.iand, 1) := by decide +kernel
theorem d_Machine_begin_116 : decode b_Machine_begin 116 = .ok (.ifCond .eq 7, 3) := by decide +kernel
theorem d_Machine_begin_119 : decode b_Machine_begin 119 = .ok (.iconst 1, 1) := by decide +kernel
theorem d_Machine_begin_120 : decode b_Machine_begin 120 = .ok (.goto 4, 3) := by decide +kernel
theorem d_Machine_begin_123 : decode b_Machine_begin 123 = .ok (.iconst 0, 1) := by decide +kernel
theorem d_Machine_begin_124 : decode b_Machine_begin 124 = .ok (.istore 5, 2) := by decide +kernel
theorem d_Machine_begin_126 : decode b_Machine_begin 126 = .ok (.iload 5, 2) := by decide +kernel
theorem d_Machine_begin_128 : decode b_Machine_begin 128 = .ok (.ifCond .eq 7, 3) := by decide +kernel
theorem d_Machine_begin_131 : decode b_Machine_begin 131 = .ok (.iconst 0, 1) := by decide +kernel
theorem d_Machine_begin_132 : decode b_Machine_begin 132 = .ok (.goto 4, 3) := by decide +kernel
theorem d_Machine_begin_135 : decode b_Machine_begin 135 = .ok (.iconst 1, 1) := by decide +kernel
theorem d_Machine_begin_136 : decode b_Machine_begin 136 = .ok (.istore 6, 2) := by decide +kernel
theorem d_Machine_begin_138 : decode b_Machine_begin 138 = .ok (.iload 6, 2) := by decide +kernel
theorem d_Machine_begin_140 : decode b_Machine_begin 140 = .ok (.aload_n 0, 1) := by decide +kernel
theorem d_Machine_begin_141 : decode b_Machine_begin 141 = .ok (.getfield 44, 3) := by decide +kernel
theorem d_Machine_begin_144 : decode b_Machine_begin 144 = .ok (.if_icmp .le 6, 3) := by decide +kernel
theorem d_Machine_begin_147 : decode b_Machine_begin 147 = .ok (.bipush 21, 2) := by decide +kernel
theorem d_Machine_begin_149 : decode b_Machine_begin 149 = .ok (.ireturn, 1) := by decide +kernel
theorem d_Machine_begin_150 : decode b_Machine_begin 150 = .ok (.iload 5, 2) := by decide +kernel
theorem d_Machine_begin_152 : decode b_Machine_begin 152 = .ok (.ifCond .ne 10, 3) := by decide +kernel
theorem d_Machine_begin_155 : decode b_Machine_begin 155 = .ok (.aload_n 0, 1) := by decide +kernel
theorem d_Machine_begin_156 : decode b_Machine_begin 156 = .ok (.getfield 15, 3) := by decide +kernel
theorem d_Machine_begin_159 : decode b_Machine_begin 159 = .ok (.iconst 0, 1) := by decide +kernel
theorem d_Machine_begin_160 : decode b_Machine_begin 160 = .ok (.iconst 4, 1) := by decide +kernel
theorem d_Machine_begin_161 : decode b_Machine_begin 161 = .ok (.iastore, 1) := by decide +kernel
theorem d_Machine_begin_162 : decode b_Machine_begin 162 = .ok (.iconst 0, 1) := by decide +kernel
theorem d_Machine_begin_163 : decode b_Machine_begin 163 = .ok (.istore 7, 2) := by decide +kernel
theorem d_Machine_begin_165 : decode b_Machine_begin 165 = .ok (.iload 7, 2) := by decide +kernel
theorem d_Machine_begin_167 : decode b_Machine_begin 167 = .ok (.aload_n 0, 1) := by decide +kernel
theorem d_Machine_begin_168 : decode b_Machine_begin 168 = .ok (.getfield 88, 3) := by decide +kernel
theorem d_Machine_begin_171 : decode b_Machine_begin 171 = .ok (.if_icmp .ge 78, 3) := by decide +kernel
theorem d_Machine_begin_174 : decode b_Machine_begin 174 = .ok (.aload_n 0, 1) := by decide +kernel
theorem d_Machine_begin_175 : decode b_Machine_begin 175 = .ok (.getfield 18, 3) := by decide +kernel
theorem d_Machine_begin_178 : decode b_Machine_begin 178 = .ok (.iload 7, 2) := by decide +kernel
theorem d_Machine_begin_180 : decode b_Machine_begin 180 = .ok (.iaload, 1) := by decide +kernel
theorem d_Machine_begin_181 : decode b_Machine_begin 181 = .ok (.bipush 74, 2) := by decide +kernel
theorem d_Machine_begin_183 : decode b_Machine_begin 183 = .ok (.if_icmp .eq 15, 3) := by decide +kernel
theorem d_Machine_begin_186 : decode b_Machine_begin 186 = .ok (.aload_n 0, 1) := by decide +kernel
theorem d_Machine_begin_187 : decode b_Machine_begin 187 = .ok (.getfield 18, 3) := by decide +kernel
theorem d_Machine_begin_190 : decode b_Machine_begin 190 = .ok (.iload 7, 2) := by decide +kernel
theorem d_Machine_begin_192 : decode b_Machine_begin 192 = .ok (.iaload, 1) := by decide +kernel
theorem d_Machine_begin_193 : decode b_Machine_begin 193 = .ok (.bipush 68, 2) := by decide +kernel
theorem d_Machine_begin_195 : decode b_Machine_begin 195 = .ok (.if_icmp .ne 7, 3) := by decide +kernel
theorem d_Machine_begin_198 : decode b_Machine_begin 198 = .ok (.iconst 2, 1) := by decide +kernel
theorem d_Machine_begin_199 : decode b_Machine_begin 199 = .ok (.goto 4, 3) := by decide +kernel
theorem d_Machine_begin_202 : decode b_Machine_begin 202 = .ok (.iconst 1, 1) := by decide +kernel
theorem d_Machine_begin_203 : decode b_Machine_begin 203 = .ok (.istore 8, 2) := by decide +kernel
theorem d_Machine_begin_205 : decode b_Machine_begin 205 = .ok (.iload 6, 2) := by decide +kernel
theorem d_Machine_begin_207 : decode b_Machine_begin 207 = .ok (.iload 8, 2) := by decide +kernel
theorem d_Machine_begin_209 : decode b_Machine_begin 209 = .ok (.iadd, 1) := by decide +kernel
theorem d_Machine_begin_210 : decode b_Machine_begin 210 = .ok (.aload_n 0, 1) := by decide +kernel
theorem d_Machine_begin_211 : decode b_Machine_begin 211 = .ok (.getfield 44, 3) := by decide +kernel
theorem d_Machine_begin_214 : decode b_Machine_begin 214 = .ok (.if_icmp .le 6, 3) := by decide +kernel
theorem d_Machine_begin_217 : decode b_Machine_begin 217 = .ok (.bipush 21, 2) := by decide +kernel
theorem d_Machine_begin_219 : decode b_Machine_begin 219 = .ok (.ireturn, 1) := by decide +kernel
theorem d_Machine_begin_220 : decode b_Machine_begin 220 = .ok (.aload_n 0, 1) := by decide +kernel
theorem d_Machine_begin_221 : decode b_Machine_begin 221 = .ok (.iload 6, 2) := by decide +kernel
theorem d_Machine_begin_223 : decode b_Machine_begin 223 = .ok (.aload_n 0, 1) := by decide +kernel
theorem d_Machine_begin_224 : decode b_Machine_begin 224 = .ok (.getfield 18, 3) := by decide +kernel
theorem d_Machine_begin_227 : decode b_Machine_begin 227 = .ok (.iload 7, 2) := by decide +kernel
theorem d_Machine_begin_229 : decode b_Machine_begin 229 = .ok (.iaload, 1) := by decide +kernel
theorem d_Machine_begin_230 : decode b_Machine_begin 230 = .ok (.invokestatic 91, 3) := by decide +kernel
theorem d_Machine_begin_233 : decode b_Machine_begin 233 = .ok (.invokevirtual 96, 3) := by decide +kernel
theorem d_Machine_begin_236 : decode b_Machine_begin 236 = .ok (.iload 6, 2) := by decide +kernel
theorem d_Machine_begin_238 : decode b_Machine_begin 238 = .ok (.iload 8, 2) := by decide +kernel
theorem d_Machine_begin_240 : decode b_Machine_begin 240 = .ok (.iadd, 1) := by decide +kernel
theorem d_Machine_begin_241 : decode b_Machine_begin 241 = .ok (.istore 6, 2) := by decide +kernel
theorem d_Machine_begin_243 : decode b_Machine_begin 243 = .ok (.iinc 7 1, 3) := by decide +kernel
theorem d_Machine_begin_246 : decode b_Machine_begin 246 = .ok (.goto (-81), 3) := by decide +kernel
theorem d_Machine_begin_249 : decode b_Machine_begin 249 = .ok (.iconst 0, 1) := by decide +kernel
theorem d_Machine_begin_250 : decode b_Machine_begin 250 = .ok (.ireturn, 1) := by decide +kernel
