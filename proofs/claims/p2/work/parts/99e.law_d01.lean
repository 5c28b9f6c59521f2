theorem d_Law_law_144 : decode b_Law_law 144 = .ok (.aload_n 0, 1) := by decide +kernel
theorem d_Law_law_145 : decode b_Law_law 145 = .ok (.iload 4, 2) := by decide +kernel
theorem d_Law_law_147 : decode b_Law_law 147 = .ok (.iconst 2, 1) := by decide +kernel
theorem d_Law_law_148 : decode b_Law_law 148 = .ok (.iadd, 1) := by decide +kernel
theorem d_Law_law_149 : decode b_Law_law 149 = .ok (.iaload, 1) := by decide +kernel
theorem d_Law_law_150 : decode b_Law_law 150 = .ok (.aload_n 0, 1) := by decide +kernel
theorem d_Law_law_151 : decode b_Law_law 151 = .ok (.iload 4, 2) := by decide +kernel
theorem d_Law_law_153 : decode b_Law_law 153 = .ok (.iconst 3, 1) := by decide +kernel
theorem d_Law_law_154 : decode b_Law_law 154 = .ok (.iadd, 1) := by decide +kernel
theorem d_Law_law_155 : decode b_Law_law 155 = .ok (.iaload, 1) := by decide +kernel
theorem d_Law_law_156 : decode b_Law_law 156 = .ok (.aload_n 0, 1) := by decide +kernel
theorem d_Law_law_157 : decode b_Law_law 157 = .ok (.iload 4, 2) := by decide +kernel
theorem d_Law_law_159 : decode b_Law_law 159 = .ok (.iconst 4, 1) := by decide +kernel
theorem d_Law_law_160 : decode b_Law_law 160 = .ok (.iadd, 1) := by decide +kernel
theorem d_Law_law_161 : decode b_Law_law 161 = .ok (.iaload, 1) := by decide +kernel
theorem d_Law_law_162 : decode b_Law_law 162 = .ok (.aload_n 0, 1) := by decide +kernel
theorem d_Law_law_163 : decode b_Law_law 163 = .ok (.iload 4, 2) := by decide +kernel
theorem d_Law_law_165 : decode b_Law_law 165 = .ok (.iconst 5, 1) := by decide +kernel
theorem d_Law_law_166 : decode b_Law_law 166 = .ok (.iadd, 1) := by decide +kernel
theorem d_Law_law_167 : decode b_Law_law 167 = .ok (.iaload, 1) := by decide +kernel
theorem d_Law_law_168 : decode b_Law_law 168 = .ok (.invokevirtual 57, 3) := by decide +kernel
theorem d_Law_law_171 : decode b_Law_law 171 = .ok (.istore 6, 2) := by decide +kernel
theorem d_Law_law_173 : decode b_Law_law 173 = .ok (.aload_n 2, 1) := by decide +kernel
theorem d_Law_law_174 : decode b_Law_law 174 = .ok (.invokevirtual 58, 3) := by decide +kernel
theorem d_Law_law_177 : decode b_Law_law 177 = .ok (.iload 5, 2) := by decide +kernel
theorem d_Law_law_179 : decode b_Law_law 179 = .ok (.if_icmp .eq 5, 3) := by decide +kernel
theorem d_Law_law_184 : decode b_Law_law 184 = .ok (.iload 5, 2) := by decide +kernel
theorem d_Law_law_186 : decode b_Law_law 186 = .ok (.ifCond .ne 15, 3) := by decide +kernel
theorem d_Law_law_189 : decode b_Law_law 189 = .ok (.aload_n 3, 1) := by decide +kernel
theorem d_Law_law_190 : decode b_Law_law 190 = .ok (.iconst 0, 1) := by decide +kernel
theorem d_Law_law_191 : decode b_Law_law 191 = .ok (.laload, 1) := by decide +kernel
theorem d_Law_law_192 : decode b_Law_law 192 = .ok (.iload 6, 2) := by decide +kernel
theorem d_Law_law_194 : decode b_Law_law 194 = .ok (.i2l, 1) := by decide +kernel
theorem d_Law_law_195 : decode b_Law_law 195 = .ok (.lcmp, 1) := by decide +kernel
theorem d_Law_law_196 : decode b_Law_law 196 = .ok (.ifCond .eq 5, 3) := by decide +kernel
theorem d_Law_law_201 : decode b_Law_law 201 = .ok (.goto 393, 3) := by decide +kernel
theorem d_Law_law_204 : decode b_Law_law 204 = .ok (.aload_n 1, 1) := by decide +kernel
theorem d_Law_law_205 : decode b_Law_law 205 = .ok (.aload_n 0, 1) := by decide +kernel
theorem d_Law_law_206 : decode b_Law_law 206 = .ok (.iload 4, 2) := by decide +kernel
theorem d_Law_law_208 : decode b_Law_law 208 = .ok (.iconst 1, 1) := by decide +kernel
theorem d_Law_law_209 : decode b_Law_law 209 = .ok (.iadd, 1) := by decide +kernel
theorem d_Law_law_210 : decode b_Law_law 210 = .ok (.iaload, 1) := by decide +kernel
theorem d_Law_law_211 : decode b_Law_law 211 = .ok (.aload_n 0, 1) := by decide +kernel
theorem d_Law_law_212 : decode b_Law_law 212 = .ok (.iload 4, 2) := by decide +kernel
theorem d_Law_law_214 : decode b_Law_law 214 = .ok (.iconst 2, 1) := by decide +kernel
theorem d_Law_law_215 : decode b_Law_law 215 = .ok (.iadd, 1) := by decide +kernel
theorem d_Law_law_216 : decode b_Law_law 216 = .ok (.iaload, 1) := by decide +kernel
theorem d_Law_law_217 : decode b_Law_law 217 = .ok (.aload_n 3, 1) := by decide +kernel
theorem d_Law_law_218 : decode b_Law_law 218 = .ok (.invokestatic 62, 3) := by decide +kernel
theorem d_Law_law_221 : decode b_Law_law 221 = .ok (.istore 5, 2) := by decide +kernel
theorem d_Law_law_223 : decode b_Law_law 223 = .ok (.aload_n 2, 1) := by decide +kernel
theorem d_Law_law_224 : decode b_Law_law 224 = .ok (.aload_n 0, 1) := by decide +kernel
theorem d_Law_law_225 : decode b_Law_law 225 = .ok (.iload 4, 2) := by decide +kernel
theorem d_Law_law_227 : decode b_Law_law 227 = .ok (.iconst 1, 1) := by decide +kernel
theorem d_Law_law_228 : decode b_Law_law 228 = .ok (.iadd, 1) := by decide +kernel
theorem d_Law_law_229 : decode b_Law_law 229 = .ok (.iaload, 1) := by decide +kernel
theorem d_Law_law_230 : decode b_Law_law 230 = .ok (.aload_n 0, 1) := by decide +kernel
theorem d_Law_law_231 : decode b_Law_law 231 = .ok (.iload 4, 2) := by decide +kernel
theorem d_Law_law_233 : decode b_Law_law 233 = .ok (.iconst 2, 1) := by decide +kernel
theorem d_Law_law_234 : decode b_Law_law 234 = .ok (.iadd, 1) := by decide +kernel
