theorem d_Law_law_144 : decode b_Law_law 144 = .ok (.aload_n 0, 1) := by decide +kernel
theorem d_Law_law_145 : decode b_Law_law 145 = .ok (.iload 4, 2) := by decide +kernel
theorem d_Law_law_147 : decode b_Law_law 147 = .ok (.iconst 2, 1) := by decide +kernel
theorem d_Law_law_148 : decode b_Law_law 148 = .ok (.iadd, 1) := by decide +kernel
theorem d_Law_law_149 : decode b_Law_law 149 = .ok (.iaload, 1) := by decide +kernel
theorem d_Law_law_150 : decode b_Law_law 150 = .ok (.aload_n 0, 1) := by decide +kernel
theorem d_Law_law_151 : decode b_Law_law 151 = .ok (.iload 4, 2) := by decide +kernel
theorem d_Law_law_153 : decode b_Law_law 153 = .ok (.iconst 3, 1) := by decide +kernel
theorem d_Law_law_154 : decode b_Law_law 154 = .ok (.iadd, 1) := by decide +kernel
theorem d_Law_law_155 : decode b_Law_law 155 = .ok (.iaload, 1) := by decide +kernel
theorem d_Law_law_156 : decode b_Law_law 156 = .ok (.aload_n 0, 1) := by decide +kernel
theorem d_Law_law_157 : decode b_Law_law 157 = .ok (.iload 4, 2) := by decide +kernel
theorem d_Law_law_159 : decode b_Law_law 159 = .ok (.iconst 4, 1) := by decide +kernel
theorem d_Law_law_160 : decode b_Law_law 160 = .ok (.iadd, 1) := by decide +kernel
theorem d_Law_law_161 : decode b_Law_law 161 = .ok (.iaload, 1) := by decide +kernel
theorem d_Law_law_162 : decode b_Law_law 162 = .ok (.aload_n 0, 1) := by decide +kernel
theorem d_Law_law_163 : decode b_Law_law 163 = .ok (.iload 4, 2) := by decide +kernel
theorem d_Law_law_165 : decode b_Law_law 165 = .ok (.iconst 5, 1) := by decide +kernel
theorem d_Law_law_166 : decode b_Law_law 166 = .ok (.iadd, 1) := by decide +kernel
theorem d_Law_law_167 : decode b_Law_law 167 = .ok (.iaload, 1) := by decide +kernel
theorem d_Law_law_168 : decode b_Law_law 168 = .ok (.invokevirtual 57, 3) := by decide +kernel
theorem d_Law_law_171 : decode b_Law_law 171 = .ok (.istore 6, 2) := by decide +kernel
theorem d_Law_law_173 : decode b_Law_law 173 = .ok (.goto 421, 3) := by decide +kernel
theorem d_Law_law_176 : decode b_Law_law 176 = .ok (.aload_n 1, 1) := by decide +kernel
theorem d_Law_law_177 : decode b_Law_law 177 = .ok (.aload_n 0, 1) := by decide +kernel
theorem d_Law_law_178 : decode b_Law_law 178 = .ok (.iload 4, 2) := by decide +kernel
theorem d_Law_law_180 : decode b_Law_law 180 = .ok (.iconst 1, 1) := by decide +kernel
theorem d_Law_law_181 : decode b_Law_law 181 = .ok (.iadd, 1) := by decide +kernel
theorem d_Law_law_182 : decode b_Law_law 182 = .ok (.iaload, 1) := by decide +kernel
theorem d_Law_law_183 : decode b_Law_law 183 = .ok (.aload_n 0, 1) := by decide +kernel
theorem d_Law_law_184 : decode b_Law_law 184 = .ok (.iload 4, 2) := by decide +kernel
theorem d_Law_law_186 : decode b_Law_law 186 = .ok (.iconst 2, 1) := by decide +kernel
theorem d_Law_law_187 : decode b_Law_law 187 = .ok (.iadd, 1) := by decide +kernel
theorem d_Law_law_188 : decode b_Law_law 188 = .ok (.iaload, 1) := by decide +kernel
theorem d_Law_law_189 : decode b_Law_law 189 = .ok (.aload_n 3, 1) := by decide +kernel
theorem d_Law_law_190 : decode b_Law_law 190 = .ok (.invokestatic 58, 3) := by decide +kernel
theorem d_Law_law_193 : decode b_Law_law 193 = .ok (.istore 5, 2) := by decide +kernel
theorem d_Law_law_195 : decode b_Law_law 195 = .ok (.aload_n 2, 1) := by decide +kernel
theorem d_Law_law_196 : decode b_Law_law 196 = .ok (.aload_n 0, 1) := by decide +kernel
theorem d_Law_law_197 : decode b_Law_law 197 = .ok (.iload 4, 2) := by decide +kernel
theorem d_Law_law_199 : decode b_Law_law 199 = .ok (.iconst 1, 1) := by decide +kernel
theorem d_Law_law_200 : decode b_Law_law 200 = .ok (.iadd, 1) := by decide +kernel
theorem d_Law_law_201 : decode b_Law_law 201 = .ok (.iaload, 1) := by decide +kernel
theorem d_Law_law_202 : decode b_Law_law 202 = .ok (.aload_n 0, 1) := by decide +kernel
theorem d_Law_law_203 : decode b_Law_law 203 = .ok (.iload 4, 2) := by decide +kernel
theorem d_Law_law_205 : decode b_Law_law 205 = .ok (.iconst 2, 1) := by decide +kernel
theorem d_Law_law_206 : decode b_Law_law 206 = .ok (.iadd, 1) := by decide +kernel
theorem d_Law_law_207 : decode b_Law_law 207 = .ok (.iaload, 1) := by decide +kernel
theorem d_Law_law_208 : decode b_Law_law 208 = .ok (.invokevirtual 61, 3) := by decide +kernel
theorem d_Law_law_211 : decode b_Law_law 211 = .ok (.istore 6, 2) := by decide +kernel
theorem d_Law_law_213 : decode b_Law_law 213 = .ok (.goto 381, 3) := by decide +kernel
theorem d_Law_law_216 : decode b_Law_law 216 = .ok (.aload_n 1, 1) := by decide +kernel
theorem d_Law_law_217 : decode b_Law_law 217 = .ok (.aload_n 0, 1) := by decide +kernel
theorem d_Law_law_218 : decode b_Law_law 218 = .ok (.iload 4, 2) := by decide +kernel
theorem d_Law_law_220 : decode b_Law_law 220 = .ok (.iconst 1, 1) := by decide +kernel
theorem d_Law_law_221 : decode b_Law_law 221 = .ok (.iadd, 1) := by decide +kernel
theorem d_Law_law_222 : decode b_Law_law 222 = .ok (.iaload, 1) := by decide +kernel
theorem d_Law_law_223 : decode b_Law_law 223 = .ok (.aload_n 3, 1) := by decide +kernel
theorem d_Law_law_224 : decode b_Law_law 224 = .ok (.invokestatic 62, 3) := by decide +kernel
theorem d_Law_law_227 : decode b_Law_law 227 = .ok (.istore 5, 2) := by decide +kernel
