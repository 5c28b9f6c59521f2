theorem d_Mod_read_41 : decode b_Mod_read 41 = .ok (.lload_n 1, 1) := by decide +kernel
theorem d_Mod_read_42 : decode b_Mod_read 42 = .ok (.ldc2_w 211, 3) := by decide +kernel
theorem d_Mod_read_45 : decode b_Mod_read 45 = .ok (.lcmp, 1) := by decide +kernel
theorem d_Mod_read_46 : decode b_Mod_read 46 = .ok (.ifCond .eq 9, 3) := by decide +kernel
theorem d_Mod_read_49 : decode b_Mod_read 49 = .ok (.aload_n 0, 1) := by decide +kernel
theorem d_Mod_read_50 : decode b_Mod_read 50 = .ok (.iconst 2, 1) := by decide +kernel
theorem d_Mod_read_51 : decode b_Mod_read 51 = .ok (.iconst 0, 1) := by decide +kernel
theorem d_Mod_read_52 : decode b_Mod_read 52 = .ok (.invokevirtual 159, 3) := by decide +kernel
theorem d_Mod_read_72 : decode b_Mod_read 72 = .ok (.iload_n 3, 1) := by decide +kernel
theorem d_Mod_read_73 : decode b_Mod_read 73 = .ok (.bipush 45, 2) := by decide +kernel
theorem d_Mod_read_75 : decode b_Mod_read 75 = .ok (.bipush 65, 2) := by decide +kernel
theorem d_Mod_read_77 : decode b_Mod_read 77 = .ok (.invokestatic 136, 3) := by decide +kernel
theorem d_Mod_read_80 : decode b_Mod_read 80 = .ok (.ifCond .ne 10, 3) := by decide +kernel
theorem d_Mod_read_83 : decode b_Mod_read 83 = .ok (.aload_n 0, 1) := by decide +kernel
theorem d_Mod_read_84 : decode b_Mod_read 84 = .ok (.iconst 3, 1) := by decide +kernel
theorem d_Mod_read_85 : decode b_Mod_read 85 = .ok (.bipush 6, 2) := by decide +kernel
theorem d_Mod_read_87 : decode b_Mod_read 87 = .ok (.invokevirtual 159, 3) := by decide +kernel
theorem d_Mod_read_143 : decode b_Mod_read 143 = .ok (.aload_n 0, 1) := by decide +kernel
theorem d_Mod_read_144 : decode b_Mod_read 144 = .ok (.getfield 147, 3) := by decide +kernel
theorem d_Mod_read_147 : decode b_Mod_read 147 = .ok (.ifCond .ne 31, 3) := by decide +kernel
theorem d_Mod_read_150 : decode b_Mod_read 150 = .ok (.aload_n 0, 1) := by decide +kernel
theorem d_Mod_read_151 : decode b_Mod_read 151 = .ok (.getfield 47, 3) := by decide +kernel
theorem d_Mod_read_154 : decode b_Mod_read 154 = .ok (.iload 4, 2) := by decide +kernel
theorem d_Mod_read_156 : decode b_Mod_read 156 = .ok (.aload_n 0, 1) := by decide +kernel
theorem d_Mod_read_157 : decode b_Mod_read 157 = .ok (.getfield 150, 3) := by decide +kernel
theorem d_Mod_read_160 : decode b_Mod_read 160 = .ok (.iastore, 1) := by decide +kernel
theorem d_Mod_read_161 : decode b_Mod_read 161 = .ok (.aload_n 0, 1) := by decide +kernel
theorem d_Mod_read_162 : decode b_Mod_read 162 = .ok (.getfield 44, 3) := by decide +kernel
theorem d_Mod_read_165 : decode b_Mod_read 165 = .ok (.iload 4, 2) := by decide +kernel
theorem d_Mod_read_167 : decode b_Mod_read 167 = .ok (.aload_n 0, 1) := by decide +kernel
theorem d_Mod_read_168 : decode b_Mod_read 168 = .ok (.invokevirtual 172, 3) := by decide +kernel
theorem d_Mod_read_171 : decode b_Mod_read 171 = .ok (.iastore, 1) := by decide +kernel
theorem d_Mod_read_172 : decode b_Mod_read 172 = .ok (.iinc 4 1, 3) := by decide +kernel
theorem d_Mod_read_175 : decode b_Mod_read 175 = .ok (.goto (-41), 3) := by decide +kernel
theorem d_Mod_read_215 : decode b_Mod_read 215 = .ok (.aload_n 0, 1) := by decide +kernel
theorem d_Mod_read_216 : decode b_Mod_read 216 = .ok (.getfield 150, 3) := by decide +kernel
theorem d_Mod_read_219 : decode b_Mod_read 219 = .ok (.aload_n 0, 1) := by decide +kernel
theorem d_Mod_read_220 : decode b_Mod_read 220 = .ok (.getfield 140, 3) := by decide +kernel
theorem d_Mod_read_223 : decode b_Mod_read 223 = .ok (.if_icmp .ge 13, 3) := by decide +kernel
theorem d_Mod_read_226 : decode b_Mod_read 226 = .ok (.aload_n 0, 1) := by decide +kernel
theorem d_Mod_read_227 : decode b_Mod_read 227 = .ok (.bipush 9, 2) := by decide +kernel
theorem d_Mod_read_229 : decode b_Mod_read 229 = .ok (.aload_n 0, 1) := by decide +kernel
theorem d_Mod_read_230 : decode b_Mod_read 230 = .ok (.getfield 150, 3) := by decide +kernel
theorem d_Mod_read_233 : decode b_Mod_read 233 = .ok (.invokevirtual 159, 3) := by decide +kernel
