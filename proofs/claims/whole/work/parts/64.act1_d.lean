theorem d_Machine_act_0 : decode b_Machine_act 0 = .ok (.aload_n 0, 1) := by decide +kernel
theorem d_Machine_act_1 : decode b_Machine_act 1 = .ok (.getfield 21, 3) := by decide +kernel
theorem d_Machine_act_4 : decode b_Machine_act 4 = .ok (.getfield 79, 3) := by decide +kernel
theorem d_Machine_act_7 : decode b_Machine_act 7 = .ok (.astore_n 2, 1) := by decide +kernel
theorem d_Machine_act_8 : decode b_Machine_act 8 = .ok (.aload_n 2, 1) := by decide +kernel
theorem d_Machine_act_9 : decode b_Machine_act 9 = .ok (.iload_n 1, 1) := by decide +kernel
theorem d_Machine_act_10 : decode b_Machine_act 10 = .ok (.invokevirtual 99, 3) := by decide +kernel
theorem d_Machine_act_13 : decode b_Machine_act 13 = .ok (.istore_n 3, 1) := by decide +kernel
theorem d_Machine_act_14 : decode b_Machine_act 14 = .ok (.iload_n 3, 1) := by decide +kernel
theorem d_Machine_act_15 : decode b_Machine_act 15 = .ok (.invokestatic 102, 3) := by decide +kernel
theorem d_Machine_act_18 : decode b_Machine_act 18 = .ok (.ifCond .eq 16, 3) := by decide +kernel
theorem d_Machine_act_21 : decode b_Machine_act 21 = .ok (.aload_n 0, 1) := by decide +kernel
theorem d_Machine_act_22 : decode b_Machine_act 22 = .ok (.iload_n 3, 1) := by decide +kernel
theorem d_Machine_act_23 : decode b_Machine_act 23 = .ok (.aload_n 2, 1) := by decide +kernel
theorem d_Machine_act_24 : decode b_Machine_act 24 = .ok (.iload_n 1, 1) := by decide +kernel
theorem d_Machine_act_25 : decode b_Machine_act 25 = .ok (.iconst 1, 1) := by decide +kernel
theorem d_Machine_act_26 : decode b_Machine_act 26 = .ok (.iadd, 1) := by decide +kernel
theorem d_Machine_act_27 : decode b_Machine_act 27 = .ok (.invokevirtual 99, 3) := by decide +kernel
theorem d_Machine_act_30 : decode b_Machine_act 30 = .ok (.invokevirtual 108, 3) := by decide +kernel
theorem d_Machine_act_33 : decode b_Machine_act 33 = .ok (.ireturn, 1) := by decide +kernel
theorem d_Machine_act_34 : decode b_Machine_act 34 = .ok (.iload_n 3, 1) := by decide +kernel
theorem d_Machine_act_35 : decode b_Machine_act 35 = .ok (.bipush 18, 2) := by decide +kernel
theorem d_Machine_act_37 : decode b_Machine_act 37 = .ok (.if_icmp .ne 22, 3) := by decide +kernel
theorem d_Machine_act_40 : decode b_Machine_act 40 = .ok (.aload_n 0, 1) := by decide +kernel
theorem d_Machine_act_41 : decode b_Machine_act 41 = .ok (.aload_n 0, 1) := by decide +kernel
theorem d_Machine_act_42 : decode b_Machine_act 42 = .ok (.getfield 21, 3) := by decide +kernel
theorem d_Machine_act_45 : decode b_Machine_act 45 = .ok (.aload_n 2, 1) := by decide +kernel
theorem d_Machine_act_46 : decode b_Machine_act 46 = .ok (.iload_n 1, 1) := by decide +kernel
theorem d_Machine_act_47 : decode b_Machine_act 47 = .ok (.iconst 1, 1) := by decide +kernel
theorem d_Machine_act_48 : decode b_Machine_act 48 = .ok (.iadd, 1) := by decide +kernel
theorem d_Machine_act_49 : decode b_Machine_act 49 = .ok (.invokevirtual 99, 3) := by decide +kernel
theorem d_Machine_act_52 : decode b_Machine_act 52 = .ok (.invokevirtual 111, 3) := by decide +kernel
theorem d_Machine_act_55 : decode b_Machine_act 55 = .ok (.invokevirtual 114, 3) := by decide +kernel
theorem d_Machine_act_58 : decode b_Machine_act 58 = .ok (.ireturn, 1) := by decide +kernel
theorem d_Machine_act_59 : decode b_Machine_act 59 = .ok (.aload_n 2, 1) := by decide +kernel
theorem d_Machine_act_60 : decode b_Machine_act 60 = .ok (.iload_n 1, 1) := by decide +kernel
theorem d_Machine_act_61 : decode b_Machine_act 61 = .ok (.iconst 1, 1) := by decide +kernel
theorem d_Machine_act_62 : decode b_Machine_act 62 = .ok (.iadd, 1) := by decide +kernel
theorem d_Machine_act_63 : decode b_Machine_act 63 = .ok (.invokevirtual 83, 3) := by decide +kernel
theorem d_Machine_act_66 : decode b_Machine_act 66 = .ok (.istore 4, 2) := by decide +kernel
theorem d_Machine_act_68 : decode b_Machine_act 68 = .ok (.iload_n 3, 1) := by decide +kernel
theorem d_Machine_act_69 : decode b_Machine_act 69 = .ok (.invokestatic 117, 3) := by decide +kernel
theorem d_Machine_act_72 : decode b_Machine_act 72 = .ok (.ifCond .eq 22, 3) := by decide +kernel
theorem d_Machine_act_75 : decode b_Machine_act 75 = .ok (.aload_n 0, 1) := by decide +kernel
theorem d_Machine_act_76 : decode b_Machine_act 76 = .ok (.getfield 21, 3) := by decide +kernel
theorem d_Machine_act_79 : decode b_Machine_act 79 = .ok (.iload 4, 2) := by decide +kernel
theorem d_Machine_act_81 : decode b_Machine_act 81 = .ok (.invokevirtual 111, 3) := by decide +kernel
theorem d_Machine_act_84 : decode b_Machine_act 84 = .ok (.iload_n 3, 1) := by decide +kernel
theorem d_Machine_act_85 : decode b_Machine_act 85 = .ok (.invokestatic 120, 3) := by decide +kernel
theorem d_Machine_act_88 : decode b_Machine_act 88 = .ok (.if_icmp .eq 6, 3) := by decide +kernel
theorem d_Machine_act_91 : decode b_Machine_act 91 = .ok (.bipush 6, 2) := by decide +kernel
theorem d_Machine_act_93 : decode b_Machine_act 93 = .ok (.ireturn, 1) := by decide +kernel
theorem d_Machine_act_94 : decode b_Machine_act 94 = .ok (.iload_n 3, 1) := by decide +kernel
theorem d_Machine_act_95 : decode b_Machine_act 95 = .ok (.invokestatic 121, 3) := by decide +kernel
theorem d_Machine_act_98 : decode b_Machine_act 98 = .ok (.ifCond .eq 11, 3) := by decide +kernel
theorem d_Machine_act_101 : decode b_Machine_act 101 = .ok (.aload_n 0, 1) := by decide +kernel
theorem d_Machine_act_102 : decode b_Machine_act 102 = .ok (.iload_n 3, 1) := by decide +kernel
theorem d_Machine_act_103 : decode b_Machine_act 103 = .ok (.iload 4, 2) := by decide +kernel
theorem d_Machine_act_105 : decode b_Machine_act 105 = .ok (.invokevirtual 124, 3) := by decide +kernel
theorem d_Machine_act_108 : decode b_Machine_act 108 = .ok (.ireturn, 1) := by decide +kernel
theorem d_Machine_act_109 : decode b_Machine_act 109 = .ok (.iload_n 3, 1) := by decide +kernel
theorem d_Machine_act_110 : decode b_Machine_act 110 = .ok (.invokestatic 127, 3) := by decide +kernel
theorem d_Machine_act_113 : decode b_Machine_act 113 = .ok (.ifCond .eq 11, 3) := by decide +kernel
theorem d_Machine_act_116 : decode b_Machine_act 116 = .ok (.aload_n 0, 1) := by decide +kernel
theorem d_Machine_act_117 : decode b_Machine_act 117 = .ok (.iload_n 3, 1) := by decide +kernel
theorem d_Machine_act_118 : decode b_Machine_act 118 = .ok (.iload 4, 2) := by decide +kernel
theorem d_Machine_act_120 : decode b_Machine_act 120 = .ok (.invokevirtual 130, 3) := by decide +kernel
theorem d_Machine_act_123 : decode b_Machine_act 123 = .ok (.ireturn, 1) := by decide +kernel
theorem d_Machine_act_124 : decode b_Machine_act 124 = .ok (.iload_n 3, 1) := by decide +kernel
theorem d_Machine_act_125 : decode b_Machine_act 125 = .ok (.invokestatic 133, 3) := by decide +kernel
theorem d_Machine_act_128 : decode b_Machine_act 128 = .ok (.ifCond .eq 9, 3) := by decide +kernel
theorem d_Machine_act_131 : decode b_Machine_act 131 = .ok (.aload_n 0, 1) := by decide +kernel
theorem d_Machine_act_132 : decode b_Machine_act 132 = .ok (.iload_n 3, 1) := by decide +kernel
theorem d_Machine_act_133 : decode b_Machine_act 133 = .ok (.invokevirtual 136, 3) := by decide +kernel
theorem d_Machine_act_136 : decode b_Machine_act 136 = .ok (.ireturn, 1) := by decide +kernel
theorem d_Machine_act_137 : decode b_Machine_act 137 = .ok (.aload_n 0, 1) := by decide +kernel
theorem d_Machine_act_138 : decode b_Machine_act 138 = .ok (.iload_n 3, 1) := by decide +kernel
theorem d_Machine_act_139 : decode b_Machine_act 139 = .ok (.invokestatic 139, 3) := by decide +kernel
theorem d_Machine_act_142 : decode b_Machine_act 142 = .ok (.invokevirtual 143, 3) := by decide +kernel
theorem d_Machine_act_145 : decode b_Machine_act 145 = .ok (.istore 5, 2) := by decide +kernel
theorem d_Machine_act_147 : decode b_Machine_act 147 = .ok (.iload 5, 2) := by decide +kernel
theorem d_Machine_act_149 : decode b_Machine_act 149 = .ok (.ifCond .ne 23, 3) := by decide +kernel
theorem d_Machine_act_152 : decode b_Machine_act 152 = .ok (.iload_n 3, 1) := by decide +kernel
theorem d_Machine_act_153 : decode b_Machine_act 153 = .ok (.invokestatic 147, 3) := by decide +kernel
theorem d_Machine_act_156 : decode b_Machine_act 156 = .ok (.ifCond .eq 16, 3) := by decide +kernel
theorem d_Machine_act_159 : decode b_Machine_act 159 = .ok (.aload_n 0, 1) := by decide +kernel
theorem d_Machine_act_160 : decode b_Machine_act 160 = .ok (.iload_n 3, 1) := by decide +kernel
theorem d_Machine_act_161 : decode b_Machine_act 161 = .ok (.invokevirtual 150, 3) := by decide +kernel
theorem d_Machine_act_164 : decode b_Machine_act 164 = .ok (.ifCond .ne 8, 3) := by decide +kernel
theorem d_Machine_act_167 : decode b_Machine_act 167 = .ok (.bipush 23, 2) := by decide +kernel
theorem d_Machine_act_169 : decode b_Machine_act 169 = .ok (.goto 5, 3) := by decide +kernel
theorem d_Machine_act_172 : decode b_Machine_act 172 = .ok (.iload 5, 2) := by decide +kernel
theorem d_Machine_act_174 : decode b_Machine_act 174 = .ok (.ireturn, 1) := by decide +kernel
theorem d_Opcodes_effectOf_0 : decode b_Opcodes_effectOf 0 = .ok (.iload_n 0, 1) := by decide +kernel
theorem d_Opcodes_effectOf_1 : decode b_Opcodes_effectOf 1 = .ok (.invokestatic 19, 3) := by decide +kernel
theorem d_Opcodes_effectOf_4 : decode b_Opcodes_effectOf 4 = .ok (.ifCond .eq 8, 3) := by decide +kernel
theorem d_Opcodes_effectOf_7 : decode b_Opcodes_effectOf 7 = .ok (.iload_n 0, 1) := by decide +kernel
theorem d_Opcodes_effectOf_8 : decode b_Opcodes_effectOf 8 = .ok (.invokestatic 34, 3) := by decide +kernel
theorem d_Opcodes_effectOf_11 : decode b_Opcodes_effectOf 11 = .ok (.areturn, 1) := by decide +kernel
theorem d_Opcodes_effectOf_12 : decode b_Opcodes_effectOf 12 = .ok (.iload_n 0, 1) := by decide +kernel
theorem d_Opcodes_effectOf_13 : decode b_Opcodes_effectOf 13 = .ok (.iconst 2, 1) := by decide +kernel
theorem d_Opcodes_effectOf_14 : decode b_Opcodes_effectOf 14 = .ok (.bipush 8, 2) := by decide +kernel
theorem d_Opcodes_effectOf_16 : decode b_Opcodes_effectOf 16 = .ok (.invokestatic 9, 3) := by decide +kernel
theorem d_Opcodes_effectOf_19 : decode b_Opcodes_effectOf 19 = .ok (.ifCond .ne 15, 3) := by decide +kernel
theorem d_Opcodes_effectOf_22 : decode b_Opcodes_effectOf 22 = .ok (.iload_n 0, 1) := by decide +kernel
theorem d_Opcodes_effectOf_23 : decode b_Opcodes_effectOf 23 = .ok (.bipush 16, 2) := by decide +kernel
theorem d_Opcodes_effectOf_25 : decode b_Opcodes_effectOf 25 = .ok (.if_icmp .eq 9, 3) := by decide +kernel
theorem d_Opcodes_effectOf_28 : decode b_Opcodes_effectOf 28 = .ok (.iload_n 0, 1) := by decide +kernel
theorem d_Opcodes_effectOf_29 : decode b_Opcodes_effectOf 29 = .ok (.bipush 17, 2) := by decide +kernel
theorem d_Opcodes_effectOf_31 : decode b_Opcodes_effectOf 31 = .ok (.if_icmp .ne 6, 3) := by decide +kernel
theorem d_Opcodes_effectOf_34 : decode b_Opcodes_effectOf 34 = .ok (.ldc 38, 2) := by decide +kernel
theorem d_Opcodes_effectOf_36 : decode b_Opcodes_effectOf 36 = .ok (.areturn, 1) := by decide +kernel
theorem d_Opcodes_effectOf_37 : decode b_Opcodes_effectOf 37 = .ok (.iload_n 0, 1) := by decide +kernel
theorem d_Opcodes_effectOf_38 : decode b_Opcodes_effectOf 38 = .ok (.sipush 145, 3) := by decide +kernel
theorem d_Opcodes_effectOf_41 : decode b_Opcodes_effectOf 41 = .ok (.sipush 147, 3) := by decide +kernel
theorem d_Opcodes_effectOf_44 : decode b_Opcodes_effectOf 44 = .ok (.invokestatic 9, 3) := by decide +kernel
theorem d_Opcodes_effectOf_47 : decode b_Opcodes_effectOf 47 = .ok (.ifCond .eq 6, 3) := by decide +kernel
theorem d_Opcodes_effectOf_50 : decode b_Opcodes_effectOf 50 = .ok (.ldc 40, 2) := by decide +kernel
theorem d_Opcodes_effectOf_52 : decode b_Opcodes_effectOf 52 = .ok (.areturn, 1) := by decide +kernel
theorem d_Opcodes_effectOf_53 : decode b_Opcodes_effectOf 53 = .ok (.iload_n 0, 1) := by decide +kernel
theorem d_Opcodes_effectOf_54 : decode b_Opcodes_effectOf 54 = .ok (.sipush 153, 3) := by decide +kernel
theorem d_Opcodes_effectOf_57 : decode b_Opcodes_effectOf 57 = .ok (.sipush 158, 3) := by decide +kernel
theorem d_Opcodes_effectOf_60 : decode b_Opcodes_effectOf 60 = .ok (.invokestatic 9, 3) := by decide +kernel
theorem d_Opcodes_effectOf_63 : decode b_Opcodes_effectOf 63 = .ok (.ifCond .eq 6, 3) := by decide +kernel
theorem d_Opcodes_effectOf_66 : decode b_Opcodes_effectOf 66 = .ok (.ldc 42, 2) := by decide +kernel
theorem d_Opcodes_effectOf_68 : decode b_Opcodes_effectOf 68 = .ok (.areturn, 1) := by decide +kernel
theorem d_Opcodes_effectOf_69 : decode b_Opcodes_effectOf 69 = .ok (.iload_n 0, 1) := by decide +kernel
theorem d_Opcodes_effectOf_70 : decode b_Opcodes_effectOf 70 = .ok (.sipush 159, 3) := by decide +kernel
theorem d_Opcodes_effectOf_73 : decode b_Opcodes_effectOf 73 = .ok (.sipush 164, 3) := by decide +kernel
theorem d_Opcodes_effectOf_76 : decode b_Opcodes_effectOf 76 = .ok (.invokestatic 9, 3) := by decide +kernel
theorem d_Opcodes_effectOf_79 : decode b_Opcodes_effectOf 79 = .ok (.ifCond .eq 6, 3) := by decide +kernel
theorem d_Opcodes_effectOf_82 : decode b_Opcodes_effectOf 82 = .ok (.ldc 44, 2) := by decide +kernel
theorem d_Opcodes_effectOf_84 : decode b_Opcodes_effectOf 84 = .ok (.areturn, 1) := by decide +kernel
theorem d_Opcodes_effectOf_85 : decode b_Opcodes_effectOf 85 = .ok (.iload_n 0, 1) := by decide +kernel
theorem d_Opcodes_effectOf_86 : decode b_Opcodes_effectOf 86 = .ok (.invokestatic 46, 3) := by decide +kernel
theorem d_Opcodes_effectOf_89 : decode b_Opcodes_effectOf 89 = .ok (.areturn, 1) := by decide +kernel
theorem d_Opcodes_effectOfArithmetic_0 : decode b_Opcodes_effectOfArithmetic 0 = .ok (.iload_n 0, 1) := by decide +kernel
theorem d_Opcodes_effectOfArithmetic_1 : decode b_Opcodes_effectOfArithmetic 1 = .ok (.iconst 1, 1) := by decide +kernel
theorem d_Opcodes_effectOfArithmetic_2 : decode b_Opcodes_effectOfArithmetic 2 = .ok (.iand, 1) := by decide +kernel
theorem d_Opcodes_effectOfArithmetic_3 : decode b_Opcodes_effectOfArithmetic 3 = .ok (.iconst 1, 1) := by decide +kernel
theorem d_Opcodes_effectOfArithmetic_4 : decode b_Opcodes_effectOfArithmetic 4 = .ok (.if_icmp .ne 7, 3) := by decide +kernel
theorem d_Opcodes_effectOfArithmetic_7 : decode b_Opcodes_effectOfArithmetic 7 = .ok (.iconst 1, 1) := by decide +kernel
theorem d_Opcodes_effectOfArithmetic_8 : decode b_Opcodes_effectOfArithmetic 8 = .ok (.goto 4, 3) := by decide +kernel
theorem d_Opcodes_effectOfArithmetic_11 : decode b_Opcodes_effectOfArithmetic 11 = .ok (.iconst 0, 1) := by decide +kernel
theorem d_Opcodes_effectOfArithmetic_12 : decode b_Opcodes_effectOfArithmetic 12 = .ok (.istore_n 1, 1) := by decide +kernel
theorem d_Opcodes_effectOfArithmetic_13 : decode b_Opcodes_effectOfArithmetic 13 = .ok (.iload_n 0, 1) := by decide +kernel
theorem d_Opcodes_effectOfArithmetic_14 : decode b_Opcodes_effectOfArithmetic 14 = .ok (.bipush 116, 2) := by decide +kernel
theorem d_Opcodes_effectOfArithmetic_16 : decode b_Opcodes_effectOfArithmetic 16 = .ok (.if_icmp .eq 9, 3) := by decide +kernel
theorem d_Opcodes_effectOfArithmetic_19 : decode b_Opcodes_effectOfArithmetic 19 = .ok (.iload_n 0, 1) := by decide +kernel
theorem d_Opcodes_effectOfArithmetic_20 : decode b_Opcodes_effectOfArithmetic 20 = .ok (.bipush 117, 2) := by decide +kernel
theorem d_Opcodes_effectOfArithmetic_22 : decode b_Opcodes_effectOfArithmetic 22 = .ok (.if_icmp .ne 15, 3) := by decide +kernel
theorem d_Opcodes_effectOfArithmetic_25 : decode b_Opcodes_effectOfArithmetic 25 = .ok (.iload_n 1, 1) := by decide +kernel
theorem d_Opcodes_effectOfArithmetic_26 : decode b_Opcodes_effectOfArithmetic 26 = .ok (.ifCond .eq 8, 3) := by decide +kernel
theorem d_Opcodes_effectOfArithmetic_29 : decode b_Opcodes_effectOfArithmetic 29 = .ok (.ldc 71, 2) := by decide +kernel
theorem d_Opcodes_effectOfArithmetic_31 : decode b_Opcodes_effectOfArithmetic 31 = .ok (.goto 5, 3) := by decide +kernel
theorem d_Opcodes_effectOfArithmetic_34 : decode b_Opcodes_effectOfArithmetic 34 = .ok (.ldc 40, 2) := by decide +kernel
theorem d_Opcodes_effectOfArithmetic_36 : decode b_Opcodes_effectOfArithmetic 36 = .ok (.areturn, 1) := by decide +kernel
theorem d_Opcodes_effectOfArithmetic_37 : decode b_Opcodes_effectOfArithmetic 37 = .ok (.iload_n 0, 1) := by decide +kernel
theorem d_Opcodes_effectOfArithmetic_38 : decode b_Opcodes_effectOfArithmetic 38 = .ok (.bipush 120, 2) := by decide +kernel
theorem d_Opcodes_effectOfArithmetic_40 : decode b_Opcodes_effectOfArithmetic 40 = .ok (.bipush 125, 2) := by decide +kernel
theorem d_Opcodes_effectOfArithmetic_42 : decode b_Opcodes_effectOfArithmetic 42 = .ok (.invokestatic 9, 3) := by decide +kernel
theorem d_Opcodes_effectOfArithmetic_45 : decode b_Opcodes_effectOfArithmetic 45 = .ok (.ifCond .eq 10, 3) := by decide +kernel
theorem d_Opcodes_effectOfArithmetic_48 : decode b_Opcodes_effectOfArithmetic 48 = .ok (.iload_n 1, 1) := by decide +kernel
theorem d_Opcodes_effectOfArithmetic_49 : decode b_Opcodes_effectOfArithmetic 49 = .ok (.ifCond .eq 6, 3) := by decide +kernel
theorem d_Opcodes_effectOfArithmetic_52 : decode b_Opcodes_effectOfArithmetic 52 = .ok (.ldc 73, 2) := by decide +kernel
theorem d_Opcodes_effectOfArithmetic_54 : decode b_Opcodes_effectOfArithmetic 54 = .ok (.areturn, 1) := by decide +kernel
theorem d_Opcodes_effectOfArithmetic_55 : decode b_Opcodes_effectOfArithmetic 55 = .ok (.iload_n 1, 1) := by decide +kernel
theorem d_Opcodes_effectOfArithmetic_56 : decode b_Opcodes_effectOfArithmetic 56 = .ok (.ifCond .eq 8, 3) := by decide +kernel
theorem d_Opcodes_effectOfArithmetic_59 : decode b_Opcodes_effectOfArithmetic 59 = .ok (.ldc 75, 2) := by decide +kernel
theorem d_Opcodes_effectOfArithmetic_61 : decode b_Opcodes_effectOfArithmetic 61 = .ok (.goto 5, 3) := by decide +kernel
theorem d_Opcodes_effectOfArithmetic_64 : decode b_Opcodes_effectOfArithmetic 64 = .ok (.ldc 77, 2) := by decide +kernel
theorem d_Opcodes_effectOfArithmetic_66 : decode b_Opcodes_effectOfArithmetic 66 = .ok (.areturn, 1) := by decide +kernel
theorem d_Opcodes_effectOfRest_0 : decode b_Opcodes_effectOfRest 0 = .ok (.iload_n 0, 1) := by decide +kernel
theorem d_Opcodes_effectOfRest_1 : decode b_Opcodes_effectOfRest 1 = .ok (.lookupswitch 196 #[(1, 163), (9, 166), (10, 166), (20, 166), (133, 169), (136, 172), (148, 175), (165, 178), (166, 178), (172, 181), (173, 184), (176, 187), (187, 163), (190, 190), (191, 187), (192, 193), (193, 190), (198, 187), (199, 187)], 163) := by decide +kernel
theorem d_Opcodes_effectOfRest_164 : decode b_Opcodes_effectOfRest 164 = .ok (.ldc 49, 2) := by decide +kernel
theorem d_Opcodes_effectOfRest_166 : decode b_Opcodes_effectOfRest 166 = .ok (.areturn, 1) := by decide +kernel
theorem d_Opcodes_effectOfRest_167 : decode b_Opcodes_effectOfRest 167 = .ok (.ldc 51, 2) := by decide +kernel
theorem d_Opcodes_effectOfRest_169 : decode b_Opcodes_effectOfRest 169 = .ok (.areturn, 1) := by decide +kernel
theorem d_Opcodes_effectOfRest_170 : decode b_Opcodes_effectOfRest 170 = .ok (.ldc 53, 2) := by decide +kernel
theorem d_Opcodes_effectOfRest_172 : decode b_Opcodes_effectOfRest 172 = .ok (.areturn, 1) := by decide +kernel
theorem d_Opcodes_effectOfRest_173 : decode b_Opcodes_effectOfRest 173 = .ok (.ldc 55, 2) := by decide +kernel
theorem d_Opcodes_effectOfRest_175 : decode b_Opcodes_effectOfRest 175 = .ok (.areturn, 1) := by decide +kernel
theorem d_Opcodes_effectOfRest_176 : decode b_Opcodes_effectOfRest 176 = .ok (.ldc 57, 2) := by decide +kernel
theorem d_Opcodes_effectOfRest_178 : decode b_Opcodes_effectOfRest 178 = .ok (.areturn, 1) := by decide +kernel
theorem d_Opcodes_effectOfRest_179 : decode b_Opcodes_effectOfRest 179 = .ok (.ldc 59, 2) := by decide +kernel
theorem d_Opcodes_effectOfRest_181 : decode b_Opcodes_effectOfRest 181 = .ok (.areturn, 1) := by decide +kernel
theorem d_Opcodes_effectOfRest_182 : decode b_Opcodes_effectOfRest 182 = .ok (.ldc 42, 2) := by decide +kernel
theorem d_Opcodes_effectOfRest_184 : decode b_Opcodes_effectOfRest 184 = .ok (.areturn, 1) := by decide +kernel
theorem d_Opcodes_effectOfRest_185 : decode b_Opcodes_effectOfRest 185 = .ok (.ldc 61, 2) := by decide +kernel
theorem d_Opcodes_effectOfRest_187 : decode b_Opcodes_effectOfRest 187 = .ok (.areturn, 1) := by decide +kernel
theorem d_Opcodes_effectOfRest_188 : decode b_Opcodes_effectOfRest 188 = .ok (.ldc 63, 2) := by decide +kernel
theorem d_Opcodes_effectOfRest_190 : decode b_Opcodes_effectOfRest 190 = .ok (.areturn, 1) := by decide +kernel
theorem d_Opcodes_effectOfRest_191 : decode b_Opcodes_effectOfRest 191 = .ok (.ldc 65, 2) := by decide +kernel
theorem d_Opcodes_effectOfRest_193 : decode b_Opcodes_effectOfRest 193 = .ok (.areturn, 1) := by decide +kernel
theorem d_Opcodes_effectOfRest_194 : decode b_Opcodes_effectOfRest 194 = .ok (.ldc 67, 2) := by decide +kernel
theorem d_Opcodes_effectOfRest_196 : decode b_Opcodes_effectOfRest 196 = .ok (.areturn, 1) := by decide +kernel
theorem d_Opcodes_effectOfRest_197 : decode b_Opcodes_effectOfRest 197 = .ok (.ldc 69, 2) := by decide +kernel
theorem d_Opcodes_effectOfRest_199 : decode b_Opcodes_effectOfRest 199 = .ok (.areturn, 1) := by decide +kernel
