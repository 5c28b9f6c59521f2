theorem d_Reader_readAttributes_0 : decode b_Reader_readAttributes 0 = .ok (.aload_n 0, 1) := by decide +kernel
theorem d_Reader_readAttributes_1 : decode b_Reader_readAttributes 1 = .ok (.getfield 21, 3) := by decide +kernel
theorem d_Reader_readAttributes_4 : decode b_Reader_readAttributes 4 = .ok (.aload_n 0, 1) := by decide +kernel
theorem d_Reader_readAttributes_5 : decode b_Reader_readAttributes 5 = .ok (.getfield 26, 3) := by decide +kernel
theorem d_Reader_readAttributes_8 : decode b_Reader_readAttributes 8 = .ok (.invokevirtual 78, 3) := by decide +kernel
theorem d_Reader_readAttributes_11 : decode b_Reader_readAttributes 11 = .ok (.istore_n 2, 1) := by decide +kernel
theorem d_Reader_readAttributes_12 : decode b_Reader_readAttributes 12 = .ok (.aload_n 0, 1) := by decide +kernel
theorem d_Reader_readAttributes_13 : decode b_Reader_readAttributes 13 = .ok (.ldc2_w 85, 3) := by decide +kernel
theorem d_Reader_readAttributes_16 : decode b_Reader_readAttributes 16 = .ok (.invokevirtual 63, 3) := by decide +kernel
theorem d_Reader_readAttributes_19 : decode b_Reader_readAttributes 19 = .ok (.ifCond .ne 5, 3) := by decide +kernel
theorem d_Reader_readAttributes_22 : decode b_Reader_readAttributes 22 = .ok (.iconst 0, 1) := by decide +kernel
theorem d_Reader_readAttributes_23 : decode b_Reader_readAttributes 23 = .ok (.ireturn, 1) := by decide +kernel
theorem d_Reader_readAttributes_24 : decode b_Reader_readAttributes 24 = .ok (.iconst 0, 1) := by decide +kernel
theorem d_Reader_readAttributes_25 : decode b_Reader_readAttributes 25 = .ok (.istore_n 3, 1) := by decide +kernel
theorem d_Reader_readAttributes_26 : decode b_Reader_readAttributes 26 = .ok (.iload_n 3, 1) := by decide +kernel
theorem d_Reader_readAttributes_27 : decode b_Reader_readAttributes 27 = .ok (.iload_n 2, 1) := by decide +kernel
theorem d_Reader_readAttributes_28 : decode b_Reader_readAttributes 28 = .ok (.if_icmp .ge 62, 3) := by decide +kernel
theorem d_Reader_readAttributes_31 : decode b_Reader_readAttributes 31 = .ok (.aload_n 0, 1) := by decide +kernel
theorem d_Reader_readAttributes_32 : decode b_Reader_readAttributes 32 = .ok (.getfield 26, 3) := by decide +kernel
theorem d_Reader_readAttributes_35 : decode b_Reader_readAttributes 35 = .ok (.istore 4, 2) := by decide +kernel
theorem d_Reader_readAttributes_37 : decode b_Reader_readAttributes 37 = .ok (.aload_n 0, 1) := by decide +kernel
theorem d_Reader_readAttributes_38 : decode b_Reader_readAttributes 38 = .ok (.invokevirtual 113, 3) := by decide +kernel
theorem d_Reader_readAttributes_41 : decode b_Reader_readAttributes 41 = .ok (.ifCond .ne 5, 3) := by decide +kernel
theorem d_Reader_readAttributes_44 : decode b_Reader_readAttributes 44 = .ok (.iconst 0, 1) := by decide +kernel
theorem d_Reader_readAttributes_45 : decode b_Reader_readAttributes 45 = .ok (.ireturn, 1) := by decide +kernel
theorem d_Reader_readAttributes_46 : decode b_Reader_readAttributes 46 = .ok (.iload_n 1, 1) := by decide +kernel
theorem d_Reader_readAttributes_47 : decode b_Reader_readAttributes 47 = .ok (.iconst (-1), 1) := by decide +kernel
theorem d_Reader_readAttributes_48 : decode b_Reader_readAttributes 48 = .ok (.if_icmp .eq 36, 3) := by decide +kernel
theorem d_Reader_readAttributes_51 : decode b_Reader_readAttributes 51 = .ok (.aload_n 0, 1) := by decide +kernel
theorem d_Reader_readAttributes_52 : decode b_Reader_readAttributes 52 = .ok (.getfield 9, 3) := by decide +kernel
theorem d_Reader_readAttributes_55 : decode b_Reader_readAttributes 55 = .ok (.aload_n 0, 1) := by decide +kernel
theorem d_Reader_readAttributes_56 : decode b_Reader_readAttributes 56 = .ok (.getfield 21, 3) := by decide +kernel
theorem d_Reader_readAttributes_59 : decode b_Reader_readAttributes 59 = .ok (.iload 4, 2) := by decide +kernel
theorem d_Reader_readAttributes_61 : decode b_Reader_readAttributes 61 = .ok (.invokevirtual 78, 3) := by decide +kernel
theorem d_Reader_readAttributes_64 : decode b_Reader_readAttributes 64 = .ok (.ldc 116, 2) := by decide +kernel
theorem d_Reader_readAttributes_66 : decode b_Reader_readAttributes 66 = .ok (.invokevirtual 118, 3) := by decide +kernel
theorem d_Reader_readAttributes_69 : decode b_Reader_readAttributes 69 = .ok (.ifCond .eq 15, 3) := by decide +kernel
theorem d_Reader_readAttributes_72 : decode b_Reader_readAttributes 72 = .ok (.aload_n 0, 1) := by decide +kernel
theorem d_Reader_readAttributes_73 : decode b_Reader_readAttributes 73 = .ok (.iload 4, 2) := by decide +kernel
theorem d_Reader_readAttributes_75 : decode b_Reader_readAttributes 75 = .ok (.iload_n 1, 1) := by decide +kernel
theorem d_Reader_readAttributes_76 : decode b_Reader_readAttributes 76 = .ok (.invokevirtual 122, 3) := by decide +kernel
theorem d_Reader_readAttributes_79 : decode b_Reader_readAttributes 79 = .ok (.ifCond .ne 5, 3) := by decide +kernel
theorem d_Reader_readAttributes_82 : decode b_Reader_readAttributes 82 = .ok (.iconst 0, 1) := by decide +kernel
theorem d_Reader_readAttributes_83 : decode b_Reader_readAttributes 83 = .ok (.ireturn, 1) := by decide +kernel
theorem d_Reader_readAttributes_84 : decode b_Reader_readAttributes 84 = .ok (.iinc 3 1, 3) := by decide +kernel
theorem d_Reader_readAttributes_87 : decode b_Reader_readAttributes 87 = .ok (.goto (-61), 3) := by decide +kernel
theorem d_Reader_readAttributes_90 : decode b_Reader_readAttributes 90 = .ok (.iconst 1, 1) := by decide +kernel
theorem d_Reader_readAttributes_91 : decode b_Reader_readAttributes 91 = .ok (.ireturn, 1) := by decide +kernel
theorem d_Reader_readClasses_0 : decode b_Reader_readClasses 0 = .ok (.aload_n 0, 1) := by decide +kernel
theorem d_Reader_readClasses_1 : decode b_Reader_readClasses 1 = .ok (.getfield 9, 3) := by decide +kernel
theorem d_Reader_readClasses_4 : decode b_Reader_readClasses 4 = .ok (.aload_n 0, 1) := by decide +kernel
theorem d_Reader_readClasses_5 : decode b_Reader_readClasses 5 = .ok (.getfield 26, 3) := by decide +kernel
theorem d_Reader_readClasses_8 : decode b_Reader_readClasses 8 = .ok (.iconst 2, 1) := by decide +kernel
theorem d_Reader_readClasses_9 : decode b_Reader_readClasses 9 = .ok (.iadd, 1) := by decide +kernel
theorem d_Reader_readClasses_10 : decode b_Reader_readClasses 10 = .ok (.putfield 100, 3) := by decide +kernel
theorem d_Reader_readClasses_13 : decode b_Reader_readClasses 13 = .ok (.aload_n 0, 1) := by decide +kernel
theorem d_Reader_readClasses_14 : decode b_Reader_readClasses 14 = .ok (.iconst 3, 1) := by decide +kernel
theorem d_Reader_readClasses_15 : decode b_Reader_readClasses 15 = .ok (.iconst 2, 1) := by decide +kernel
theorem d_Reader_readClasses_16 : decode b_Reader_readClasses 16 = .ok (.invokevirtual 75, 3) := by decide +kernel
theorem d_Reader_readClasses_19 : decode b_Reader_readClasses 19 = .ok (.ifCond .ne 5, 3) := by decide +kernel
theorem d_Reader_readClasses_22 : decode b_Reader_readClasses 22 = .ok (.iconst 0, 1) := by decide +kernel
theorem d_Reader_readClasses_23 : decode b_Reader_readClasses 23 = .ok (.ireturn, 1) := by decide +kernel
theorem d_Reader_readClasses_24 : decode b_Reader_readClasses 24 = .ok (.aload_n 0, 1) := by decide +kernel
theorem d_Reader_readClasses_25 : decode b_Reader_readClasses 25 = .ok (.getfield 9, 3) := by decide +kernel
theorem d_Reader_readClasses_28 : decode b_Reader_readClasses 28 = .ok (.aload_n 0, 1) := by decide +kernel
theorem d_Reader_readClasses_29 : decode b_Reader_readClasses 29 = .ok (.getfield 21, 3) := by decide +kernel
theorem d_Reader_readClasses_32 : decode b_Reader_readClasses 32 = .ok (.aload_n 0, 1) := by decide +kernel
theorem d_Reader_readClasses_33 : decode b_Reader_readClasses 33 = .ok (.getfield 26, 3) := by decide +kernel
theorem d_Reader_readClasses_36 : decode b_Reader_readClasses 36 = .ok (.invokevirtual 78, 3) := by decide +kernel
theorem d_Reader_readClasses_39 : decode b_Reader_readClasses 39 = .ok (.putfield 103, 3) := by decide +kernel
theorem d_Reader_readClasses_42 : decode b_Reader_readClasses 42 = .ok (.aload_n 0, 1) := by decide +kernel
theorem d_Reader_readClasses_43 : decode b_Reader_readClasses 43 = .ok (.iconst 1, 1) := by decide +kernel
theorem d_Reader_readClasses_44 : decode b_Reader_readClasses 44 = .ok (.aload_n 0, 1) := by decide +kernel
theorem d_Reader_readClasses_45 : decode b_Reader_readClasses 45 = .ok (.getfield 9, 3) := by decide +kernel
theorem d_Reader_readClasses_48 : decode b_Reader_readClasses 48 = .ok (.getfield 103, 3) := by decide +kernel
theorem d_Reader_readClasses_51 : decode b_Reader_readClasses 51 = .ok (.iadd, 1) := by decide +kernel
theorem d_Reader_readClasses_52 : decode b_Reader_readClasses 52 = .ok (.iconst 2, 1) := by decide +kernel
theorem d_Reader_readClasses_53 : decode b_Reader_readClasses 53 = .ok (.invokevirtual 75, 3) := by decide +kernel
theorem d_Reader_readClasses_56 : decode b_Reader_readClasses 56 = .ok (.ireturn, 1) := by decide +kernel
theorem d_Reader_readCode_0 : decode b_Reader_readCode 0 = .ok (.aload_n 0, 1) := by decide +kernel
theorem d_Reader_readCode_1 : decode b_Reader_readCode 1 = .ok (.getfield 9, 3) := by decide +kernel
theorem d_Reader_readCode_4 : decode b_Reader_readCode 4 = .ok (.iload_n 2, 1) := by decide +kernel
theorem d_Reader_readCode_5 : decode b_Reader_readCode 5 = .ok (.invokevirtual 128, 3) := by decide +kernel
theorem d_Reader_readCode_8 : decode b_Reader_readCode 8 = .ok (.ifCond .eq 14, 3) := by decide +kernel
theorem d_Reader_readCode_11 : decode b_Reader_readCode 11 = .ok (.aload_n 0, 1) := by decide +kernel
theorem d_Reader_readCode_12 : decode b_Reader_readCode 12 = .ok (.getfield 22, 3) := by decide +kernel
theorem d_Reader_readCode_15 : decode b_Reader_readCode 15 = .ok (.bipush 7, 2) := by decide +kernel
theorem d_Reader_readCode_17 : decode b_Reader_readCode 17 = .ok (.iload_n 1, 1) := by decide +kernel
theorem d_Reader_readCode_18 : decode b_Reader_readCode 18 = .ok (.invokevirtual 53, 3) := by decide +kernel
theorem d_Reader_readCode_21 : decode b_Reader_readCode 21 = .ok (.ireturn, 1) := by decide +kernel
theorem d_Reader_readCode_22 : decode b_Reader_readCode 22 = .ok (.aload_n 0, 1) := by decide +kernel
theorem d_Reader_readCode_23 : decode b_Reader_readCode 23 = .ok (.getfield 9, 3) := by decide +kernel
theorem d_Reader_readCode_26 : decode b_Reader_readCode 26 = .ok (.iload_n 2, 1) := by decide +kernel
theorem d_Reader_readCode_27 : decode b_Reader_readCode 27 = .ok (.iload_n 1, 1) := by decide +kernel
theorem d_Reader_readCode_28 : decode b_Reader_readCode 28 = .ok (.invokevirtual 131, 3) := by decide +kernel
theorem d_Reader_readCode_31 : decode b_Reader_readCode 31 = .ok (.iload_n 1, 1) := by decide +kernel
theorem d_Reader_readCode_32 : decode b_Reader_readCode 32 = .ok (.bipush 14, 2) := by decide +kernel
theorem d_Reader_readCode_34 : decode b_Reader_readCode 34 = .ok (.iadd, 1) := by decide +kernel
theorem d_Reader_readCode_35 : decode b_Reader_readCode 35 = .ok (.istore_n 3, 1) := by decide +kernel
theorem d_Reader_readCode_36 : decode b_Reader_readCode 36 = .ok (.aload_n 0, 1) := by decide +kernel
theorem d_Reader_readCode_37 : decode b_Reader_readCode 37 = .ok (.getfield 21, 3) := by decide +kernel
theorem d_Reader_readCode_40 : decode b_Reader_readCode 40 = .ok (.iload_n 1, 1) := by decide +kernel
theorem d_Reader_readCode_41 : decode b_Reader_readCode 41 = .ok (.bipush 10, 2) := by decide +kernel
theorem d_Reader_readCode_43 : decode b_Reader_readCode 43 = .ok (.iadd, 1) := by decide +kernel
theorem d_Reader_readCode_44 : decode b_Reader_readCode 44 = .ok (.invokevirtual 69, 3) := by decide +kernel
theorem d_Reader_readCode_47 : decode b_Reader_readCode 47 = .ok (.lstore 4, 2) := by decide +kernel
theorem d_Reader_readCode_49 : decode b_Reader_readCode 49 = .ok (.iload_n 3, 1) := by decide +kernel
theorem d_Reader_readCode_50 : decode b_Reader_readCode 50 = .ok (.aload_n 0, 1) := by decide +kernel
theorem d_Reader_readCode_51 : decode b_Reader_readCode 51 = .ok (.getfield 26, 3) := by decide +kernel
theorem d_Reader_readCode_54 : decode b_Reader_readCode 54 = .ok (.if_icmp .gt 16, 3) := by decide +kernel
theorem d_Reader_readCode_57 : decode b_Reader_readCode 57 = .ok (.lload 4, 2) := by decide +kernel
theorem d_Reader_readCode_59 : decode b_Reader_readCode 59 = .ok (.aload_n 0, 1) := by decide +kernel
theorem d_Reader_readCode_60 : decode b_Reader_readCode 60 = .ok (.getfield 26, 3) := by decide +kernel
theorem d_Reader_readCode_63 : decode b_Reader_readCode 63 = .ok (.iload_n 3, 1) := by decide +kernel
theorem d_Reader_readCode_64 : decode b_Reader_readCode 64 = .ok (.isub, 1) := by decide +kernel
theorem d_Reader_readCode_65 : decode b_Reader_readCode 65 = .ok (.i2l, 1) := by decide +kernel
theorem d_Reader_readCode_66 : decode b_Reader_readCode 66 = .ok (.lcmp, 1) := by decide +kernel
theorem d_Reader_readCode_67 : decode b_Reader_readCode 67 = .ok (.ifCond .le 14, 3) := by decide +kernel
theorem d_Reader_readCode_70 : decode b_Reader_readCode 70 = .ok (.aload_n 0, 1) := by decide +kernel
theorem d_Reader_readCode_71 : decode b_Reader_readCode 71 = .ok (.getfield 22, 3) := by decide +kernel
theorem d_Reader_readCode_74 : decode b_Reader_readCode 74 = .ok (.bipush 8, 2) := by decide +kernel
theorem d_Reader_readCode_76 : decode b_Reader_readCode 76 = .ok (.iload_n 1, 1) := by decide +kernel
theorem d_Reader_readCode_77 : decode b_Reader_readCode 77 = .ok (.invokevirtual 53, 3) := by decide +kernel
theorem d_Reader_readCode_80 : decode b_Reader_readCode 80 = .ok (.ireturn, 1) := by decide +kernel
theorem d_Reader_readCode_81 : decode b_Reader_readCode 81 = .ok (.iload_n 3, 1) := by decide +kernel
theorem d_Reader_readCode_82 : decode b_Reader_readCode 82 = .ok (.lload 4, 2) := by decide +kernel
theorem d_Reader_readCode_84 : decode b_Reader_readCode 84 = .ok (.l2i, 1) := by decide +kernel
theorem d_Reader_readCode_85 : decode b_Reader_readCode 85 = .ok (.iadd, 1) := by decide +kernel
theorem d_Reader_readCode_86 : decode b_Reader_readCode 86 = .ok (.istore 6, 2) := by decide +kernel
theorem d_Reader_readCode_88 : decode b_Reader_readCode 88 = .ok (.iload 6, 2) := by decide +kernel
theorem d_Reader_readCode_90 : decode b_Reader_readCode 90 = .ok (.iconst 2, 1) := by decide +kernel
theorem d_Reader_readCode_91 : decode b_Reader_readCode 91 = .ok (.iadd, 1) := by decide +kernel
theorem d_Reader_readCode_92 : decode b_Reader_readCode 92 = .ok (.aload_n 0, 1) := by decide +kernel
theorem d_Reader_readCode_93 : decode b_Reader_readCode 93 = .ok (.getfield 26, 3) := by decide +kernel
theorem d_Reader_readCode_96 : decode b_Reader_readCode 96 = .ok (.if_icmp .le 14, 3) := by decide +kernel
theorem d_Reader_readCode_99 : decode b_Reader_readCode 99 = .ok (.aload_n 0, 1) := by decide +kernel
theorem d_Reader_readCode_100 : decode b_Reader_readCode 100 = .ok (.getfield 22, 3) := by decide +kernel
theorem d_Reader_readCode_103 : decode b_Reader_readCode 103 = .ok (.bipush 8, 2) := by decide +kernel
theorem d_Reader_readCode_105 : decode b_Reader_readCode 105 = .ok (.iload_n 1, 1) := by decide +kernel
theorem d_Reader_readCode_106 : decode b_Reader_readCode 106 = .ok (.invokevirtual 53, 3) := by decide +kernel
theorem d_Reader_readCode_109 : decode b_Reader_readCode 109 = .ok (.ireturn, 1) := by decide +kernel
theorem d_Reader_readCode_110 : decode b_Reader_readCode 110 = .ok (.iload 6, 2) := by decide +kernel
theorem d_Reader_readCode_112 : decode b_Reader_readCode 112 = .ok (.iconst 2, 1) := by decide +kernel
theorem d_Reader_readCode_113 : decode b_Reader_readCode 113 = .ok (.iadd, 1) := by decide +kernel
theorem d_Reader_readCode_114 : decode b_Reader_readCode 114 = .ok (.bipush 8, 2) := by decide +kernel
theorem d_Reader_readCode_116 : decode b_Reader_readCode 116 = .ok (.aload_n 0, 1) := by decide +kernel
theorem d_Reader_readCode_117 : decode b_Reader_readCode 117 = .ok (.getfield 21, 3) := by decide +kernel
theorem d_Reader_readCode_120 : decode b_Reader_readCode 120 = .ok (.iload 6, 2) := by decide +kernel
theorem d_Reader_readCode_122 : decode b_Reader_readCode 122 = .ok (.invokevirtual 78, 3) := by decide +kernel
theorem d_Reader_readCode_125 : decode b_Reader_readCode 125 = .ok (.imul, 1) := by decide +kernel
theorem d_Reader_readCode_126 : decode b_Reader_readCode 126 = .ok (.iadd, 1) := by decide +kernel
theorem d_Reader_readCode_127 : decode b_Reader_readCode 127 = .ok (.istore 7, 2) := by decide +kernel
theorem d_Reader_readCode_129 : decode b_Reader_readCode 129 = .ok (.iload 7, 2) := by decide +kernel
theorem d_Reader_readCode_131 : decode b_Reader_readCode 131 = .ok (.iconst 2, 1) := by decide +kernel
theorem d_Reader_readCode_132 : decode b_Reader_readCode 132 = .ok (.iadd, 1) := by decide +kernel
theorem d_Reader_readCode_133 : decode b_Reader_readCode 133 = .ok (.aload_n 0, 1) := by decide +kernel
theorem d_Reader_readCode_134 : decode b_Reader_readCode 134 = .ok (.getfield 26, 3) := by decide +kernel
theorem d_Reader_readCode_137 : decode b_Reader_readCode 137 = .ok (.if_icmp .le 14, 3) := by decide +kernel
theorem d_Reader_readCode_140 : decode b_Reader_readCode 140 = .ok (.aload_n 0, 1) := by decide +kernel
theorem d_Reader_readCode_141 : decode b_Reader_readCode 141 = .ok (.getfield 22, 3) := by decide +kernel
theorem d_Reader_readCode_144 : decode b_Reader_readCode 144 = .ok (.bipush 8, 2) := by decide +kernel
theorem d_Reader_readCode_146 : decode b_Reader_readCode 146 = .ok (.iload_n 1, 1) := by decide +kernel
theorem d_Reader_readCode_147 : decode b_Reader_readCode 147 = .ok (.invokevirtual 53, 3) := by decide +kernel
theorem d_Reader_readCode_150 : decode b_Reader_readCode 150 = .ok (.ireturn, 1) := by decide +kernel
theorem d_Reader_readCode_151 : decode b_Reader_readCode 151 = .ok (.aload_n 0, 1) := by decide +kernel
theorem d_Reader_readCode_152 : decode b_Reader_readCode 152 = .ok (.iload 7, 2) := by decide +kernel
theorem d_Reader_readCode_154 : decode b_Reader_readCode 154 = .ok (.invokevirtual 135, 3) := by decide +kernel
theorem d_Reader_readCode_157 : decode b_Reader_readCode 157 = .ok (.istore 8, 2) := by decide +kernel
theorem d_Reader_readCode_159 : decode b_Reader_readCode 159 = .ok (.aload_n 0, 1) := by decide +kernel
theorem d_Reader_readCode_160 : decode b_Reader_readCode 160 = .ok (.getfield 22, 3) := by decide +kernel
theorem d_Reader_readCode_163 : decode b_Reader_readCode 163 = .ok (.getfield 138, 3) := by decide +kernel
theorem d_Reader_readCode_166 : decode b_Reader_readCode 166 = .ok (.ifCond .eq 5, 3) := by decide +kernel
theorem d_Reader_readCode_169 : decode b_Reader_readCode 169 = .ok (.iconst 0, 1) := by decide +kernel
theorem d_Reader_readCode_170 : decode b_Reader_readCode 170 = .ok (.ireturn, 1) := by decide +kernel
theorem d_Reader_readCode_171 : decode b_Reader_readCode 171 = .ok (.iload 8, 2) := by decide +kernel
theorem d_Reader_readCode_173 : decode b_Reader_readCode 173 = .ok (.aload_n 0, 1) := by decide +kernel
theorem d_Reader_readCode_174 : decode b_Reader_readCode 174 = .ok (.getfield 26, 3) := by decide +kernel
theorem d_Reader_readCode_177 : decode b_Reader_readCode 177 = .ok (.if_icmp .ne 10, 3) := by decide +kernel
theorem d_Reader_readCode_180 : decode b_Reader_readCode 180 = .ok (.lload 4, 2) := by decide +kernel
theorem d_Reader_readCode_182 : decode b_Reader_readCode 182 = .ok (.lconst 0, 1) := by decide +kernel
theorem d_Reader_readCode_183 : decode b_Reader_readCode 183 = .ok (.lcmp, 1) := by decide +kernel
theorem d_Reader_readCode_184 : decode b_Reader_readCode 184 = .ok (.ifCond .gt 16, 3) := by decide +kernel
theorem d_Reader_readCode_187 : decode b_Reader_readCode 187 = .ok (.aload_n 0, 1) := by decide +kernel
theorem d_Reader_readCode_188 : decode b_Reader_readCode 188 = .ok (.getfield 22, 3) := by decide +kernel
theorem d_Reader_readCode_191 : decode b_Reader_readCode 191 = .ok (.bipush 8, 2) := by decide +kernel
theorem d_Reader_readCode_193 : decode b_Reader_readCode 193 = .ok (.iload_n 1, 1) := by decide +kernel
theorem d_Reader_readCode_194 : decode b_Reader_readCode 194 = .ok (.invokevirtual 53, 3) := by decide +kernel
theorem d_Reader_readCode_197 : decode b_Reader_readCode 197 = .ok (.ifCond .eq 7, 3) := by decide +kernel
theorem d_Reader_readCode_200 : decode b_Reader_readCode 200 = .ok (.iconst 1, 1) := by decide +kernel
theorem d_Reader_readCode_201 : decode b_Reader_readCode 201 = .ok (.goto 4, 3) := by decide +kernel
theorem d_Reader_readCode_204 : decode b_Reader_readCode 204 = .ok (.iconst 0, 1) := by decide +kernel
theorem d_Reader_readCode_205 : decode b_Reader_readCode 205 = .ok (.ireturn, 1) := by decide +kernel
theorem d_Reader_readConstants_0 : decode b_Reader_readConstants 0 = .ok (.iconst 1, 1) := by decide +kernel
theorem d_Reader_readConstants_1 : decode b_Reader_readConstants 1 = .ok (.istore_n 1, 1) := by decide +kernel
theorem d_Reader_readConstants_2 : decode b_Reader_readConstants 2 = .ok (.iload_n 1, 1) := by decide +kernel
theorem d_Reader_readConstants_3 : decode b_Reader_readConstants 3 = .ok (.aload_n 0, 1) := by decide +kernel
theorem d_Reader_readConstants_4 : decode b_Reader_readConstants 4 = .ok (.getfield 9, 3) := by decide +kernel
theorem d_Reader_readConstants_7 : decode b_Reader_readConstants 7 = .ok (.getfield 82, 3) := by decide +kernel
theorem d_Reader_readConstants_10 : decode b_Reader_readConstants 10 = .ok (.if_icmp .ge 61, 3) := by decide +kernel
theorem d_Reader_readConstants_13 : decode b_Reader_readConstants 13 = .ok (.aload_n 0, 1) := by decide +kernel
theorem d_Reader_readConstants_14 : decode b_Reader_readConstants 14 = .ok (.getfield 26, 3) := by decide +kernel
theorem d_Reader_readConstants_17 : decode b_Reader_readConstants 17 = .ok (.istore_n 2, 1) := by decide +kernel
theorem d_Reader_readConstants_18 : decode b_Reader_readConstants 18 = .ok (.aload_n 0, 1) := by decide +kernel
theorem d_Reader_readConstants_19 : decode b_Reader_readConstants 19 = .ok (.getfield 21, 3) := by decide +kernel
theorem d_Reader_readConstants_22 : decode b_Reader_readConstants 22 = .ok (.iload_n 2, 1) := by decide +kernel
theorem d_Reader_readConstants_23 : decode b_Reader_readConstants 23 = .ok (.invokevirtual 87, 3) := by decide +kernel
theorem d_Reader_readConstants_26 : decode b_Reader_readConstants 26 = .ok (.istore_n 3, 1) := by decide +kernel
theorem d_Reader_readConstants_27 : decode b_Reader_readConstants 27 = .ok (.aload_n 0, 1) := by decide +kernel
theorem d_Reader_readConstants_28 : decode b_Reader_readConstants 28 = .ok (.lconst 1, 1) := by decide +kernel
theorem d_Reader_readConstants_29 : decode b_Reader_readConstants 29 = .ok (.invokevirtual 63, 3) := by decide +kernel
theorem d_Reader_readConstants_32 : decode b_Reader_readConstants 32 = .ok (.ifCond .eq 11, 3) := by decide +kernel
theorem d_Reader_readConstants_35 : decode b_Reader_readConstants 35 = .ok (.aload_n 0, 1) := by decide +kernel
theorem d_Reader_readConstants_36 : decode b_Reader_readConstants 36 = .ok (.iload_n 3, 1) := by decide +kernel
theorem d_Reader_readConstants_37 : decode b_Reader_readConstants 37 = .ok (.invokevirtual 90, 3) := by decide +kernel
theorem d_Reader_readConstants_40 : decode b_Reader_readConstants 40 = .ok (.ifCond .ne 5, 3) := by decide +kernel
theorem d_Reader_readConstants_43 : decode b_Reader_readConstants 43 = .ok (.iconst 0, 1) := by decide +kernel
theorem d_Reader_readConstants_44 : decode b_Reader_readConstants 44 = .ok (.ireturn, 1) := by decide +kernel
theorem d_Reader_readConstants_45 : decode b_Reader_readConstants 45 = .ok (.aload_n 0, 1) := by decide +kernel
theorem d_Reader_readConstants_46 : decode b_Reader_readConstants 46 = .ok (.getfield 9, 3) := by decide +kernel
theorem d_Reader_readConstants_49 : decode b_Reader_readConstants 49 = .ok (.iload_n 1, 1) := by decide +kernel
theorem d_Reader_readConstants_50 : decode b_Reader_readConstants 50 = .ok (.iload_n 3, 1) := by decide +kernel
theorem d_Reader_readConstants_51 : decode b_Reader_readConstants 51 = .ok (.iload_n 2, 1) := by decide +kernel
theorem d_Reader_readConstants_52 : decode b_Reader_readConstants 52 = .ok (.invokevirtual 93, 3) := by decide +kernel
theorem d_Reader_readConstants_55 : decode b_Reader_readConstants 55 = .ok (.iload_n 1, 1) := by decide +kernel
theorem d_Reader_readConstants_56 : decode b_Reader_readConstants 56 = .ok (.iload_n 3, 1) := by decide +kernel
theorem d_Reader_readConstants_57 : decode b_Reader_readConstants 57 = .ok (.iconst 5, 1) := by decide +kernel
theorem d_Reader_readConstants_58 : decode b_Reader_readConstants 58 = .ok (.if_icmp .ne 7, 3) := by decide +kernel
theorem d_Reader_readConstants_61 : decode b_Reader_readConstants 61 = .ok (.iconst 2, 1) := by decide +kernel
theorem d_Reader_readConstants_62 : decode b_Reader_readConstants 62 = .ok (.goto 4, 3) := by decide +kernel
theorem d_Reader_readConstants_65 : decode b_Reader_readConstants 65 = .ok (.iconst 1, 1) := by decide +kernel
theorem d_Reader_readConstants_66 : decode b_Reader_readConstants 66 = .ok (.iadd, 1) := by decide +kernel
theorem d_Reader_readConstants_67 : decode b_Reader_readConstants 67 = .ok (.istore_n 1, 1) := by decide +kernel
theorem d_Reader_readConstants_68 : decode b_Reader_readConstants 68 = .ok (.goto (-66), 3) := by decide +kernel
theorem d_Reader_readConstants_71 : decode b_Reader_readConstants 71 = .ok (.iconst 1, 1) := by decide +kernel
theorem d_Reader_readConstants_72 : decode b_Reader_readConstants 72 = .ok (.ireturn, 1) := by decide +kernel
theorem d_Reader_readMembers_0 : decode b_Reader_readMembers 0 = .ok (.aload_n 0, 1) := by decide +kernel
theorem d_Reader_readMembers_1 : decode b_Reader_readMembers 1 = .ok (.getfield 21, 3) := by decide +kernel
theorem d_Reader_readMembers_4 : decode b_Reader_readMembers 4 = .ok (.aload_n 0, 1) := by decide +kernel
theorem d_Reader_readMembers_5 : decode b_Reader_readMembers 5 = .ok (.getfield 26, 3) := by decide +kernel
theorem d_Reader_readMembers_8 : decode b_Reader_readMembers 8 = .ok (.invokevirtual 78, 3) := by decide +kernel
theorem d_Reader_readMembers_11 : decode b_Reader_readMembers 11 = .ok (.istore_n 2, 1) := by decide +kernel
theorem d_Reader_readMembers_12 : decode b_Reader_readMembers 12 = .ok (.iload_n 1, 1) := by decide +kernel
theorem d_Reader_readMembers_13 : decode b_Reader_readMembers 13 = .ok (.ifCond .eq 14, 3) := by decide +kernel
theorem d_Reader_readMembers_16 : decode b_Reader_readMembers 16 = .ok (.aload_n 0, 1) := by decide +kernel
theorem d_Reader_readMembers_17 : decode b_Reader_readMembers 17 = .ok (.getfield 9, 3) := by decide +kernel
theorem d_Reader_readMembers_20 : decode b_Reader_readMembers 20 = .ok (.aload_n 0, 1) := by decide +kernel
theorem d_Reader_readMembers_21 : decode b_Reader_readMembers 21 = .ok (.getfield 26, 3) := by decide +kernel
theorem d_Reader_readMembers_24 : decode b_Reader_readMembers 24 = .ok (.putfield 106, 3) := by decide +kernel
theorem d_Reader_readMembers_27 : decode b_Reader_readMembers 27 = .ok (.aload_n 0, 1) := by decide +kernel
theorem d_Reader_readMembers_28 : decode b_Reader_readMembers 28 = .ok (.ldc2_w 85, 3) := by decide +kernel
theorem d_Reader_readMembers_31 : decode b_Reader_readMembers 31 = .ok (.invokevirtual 63, 3) := by decide +kernel
theorem d_Reader_readMembers_34 : decode b_Reader_readMembers 34 = .ok (.ifCond .ne 5, 3) := by decide +kernel
theorem d_Reader_readMembers_37 : decode b_Reader_readMembers 37 = .ok (.iconst 0, 1) := by decide +kernel
theorem d_Reader_readMembers_38 : decode b_Reader_readMembers 38 = .ok (.ireturn, 1) := by decide +kernel
theorem d_Reader_readMembers_39 : decode b_Reader_readMembers 39 = .ok (.iconst 0, 1) := by decide +kernel
theorem d_Reader_readMembers_40 : decode b_Reader_readMembers 40 = .ok (.istore_n 3, 1) := by decide +kernel
theorem d_Reader_readMembers_41 : decode b_Reader_readMembers 41 = .ok (.iload_n 3, 1) := by decide +kernel
theorem d_Reader_readMembers_42 : decode b_Reader_readMembers 42 = .ok (.iload_n 2, 1) := by decide +kernel
theorem d_Reader_readMembers_43 : decode b_Reader_readMembers 43 = .ok (.if_icmp .ge 54, 3) := by decide +kernel
theorem d_Reader_readMembers_46 : decode b_Reader_readMembers 46 = .ok (.aload_n 0, 1) := by decide +kernel
theorem d_Reader_readMembers_47 : decode b_Reader_readMembers 47 = .ok (.getfield 26, 3) := by decide +kernel
theorem d_Reader_readMembers_50 : decode b_Reader_readMembers 50 = .ok (.istore 4, 2) := by decide +kernel
theorem d_Reader_readMembers_52 : decode b_Reader_readMembers 52 = .ok (.aload_n 0, 1) := by decide +kernel
theorem d_Reader_readMembers_53 : decode b_Reader_readMembers 53 = .ok (.iconst 3, 1) := by decide +kernel
theorem d_Reader_readMembers_54 : decode b_Reader_readMembers 54 = .ok (.iconst 2, 1) := by decide +kernel
theorem d_Reader_readMembers_55 : decode b_Reader_readMembers 55 = .ok (.invokevirtual 75, 3) := by decide +kernel
theorem d_Reader_readMembers_58 : decode b_Reader_readMembers 58 = .ok (.ifCond .ne 5, 3) := by decide +kernel
theorem d_Reader_readMembers_61 : decode b_Reader_readMembers 61 = .ok (.iconst 0, 1) := by decide +kernel
theorem d_Reader_readMembers_62 : decode b_Reader_readMembers 62 = .ok (.ireturn, 1) := by decide +kernel
theorem d_Reader_readMembers_63 : decode b_Reader_readMembers 63 = .ok (.aload_n 0, 1) := by decide +kernel
theorem d_Reader_readMembers_64 : decode b_Reader_readMembers 64 = .ok (.getfield 9, 3) := by decide +kernel
theorem d_Reader_readMembers_67 : decode b_Reader_readMembers 67 = .ok (.iload_n 1, 1) := by decide +kernel
theorem d_Reader_readMembers_68 : decode b_Reader_readMembers 68 = .ok (.iload 4, 2) := by decide +kernel
theorem d_Reader_readMembers_70 : decode b_Reader_readMembers 70 = .ok (.invokevirtual 109, 3) := by decide +kernel
theorem d_Reader_readMembers_73 : decode b_Reader_readMembers 73 = .ok (.aload_n 0, 1) := by decide +kernel
theorem d_Reader_readMembers_74 : decode b_Reader_readMembers 74 = .ok (.iload_n 1, 1) := by decide +kernel
theorem d_Reader_readMembers_75 : decode b_Reader_readMembers 75 = .ok (.ifCond .eq 7, 3) := by decide +kernel
theorem d_Reader_readMembers_78 : decode b_Reader_readMembers 78 = .ok (.iload_n 3, 1) := by decide +kernel
theorem d_Reader_readMembers_79 : decode b_Reader_readMembers 79 = .ok (.goto 4, 3) := by decide +kernel
theorem d_Reader_readMembers_82 : decode b_Reader_readMembers 82 = .ok (.iconst (-1), 1) := by decide +kernel
theorem d_Reader_readMembers_83 : decode b_Reader_readMembers 83 = .ok (.invokevirtual 44, 3) := by decide +kernel
theorem d_Reader_readMembers_86 : decode b_Reader_readMembers 86 = .ok (.ifCond .ne 5, 3) := by decide +kernel
theorem d_Reader_readMembers_89 : decode b_Reader_readMembers 89 = .ok (.iconst 0, 1) := by decide +kernel
theorem d_Reader_readMembers_90 : decode b_Reader_readMembers 90 = .ok (.ireturn, 1) := by decide +kernel
theorem d_Reader_readMembers_91 : decode b_Reader_readMembers 91 = .ok (.iinc 3 1, 3) := by decide +kernel
theorem d_Reader_readMembers_94 : decode b_Reader_readMembers 94 = .ok (.goto (-53), 3) := by decide +kernel
theorem d_Reader_readMembers_97 : decode b_Reader_readMembers 97 = .ok (.iconst 1, 1) := by decide +kernel
theorem d_Reader_readMembers_98 : decode b_Reader_readMembers 98 = .ok (.ireturn, 1) := by decide +kernel
