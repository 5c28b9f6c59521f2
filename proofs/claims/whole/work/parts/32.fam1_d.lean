theorem d_Linker_areClassesRight_0 : decode b_Linker_areClassesRight 0 = .ok (.aload_n 0, 1) := by decide +kernel
theorem d_Linker_areClassesRight_1 : decode b_Linker_areClassesRight 1 = .ok (.aload_n 0, 1) := by decide +kernel
theorem d_Linker_areClassesRight_2 : decode b_Linker_areClassesRight 2 = .ok (.getfield 9, 3) := by decide +kernel
theorem d_Linker_areClassesRight_5 : decode b_Linker_areClassesRight 5 = .ok (.getfield 109, 3) := by decide +kernel
theorem d_Linker_areClassesRight_8 : decode b_Linker_areClassesRight 8 = .ok (.invokevirtual 112, 3) := by decide +kernel
theorem d_Linker_areClassesRight_11 : decode b_Linker_areClassesRight 11 = .ok (.ifCond .eq 19, 3) := by decide +kernel
theorem d_Linker_areClassesRight_14 : decode b_Linker_areClassesRight 14 = .ok (.aload_n 0, 1) := by decide +kernel
theorem d_Linker_areClassesRight_15 : decode b_Linker_areClassesRight 15 = .ok (.aload_n 0, 1) := by decide +kernel
theorem d_Linker_areClassesRight_16 : decode b_Linker_areClassesRight 16 = .ok (.getfield 9, 3) := by decide +kernel
theorem d_Linker_areClassesRight_19 : decode b_Linker_areClassesRight 19 = .ok (.getfield 109, 3) := by decide +kernel
theorem d_Linker_areClassesRight_22 : decode b_Linker_areClassesRight 22 = .ok (.iconst 2, 1) := by decide +kernel
theorem d_Linker_areClassesRight_23 : decode b_Linker_areClassesRight 23 = .ok (.iadd, 1) := by decide +kernel
theorem d_Linker_areClassesRight_24 : decode b_Linker_areClassesRight 24 = .ok (.invokevirtual 112, 3) := by decide +kernel
theorem d_Linker_areClassesRight_27 : decode b_Linker_areClassesRight 27 = .ok (.ifCond .ne 5, 3) := by decide +kernel
theorem d_Linker_areClassesRight_30 : decode b_Linker_areClassesRight 30 = .ok (.iconst 0, 1) := by decide +kernel
theorem d_Linker_areClassesRight_31 : decode b_Linker_areClassesRight 31 = .ok (.ireturn, 1) := by decide +kernel
theorem d_Linker_areClassesRight_32 : decode b_Linker_areClassesRight 32 = .ok (.iconst 0, 1) := by decide +kernel
theorem d_Linker_areClassesRight_33 : decode b_Linker_areClassesRight 33 = .ok (.istore_n 1, 1) := by decide +kernel
theorem d_Linker_areClassesRight_34 : decode b_Linker_areClassesRight 34 = .ok (.iload_n 1, 1) := by decide +kernel
theorem d_Linker_areClassesRight_35 : decode b_Linker_areClassesRight 35 = .ok (.aload_n 0, 1) := by decide +kernel
theorem d_Linker_areClassesRight_36 : decode b_Linker_areClassesRight 36 = .ok (.getfield 9, 3) := by decide +kernel
theorem d_Linker_areClassesRight_39 : decode b_Linker_areClassesRight 39 = .ok (.getfield 115, 3) := by decide +kernel
theorem d_Linker_areClassesRight_42 : decode b_Linker_areClassesRight 42 = .ok (.if_icmp .ge 26, 3) := by decide +kernel
theorem d_Linker_areClassesRight_45 : decode b_Linker_areClassesRight 45 = .ok (.aload_n 0, 1) := by decide +kernel
theorem d_Linker_areClassesRight_46 : decode b_Linker_areClassesRight 46 = .ok (.aload_n 0, 1) := by decide +kernel
theorem d_Linker_areClassesRight_47 : decode b_Linker_areClassesRight 47 = .ok (.getfield 9, 3) := by decide +kernel
theorem d_Linker_areClassesRight_50 : decode b_Linker_areClassesRight 50 = .ok (.iload_n 1, 1) := by decide +kernel
theorem d_Linker_areClassesRight_51 : decode b_Linker_areClassesRight 51 = .ok (.invokevirtual 118, 3) := by decide +kernel
theorem d_Linker_areClassesRight_54 : decode b_Linker_areClassesRight 54 = .ok (.invokevirtual 112, 3) := by decide +kernel
theorem d_Linker_areClassesRight_57 : decode b_Linker_areClassesRight 57 = .ok (.ifCond .ne 5, 3) := by decide +kernel
theorem d_Linker_areClassesRight_60 : decode b_Linker_areClassesRight 60 = .ok (.iconst 0, 1) := by decide +kernel
theorem d_Linker_areClassesRight_61 : decode b_Linker_areClassesRight 61 = .ok (.ireturn, 1) := by decide +kernel
theorem d_Linker_areClassesRight_62 : decode b_Linker_areClassesRight 62 = .ok (.iinc 1 1, 3) := by decide +kernel
theorem d_Linker_areClassesRight_65 : decode b_Linker_areClassesRight 65 = .ok (.goto (-31), 3) := by decide +kernel
theorem d_Linker_areClassesRight_68 : decode b_Linker_areClassesRight 68 = .ok (.iconst 1, 1) := by decide +kernel
theorem d_Linker_areClassesRight_69 : decode b_Linker_areClassesRight 69 = .ok (.ireturn, 1) := by decide +kernel
theorem d_Linker_areMembersRight_0 : decode b_Linker_areMembersRight 0 = .ok (.iload_n 1, 1) := by decide +kernel
theorem d_Linker_areMembersRight_1 : decode b_Linker_areMembersRight 1 = .ok (.ifCond .eq 13, 3) := by decide +kernel
theorem d_Linker_areMembersRight_4 : decode b_Linker_areMembersRight 4 = .ok (.aload_n 0, 1) := by decide +kernel
theorem d_Linker_areMembersRight_5 : decode b_Linker_areMembersRight 5 = .ok (.getfield 9, 3) := by decide +kernel
theorem d_Linker_areMembersRight_8 : decode b_Linker_areMembersRight 8 = .ok (.getfield 124, 3) := by decide +kernel
theorem d_Linker_areMembersRight_11 : decode b_Linker_areMembersRight 11 = .ok (.goto 10, 3) := by decide +kernel
theorem d_Linker_areMembersRight_14 : decode b_Linker_areMembersRight 14 = .ok (.aload_n 0, 1) := by decide +kernel
theorem d_Linker_areMembersRight_15 : decode b_Linker_areMembersRight 15 = .ok (.getfield 9, 3) := by decide +kernel
theorem d_Linker_areMembersRight_18 : decode b_Linker_areMembersRight 18 = .ok (.getfield 127, 3) := by decide +kernel
theorem d_Linker_areMembersRight_21 : decode b_Linker_areMembersRight 21 = .ok (.istore_n 2, 1) := by decide +kernel
theorem d_Linker_areMembersRight_22 : decode b_Linker_areMembersRight 22 = .ok (.iconst 0, 1) := by decide +kernel
theorem d_Linker_areMembersRight_23 : decode b_Linker_areMembersRight 23 = .ok (.istore_n 3, 1) := by decide +kernel
theorem d_Linker_areMembersRight_24 : decode b_Linker_areMembersRight 24 = .ok (.iload_n 3, 1) := by decide +kernel
theorem d_Linker_areMembersRight_25 : decode b_Linker_areMembersRight 25 = .ok (.iload_n 2, 1) := by decide +kernel
theorem d_Linker_areMembersRight_26 : decode b_Linker_areMembersRight 26 = .ok (.if_icmp .ge 41, 3) := by decide +kernel
theorem d_Linker_areMembersRight_29 : decode b_Linker_areMembersRight 29 = .ok (.aload_n 0, 1) := by decide +kernel
theorem d_Linker_areMembersRight_30 : decode b_Linker_areMembersRight 30 = .ok (.iload_n 1, 1) := by decide +kernel
theorem d_Linker_areMembersRight_31 : decode b_Linker_areMembersRight 31 = .ok (.iload_n 3, 1) := by decide +kernel
theorem d_Linker_areMembersRight_32 : decode b_Linker_areMembersRight 32 = .ok (.invokevirtual 130, 3) := by decide +kernel
theorem d_Linker_areMembersRight_35 : decode b_Linker_areMembersRight 35 = .ok (.istore 4, 2) := by decide +kernel
theorem d_Linker_areMembersRight_37 : decode b_Linker_areMembersRight 37 = .ok (.iload 4, 2) := by decide +kernel
theorem d_Linker_areMembersRight_39 : decode b_Linker_areMembersRight 39 = .ok (.ifCond .eq 22, 3) := by decide +kernel
theorem d_Linker_areMembersRight_42 : decode b_Linker_areMembersRight 42 = .ok (.aload_n 0, 1) := by decide +kernel
theorem d_Linker_areMembersRight_43 : decode b_Linker_areMembersRight 43 = .ok (.getfield 22, 3) := by decide +kernel
theorem d_Linker_areMembersRight_46 : decode b_Linker_areMembersRight 46 = .ok (.iload 4, 2) := by decide +kernel
theorem d_Linker_areMembersRight_48 : decode b_Linker_areMembersRight 48 = .ok (.aload_n 0, 1) := by decide +kernel
theorem d_Linker_areMembersRight_49 : decode b_Linker_areMembersRight 49 = .ok (.getfield 9, 3) := by decide +kernel
theorem d_Linker_areMembersRight_52 : decode b_Linker_areMembersRight 52 = .ok (.iload_n 1, 1) := by decide +kernel
theorem d_Linker_areMembersRight_53 : decode b_Linker_areMembersRight 53 = .ok (.iload_n 3, 1) := by decide +kernel
theorem d_Linker_areMembersRight_54 : decode b_Linker_areMembersRight 54 = .ok (.invokevirtual 134, 3) := by decide +kernel
theorem d_Linker_areMembersRight_57 : decode b_Linker_areMembersRight 57 = .ok (.invokevirtual 37, 3) := by decide +kernel
theorem d_Linker_areMembersRight_60 : decode b_Linker_areMembersRight 60 = .ok (.ireturn, 1) := by decide +kernel
theorem d_Linker_areMembersRight_61 : decode b_Linker_areMembersRight 61 = .ok (.iinc 3 1, 3) := by decide +kernel
theorem d_Linker_areMembersRight_64 : decode b_Linker_areMembersRight 64 = .ok (.goto (-40), 3) := by decide +kernel
theorem d_Linker_areMembersRight_67 : decode b_Linker_areMembersRight 67 = .ok (.iconst 1, 1) := by decide +kernel
theorem d_Linker_areMembersRight_68 : decode b_Linker_areMembersRight 68 = .ok (.ireturn, 1) := by decide +kernel
theorem d_Linker_faultOfConstant_0 : decode b_Linker_faultOfConstant 0 = .ok (.aload_n 0, 1) := by decide +kernel
theorem d_Linker_faultOfConstant_1 : decode b_Linker_faultOfConstant 1 = .ok (.getfield 9, 3) := by decide +kernel
theorem d_Linker_faultOfConstant_4 : decode b_Linker_faultOfConstant 4 = .ok (.iload_n 1, 1) := by decide +kernel
theorem d_Linker_faultOfConstant_5 : decode b_Linker_faultOfConstant 5 = .ok (.invokevirtual 55, 3) := by decide +kernel
theorem d_Linker_faultOfConstant_8 : decode b_Linker_faultOfConstant 8 = .ok (.istore_n 2, 1) := by decide +kernel
theorem d_Linker_faultOfConstant_9 : decode b_Linker_faultOfConstant 9 = .ok (.aload_n 0, 1) := by decide +kernel
theorem d_Linker_faultOfConstant_10 : decode b_Linker_faultOfConstant 10 = .ok (.getfield 9, 3) := by decide +kernel
theorem d_Linker_faultOfConstant_13 : decode b_Linker_faultOfConstant 13 = .ok (.iload_n 1, 1) := by decide +kernel
theorem d_Linker_faultOfConstant_14 : decode b_Linker_faultOfConstant 14 = .ok (.invokevirtual 58, 3) := by decide +kernel
theorem d_Linker_faultOfConstant_17 : decode b_Linker_faultOfConstant 17 = .ok (.tableswitch 167 7 12 #[39, 86, 101, 101, 167, 153], 39) := by decide +kernel
theorem d_Linker_faultOfConstant_56 : decode b_Linker_faultOfConstant 56 = .ok (.aload_n 0, 1) := by decide +kernel
theorem d_Linker_faultOfConstant_57 : decode b_Linker_faultOfConstant 57 = .ok (.iload_n 2, 1) := by decide +kernel
theorem d_Linker_faultOfConstant_58 : decode b_Linker_faultOfConstant 58 = .ok (.invokevirtual 61, 3) := by decide +kernel
theorem d_Linker_faultOfConstant_61 : decode b_Linker_faultOfConstant 61 = .ok (.ifCond .ne 6, 3) := by decide +kernel
theorem d_Linker_faultOfConstant_64 : decode b_Linker_faultOfConstant 64 = .ok (.bipush 6, 2) := by decide +kernel
theorem d_Linker_faultOfConstant_66 : decode b_Linker_faultOfConstant 66 = .ok (.ireturn, 1) := by decide +kernel
theorem d_Linker_faultOfConstant_67 : decode b_Linker_faultOfConstant 67 = .ok (.aload_n 0, 1) := by decide +kernel
theorem d_Linker_faultOfConstant_68 : decode b_Linker_faultOfConstant 68 = .ok (.getfield 9, 3) := by decide +kernel
theorem d_Linker_faultOfConstant_71 : decode b_Linker_faultOfConstant 71 = .ok (.iload_n 2, 1) := by decide +kernel
theorem d_Linker_faultOfConstant_72 : decode b_Linker_faultOfConstant 72 = .ok (.invokevirtual 64, 3) := by decide +kernel
theorem d_Linker_faultOfConstant_75 : decode b_Linker_faultOfConstant 75 = .ok (.istore_n 3, 1) := by decide +kernel
theorem d_Linker_faultOfConstant_76 : decode b_Linker_faultOfConstant 76 = .ok (.aload_n 0, 1) := by decide +kernel
theorem d_Linker_faultOfConstant_77 : decode b_Linker_faultOfConstant 77 = .ok (.getfield 21, 3) := by decide +kernel
theorem d_Linker_faultOfConstant_80 : decode b_Linker_faultOfConstant 80 = .ok (.aload_n 0, 1) := by decide +kernel
theorem d_Linker_faultOfConstant_81 : decode b_Linker_faultOfConstant 81 = .ok (.getfield 9, 3) := by decide +kernel
theorem d_Linker_faultOfConstant_84 : decode b_Linker_faultOfConstant 84 = .ok (.iload_n 2, 1) := by decide +kernel
theorem d_Linker_faultOfConstant_85 : decode b_Linker_faultOfConstant 85 = .ok (.invokevirtual 67, 3) := by decide +kernel
theorem d_Linker_faultOfConstant_88 : decode b_Linker_faultOfConstant 88 = .ok (.iload_n 3, 1) := by decide +kernel
theorem d_Linker_faultOfConstant_89 : decode b_Linker_faultOfConstant 89 = .ok (.invokestatic 70, 3) := by decide +kernel
theorem d_Linker_faultOfConstant_92 : decode b_Linker_faultOfConstant 92 = .ok (.iload_n 3, 1) := by decide +kernel
theorem d_Linker_faultOfConstant_93 : decode b_Linker_faultOfConstant 93 = .ok (.if_icmp .ne 7, 3) := by decide +kernel
theorem d_Linker_faultOfConstant_96 : decode b_Linker_faultOfConstant 96 = .ok (.iconst 0, 1) := by decide +kernel
theorem d_Linker_faultOfConstant_97 : decode b_Linker_faultOfConstant 97 = .ok (.goto 5, 3) := by decide +kernel
theorem d_Linker_faultOfConstant_100 : decode b_Linker_faultOfConstant 100 = .ok (.bipush 10, 2) := by decide +kernel
theorem d_Linker_faultOfConstant_102 : decode b_Linker_faultOfConstant 102 = .ok (.ireturn, 1) := by decide +kernel
theorem d_Linker_faultOfConstant_103 : decode b_Linker_faultOfConstant 103 = .ok (.aload_n 0, 1) := by decide +kernel
theorem d_Linker_faultOfConstant_104 : decode b_Linker_faultOfConstant 104 = .ok (.iload_n 2, 1) := by decide +kernel
theorem d_Linker_faultOfConstant_105 : decode b_Linker_faultOfConstant 105 = .ok (.invokevirtual 61, 3) := by decide +kernel
theorem d_Linker_faultOfConstant_108 : decode b_Linker_faultOfConstant 108 = .ok (.ifCond .eq 7, 3) := by decide +kernel
theorem d_Linker_faultOfConstant_111 : decode b_Linker_faultOfConstant 111 = .ok (.iconst 0, 1) := by decide +kernel
theorem d_Linker_faultOfConstant_112 : decode b_Linker_faultOfConstant 112 = .ok (.goto 5, 3) := by decide +kernel
theorem d_Linker_faultOfConstant_115 : decode b_Linker_faultOfConstant 115 = .ok (.bipush 6, 2) := by decide +kernel
theorem d_Linker_faultOfConstant_117 : decode b_Linker_faultOfConstant 117 = .ok (.ireturn, 1) := by decide +kernel
theorem d_Linker_faultOfConstant_118 : decode b_Linker_faultOfConstant 118 = .ok (.aload_n 0, 1) := by decide +kernel
theorem d_Linker_faultOfConstant_119 : decode b_Linker_faultOfConstant 119 = .ok (.getfield 9, 3) := by decide +kernel
theorem d_Linker_faultOfConstant_122 : decode b_Linker_faultOfConstant 122 = .ok (.iload_n 2, 1) := by decide +kernel
theorem d_Linker_faultOfConstant_123 : decode b_Linker_faultOfConstant 123 = .ok (.invokevirtual 58, 3) := by decide +kernel
theorem d_Linker_faultOfConstant_126 : decode b_Linker_faultOfConstant 126 = .ok (.bipush 7, 2) := by decide +kernel
theorem d_Linker_faultOfConstant_128 : decode b_Linker_faultOfConstant 128 = .ok (.if_icmp .ne 27, 3) := by decide +kernel
theorem d_Linker_faultOfConstant_131 : decode b_Linker_faultOfConstant 131 = .ok (.aload_n 0, 1) := by decide +kernel
theorem d_Linker_faultOfConstant_132 : decode b_Linker_faultOfConstant 132 = .ok (.getfield 9, 3) := by decide +kernel
theorem d_Linker_faultOfConstant_135 : decode b_Linker_faultOfConstant 135 = .ok (.aload_n 0, 1) := by decide +kernel
theorem d_Linker_faultOfConstant_136 : decode b_Linker_faultOfConstant 136 = .ok (.getfield 9, 3) := by decide +kernel
theorem d_Linker_faultOfConstant_139 : decode b_Linker_faultOfConstant 139 = .ok (.iload_n 1, 1) := by decide +kernel
theorem d_Linker_faultOfConstant_140 : decode b_Linker_faultOfConstant 140 = .ok (.invokevirtual 76, 3) := by decide +kernel
theorem d_Linker_faultOfConstant_143 : decode b_Linker_faultOfConstant 143 = .ok (.invokevirtual 58, 3) := by decide +kernel
theorem d_Linker_faultOfConstant_146 : decode b_Linker_faultOfConstant 146 = .ok (.bipush 12, 2) := by decide +kernel
theorem d_Linker_faultOfConstant_148 : decode b_Linker_faultOfConstant 148 = .ok (.if_icmp .ne 7, 3) := by decide +kernel
theorem d_Linker_faultOfConstant_151 : decode b_Linker_faultOfConstant 151 = .ok (.iconst 1, 1) := by decide +kernel
theorem d_Linker_faultOfConstant_152 : decode b_Linker_faultOfConstant 152 = .ok (.goto 4, 3) := by decide +kernel
theorem d_Linker_faultOfConstant_155 : decode b_Linker_faultOfConstant 155 = .ok (.iconst 0, 1) := by decide +kernel
theorem d_Linker_faultOfConstant_156 : decode b_Linker_faultOfConstant 156 = .ok (.istore 4, 2) := by decide +kernel
theorem d_Linker_faultOfConstant_158 : decode b_Linker_faultOfConstant 158 = .ok (.iload 4, 2) := by decide +kernel
theorem d_Linker_faultOfConstant_160 : decode b_Linker_faultOfConstant 160 = .ok (.ifCond .eq 7, 3) := by decide +kernel
theorem d_Linker_faultOfConstant_163 : decode b_Linker_faultOfConstant 163 = .ok (.iconst 0, 1) := by decide +kernel
theorem d_Linker_faultOfConstant_164 : decode b_Linker_faultOfConstant 164 = .ok (.goto 5, 3) := by decide +kernel
theorem d_Linker_faultOfConstant_167 : decode b_Linker_faultOfConstant 167 = .ok (.bipush 6, 2) := by decide +kernel
theorem d_Linker_faultOfConstant_169 : decode b_Linker_faultOfConstant 169 = .ok (.ireturn, 1) := by decide +kernel
theorem d_Linker_faultOfConstant_170 : decode b_Linker_faultOfConstant 170 = .ok (.aload_n 0, 1) := by decide +kernel
theorem d_Linker_faultOfConstant_171 : decode b_Linker_faultOfConstant 171 = .ok (.iload_n 2, 1) := by decide +kernel
theorem d_Linker_faultOfConstant_172 : decode b_Linker_faultOfConstant 172 = .ok (.aload_n 0, 1) := by decide +kernel
theorem d_Linker_faultOfConstant_173 : decode b_Linker_faultOfConstant 173 = .ok (.getfield 9, 3) := by decide +kernel
theorem d_Linker_faultOfConstant_176 : decode b_Linker_faultOfConstant 176 = .ok (.iload_n 1, 1) := by decide +kernel
theorem d_Linker_faultOfConstant_177 : decode b_Linker_faultOfConstant 177 = .ok (.invokevirtual 76, 3) := by decide +kernel
theorem d_Linker_faultOfConstant_180 : decode b_Linker_faultOfConstant 180 = .ok (.invokevirtual 79, 3) := by decide +kernel
theorem d_Linker_faultOfConstant_183 : decode b_Linker_faultOfConstant 183 = .ok (.ireturn, 1) := by decide +kernel
theorem d_Linker_faultOfConstant_184 : decode b_Linker_faultOfConstant 184 = .ok (.iconst 0, 1) := by decide +kernel
theorem d_Linker_faultOfConstant_185 : decode b_Linker_faultOfConstant 185 = .ok (.ireturn, 1) := by decide +kernel
theorem d_Linker_faultOfMember_0 : decode b_Linker_faultOfMember 0 = .ok (.aload_n 0, 1) := by decide +kernel
theorem d_Linker_faultOfMember_1 : decode b_Linker_faultOfMember 1 = .ok (.getfield 9, 3) := by decide +kernel
theorem d_Linker_faultOfMember_4 : decode b_Linker_faultOfMember 4 = .ok (.iload_n 1, 1) := by decide +kernel
theorem d_Linker_faultOfMember_5 : decode b_Linker_faultOfMember 5 = .ok (.iload_n 2, 1) := by decide +kernel
theorem d_Linker_faultOfMember_6 : decode b_Linker_faultOfMember 6 = .ok (.invokevirtual 134, 3) := by decide +kernel
theorem d_Linker_faultOfMember_9 : decode b_Linker_faultOfMember 9 = .ok (.istore_n 3, 1) := by decide +kernel
theorem d_Linker_faultOfMember_10 : decode b_Linker_faultOfMember 10 = .ok (.aload_n 0, 1) := by decide +kernel
theorem d_Linker_faultOfMember_11 : decode b_Linker_faultOfMember 11 = .ok (.getfield 9, 3) := by decide +kernel
theorem d_Linker_faultOfMember_14 : decode b_Linker_faultOfMember 14 = .ok (.iload_n 3, 1) := by decide +kernel
theorem d_Linker_faultOfMember_15 : decode b_Linker_faultOfMember 15 = .ok (.invokevirtual 137, 3) := by decide +kernel
theorem d_Linker_faultOfMember_18 : decode b_Linker_faultOfMember 18 = .ok (.istore 4, 2) := by decide +kernel
theorem d_Linker_faultOfMember_20 : decode b_Linker_faultOfMember 20 = .ok (.aload_n 0, 1) := by decide +kernel
theorem d_Linker_faultOfMember_21 : decode b_Linker_faultOfMember 21 = .ok (.getfield 9, 3) := by decide +kernel
theorem d_Linker_faultOfMember_24 : decode b_Linker_faultOfMember 24 = .ok (.iload_n 3, 1) := by decide +kernel
theorem d_Linker_faultOfMember_25 : decode b_Linker_faultOfMember 25 = .ok (.invokevirtual 140, 3) := by decide +kernel
theorem d_Linker_faultOfMember_28 : decode b_Linker_faultOfMember 28 = .ok (.istore 5, 2) := by decide +kernel
theorem d_Linker_faultOfMember_30 : decode b_Linker_faultOfMember 30 = .ok (.aload_n 0, 1) := by decide +kernel
theorem d_Linker_faultOfMember_31 : decode b_Linker_faultOfMember 31 = .ok (.iload 4, 2) := by decide +kernel
theorem d_Linker_faultOfMember_33 : decode b_Linker_faultOfMember 33 = .ok (.invokevirtual 61, 3) := by decide +kernel
theorem d_Linker_faultOfMember_36 : decode b_Linker_faultOfMember 36 = .ok (.ifCond .eq 12, 3) := by decide +kernel
theorem d_Linker_faultOfMember_39 : decode b_Linker_faultOfMember 39 = .ok (.aload_n 0, 1) := by decide +kernel
theorem d_Linker_faultOfMember_40 : decode b_Linker_faultOfMember 40 = .ok (.iload 5, 2) := by decide +kernel
theorem d_Linker_faultOfMember_42 : decode b_Linker_faultOfMember 42 = .ok (.invokevirtual 61, 3) := by decide +kernel
theorem d_Linker_faultOfMember_45 : decode b_Linker_faultOfMember 45 = .ok (.ifCond .ne 6, 3) := by decide +kernel
theorem d_Linker_faultOfMember_48 : decode b_Linker_faultOfMember 48 = .ok (.bipush 6, 2) := by decide +kernel
theorem d_Linker_faultOfMember_50 : decode b_Linker_faultOfMember 50 = .ok (.ireturn, 1) := by decide +kernel
theorem d_Linker_faultOfMember_51 : decode b_Linker_faultOfMember 51 = .ok (.iload_n 1, 1) := by decide +kernel
theorem d_Linker_faultOfMember_52 : decode b_Linker_faultOfMember 52 = .ok (.ifCond .eq 35, 3) := by decide +kernel
theorem d_Linker_faultOfMember_55 : decode b_Linker_faultOfMember 55 = .ok (.aload_n 0, 1) := by decide +kernel
theorem d_Linker_faultOfMember_56 : decode b_Linker_faultOfMember 56 = .ok (.getfield 9, 3) := by decide +kernel
theorem d_Linker_faultOfMember_59 : decode b_Linker_faultOfMember 59 = .ok (.iload 4, 2) := by decide +kernel
theorem d_Linker_faultOfMember_61 : decode b_Linker_faultOfMember 61 = .ok (.ldc 86, 2) := by decide +kernel
theorem d_Linker_faultOfMember_63 : decode b_Linker_faultOfMember 63 = .ok (.invokevirtual 87, 3) := by decide +kernel
theorem d_Linker_faultOfMember_66 : decode b_Linker_faultOfMember 66 = .ok (.ifCond .ne 17, 3) := by decide +kernel
theorem d_Linker_faultOfMember_69 : decode b_Linker_faultOfMember 69 = .ok (.aload_n 0, 1) := by decide +kernel
theorem d_Linker_faultOfMember_70 : decode b_Linker_faultOfMember 70 = .ok (.getfield 9, 3) := by decide +kernel
theorem d_Linker_faultOfMember_73 : decode b_Linker_faultOfMember 73 = .ok (.iload 4, 2) := by decide +kernel
theorem d_Linker_faultOfMember_75 : decode b_Linker_faultOfMember 75 = .ok (.ldc 143, 2) := by decide +kernel
theorem d_Linker_faultOfMember_77 : decode b_Linker_faultOfMember 77 = .ok (.invokevirtual 87, 3) := by decide +kernel
theorem d_Linker_faultOfMember_80 : decode b_Linker_faultOfMember 80 = .ok (.ifCond .eq 7, 3) := by decide +kernel
theorem d_Linker_faultOfMember_83 : decode b_Linker_faultOfMember 83 = .ok (.iconst 1, 1) := by decide +kernel
theorem d_Linker_faultOfMember_84 : decode b_Linker_faultOfMember 84 = .ok (.goto 4, 3) := by decide +kernel
theorem d_Linker_faultOfMember_87 : decode b_Linker_faultOfMember 87 = .ok (.iconst 0, 1) := by decide +kernel
theorem d_Linker_faultOfMember_88 : decode b_Linker_faultOfMember 88 = .ok (.istore 6, 2) := by decide +kernel
theorem d_Linker_faultOfMember_90 : decode b_Linker_faultOfMember 90 = .ok (.iload 6, 2) := by decide +kernel
theorem d_Linker_faultOfMember_92 : decode b_Linker_faultOfMember 92 = .ok (.ifCond .ne 15, 3) := by decide +kernel
theorem d_Linker_faultOfMember_95 : decode b_Linker_faultOfMember 95 = .ok (.aload_n 0, 1) := by decide +kernel
theorem d_Linker_faultOfMember_96 : decode b_Linker_faultOfMember 96 = .ok (.iload 4, 2) := by decide +kernel
theorem d_Linker_faultOfMember_98 : decode b_Linker_faultOfMember 98 = .ok (.invokevirtual 83, 3) := by decide +kernel
theorem d_Linker_faultOfMember_101 : decode b_Linker_faultOfMember 101 = .ok (.ifCond .ne 6, 3) := by decide +kernel
theorem d_Linker_faultOfMember_104 : decode b_Linker_faultOfMember 104 = .ok (.bipush 10, 2) := by decide +kernel
theorem d_Linker_faultOfMember_106 : decode b_Linker_faultOfMember 106 = .ok (.ireturn, 1) := by decide +kernel
theorem d_Linker_faultOfMember_107 : decode b_Linker_faultOfMember 107 = .ok (.iload_n 1, 1) := by decide +kernel
theorem d_Linker_faultOfMember_108 : decode b_Linker_faultOfMember 108 = .ok (.ifCond .eq 34, 3) := by decide +kernel
theorem d_Linker_faultOfMember_111 : decode b_Linker_faultOfMember 111 = .ok (.aload_n 0, 1) := by decide +kernel
theorem d_Linker_faultOfMember_112 : decode b_Linker_faultOfMember 112 = .ok (.getfield 9, 3) := by decide +kernel
theorem d_Linker_faultOfMember_115 : decode b_Linker_faultOfMember 115 = .ok (.iload 5, 2) := by decide +kernel
theorem d_Linker_faultOfMember_117 : decode b_Linker_faultOfMember 117 = .ok (.invokestatic 95, 3) := by decide +kernel
theorem d_Linker_faultOfMember_120 : decode b_Linker_faultOfMember 120 = .ok (.ifCond .eq 18, 3) := by decide +kernel
theorem d_Linker_faultOfMember_123 : decode b_Linker_faultOfMember 123 = .ok (.aload_n 0, 1) := by decide +kernel
theorem d_Linker_faultOfMember_124 : decode b_Linker_faultOfMember 124 = .ok (.iload 4, 2) := by decide +kernel
theorem d_Linker_faultOfMember_126 : decode b_Linker_faultOfMember 126 = .ok (.iload 5, 2) := by decide +kernel
theorem d_Linker_faultOfMember_128 : decode b_Linker_faultOfMember 128 = .ok (.invokevirtual 101, 3) := by decide +kernel
theorem d_Linker_faultOfMember_131 : decode b_Linker_faultOfMember 131 = .ok (.ifCond .eq 7, 3) := by decide +kernel
theorem d_Linker_faultOfMember_134 : decode b_Linker_faultOfMember 134 = .ok (.iconst 1, 1) := by decide +kernel
theorem d_Linker_faultOfMember_135 : decode b_Linker_faultOfMember 135 = .ok (.goto 16, 3) := by decide +kernel
theorem d_Linker_faultOfMember_138 : decode b_Linker_faultOfMember 138 = .ok (.iconst 0, 1) := by decide +kernel
theorem d_Linker_faultOfMember_139 : decode b_Linker_faultOfMember 139 = .ok (.goto 12, 3) := by decide +kernel
theorem d_Linker_faultOfMember_142 : decode b_Linker_faultOfMember 142 = .ok (.aload_n 0, 1) := by decide +kernel
theorem d_Linker_faultOfMember_143 : decode b_Linker_faultOfMember 143 = .ok (.getfield 9, 3) := by decide +kernel
theorem d_Linker_faultOfMember_146 : decode b_Linker_faultOfMember 146 = .ok (.iload 5, 2) := by decide +kernel
theorem d_Linker_faultOfMember_148 : decode b_Linker_faultOfMember 148 = .ok (.invokestatic 91, 3) := by decide +kernel
theorem d_Linker_faultOfMember_151 : decode b_Linker_faultOfMember 151 = .ok (.istore 7, 2) := by decide +kernel
theorem d_Linker_faultOfMember_153 : decode b_Linker_faultOfMember 153 = .ok (.iload 7, 2) := by decide +kernel
theorem d_Linker_faultOfMember_155 : decode b_Linker_faultOfMember 155 = .ok (.ifCond .ne 6, 3) := by decide +kernel
theorem d_Linker_faultOfMember_158 : decode b_Linker_faultOfMember 158 = .ok (.bipush 11, 2) := by decide +kernel
theorem d_Linker_faultOfMember_160 : decode b_Linker_faultOfMember 160 = .ok (.ireturn, 1) := by decide +kernel
theorem d_Linker_faultOfMember_161 : decode b_Linker_faultOfMember 161 = .ok (.aload_n 0, 1) := by decide +kernel
theorem d_Linker_faultOfMember_162 : decode b_Linker_faultOfMember 162 = .ok (.iload_n 1, 1) := by decide +kernel
theorem d_Linker_faultOfMember_163 : decode b_Linker_faultOfMember 163 = .ok (.iload_n 2, 1) := by decide +kernel
theorem d_Linker_faultOfMember_164 : decode b_Linker_faultOfMember 164 = .ok (.invokevirtual 145, 3) := by decide +kernel
theorem d_Linker_faultOfMember_167 : decode b_Linker_faultOfMember 167 = .ok (.ifCond .eq 6, 3) := by decide +kernel
theorem d_Linker_faultOfMember_170 : decode b_Linker_faultOfMember 170 = .ok (.bipush 7, 2) := by decide +kernel
theorem d_Linker_faultOfMember_172 : decode b_Linker_faultOfMember 172 = .ok (.ireturn, 1) := by decide +kernel
theorem d_Linker_faultOfMember_173 : decode b_Linker_faultOfMember 173 = .ok (.iload_n 1, 1) := by decide +kernel
theorem d_Linker_faultOfMember_174 : decode b_Linker_faultOfMember 174 = .ok (.ifCond .ne 5, 3) := by decide +kernel
theorem d_Linker_faultOfMember_177 : decode b_Linker_faultOfMember 177 = .ok (.iconst 0, 1) := by decide +kernel
theorem d_Linker_faultOfMember_178 : decode b_Linker_faultOfMember 178 = .ok (.ireturn, 1) := by decide +kernel
theorem d_Linker_faultOfMember_179 : decode b_Linker_faultOfMember 179 = .ok (.aload_n 0, 1) := by decide +kernel
theorem d_Linker_faultOfMember_180 : decode b_Linker_faultOfMember 180 = .ok (.getfield 21, 3) := by decide +kernel
theorem d_Linker_faultOfMember_183 : decode b_Linker_faultOfMember 183 = .ok (.iload_n 3, 1) := by decide +kernel
theorem d_Linker_faultOfMember_184 : decode b_Linker_faultOfMember 184 = .ok (.invokevirtual 121, 3) := by decide +kernel
theorem d_Linker_faultOfMember_187 : decode b_Linker_faultOfMember 187 = .ok (.sipush 1280, 3) := by decide +kernel
theorem d_Linker_faultOfMember_190 : decode b_Linker_faultOfMember 190 = .ok (.iand, 1) := by decide +kernel
theorem d_Linker_faultOfMember_191 : decode b_Linker_faultOfMember 191 = .ok (.ifCond .eq 7, 3) := by decide +kernel
theorem d_Linker_faultOfMember_194 : decode b_Linker_faultOfMember 194 = .ok (.iconst 1, 1) := by decide +kernel
theorem d_Linker_faultOfMember_195 : decode b_Linker_faultOfMember 195 = .ok (.goto 4, 3) := by decide +kernel
theorem d_Linker_faultOfMember_198 : decode b_Linker_faultOfMember 198 = .ok (.iconst 0, 1) := by decide +kernel
theorem d_Linker_faultOfMember_199 : decode b_Linker_faultOfMember 199 = .ok (.istore 8, 2) := by decide +kernel
theorem d_Linker_faultOfMember_201 : decode b_Linker_faultOfMember 201 = .ok (.iload 8, 2) := by decide +kernel
theorem d_Linker_faultOfMember_203 : decode b_Linker_faultOfMember 203 = .ok (.aload_n 0, 1) := by decide +kernel
theorem d_Linker_faultOfMember_204 : decode b_Linker_faultOfMember 204 = .ok (.getfield 9, 3) := by decide +kernel
theorem d_Linker_faultOfMember_207 : decode b_Linker_faultOfMember 207 = .ok (.iload_n 2, 1) := by decide +kernel
theorem d_Linker_faultOfMember_208 : decode b_Linker_faultOfMember 208 = .ok (.invokevirtual 149, 3) := by decide +kernel
theorem d_Linker_faultOfMember_211 : decode b_Linker_faultOfMember 211 = .ok (.ifCond .ne 7, 3) := by decide +kernel
theorem d_Linker_faultOfMember_214 : decode b_Linker_faultOfMember 214 = .ok (.iconst 1, 1) := by decide +kernel
theorem d_Linker_faultOfMember_215 : decode b_Linker_faultOfMember 215 = .ok (.goto 4, 3) := by decide +kernel
theorem d_Linker_faultOfMember_218 : decode b_Linker_faultOfMember 218 = .ok (.iconst 0, 1) := by decide +kernel
theorem d_Linker_faultOfMember_219 : decode b_Linker_faultOfMember 219 = .ok (.if_icmp .ne 7, 3) := by decide +kernel
theorem d_Linker_faultOfMember_222 : decode b_Linker_faultOfMember 222 = .ok (.iconst 0, 1) := by decide +kernel
theorem d_Linker_faultOfMember_223 : decode b_Linker_faultOfMember 223 = .ok (.goto 5, 3) := by decide +kernel
theorem d_Linker_faultOfMember_226 : decode b_Linker_faultOfMember 226 = .ok (.bipush 12, 2) := by decide +kernel
theorem d_Linker_faultOfMember_228 : decode b_Linker_faultOfMember 228 = .ok (.ireturn, 1) := by decide +kernel
theorem d_Linker_faultOfPair_0 : decode b_Linker_faultOfPair 0 = .ok (.aload_n 0, 1) := by decide +kernel
theorem d_Linker_faultOfPair_1 : decode b_Linker_faultOfPair 1 = .ok (.iload_n 1, 1) := by decide +kernel
theorem d_Linker_faultOfPair_2 : decode b_Linker_faultOfPair 2 = .ok (.invokevirtual 61, 3) := by decide +kernel
theorem d_Linker_faultOfPair_5 : decode b_Linker_faultOfPair 5 = .ok (.ifCond .eq 11, 3) := by decide +kernel
theorem d_Linker_faultOfPair_8 : decode b_Linker_faultOfPair 8 = .ok (.aload_n 0, 1) := by decide +kernel
theorem d_Linker_faultOfPair_9 : decode b_Linker_faultOfPair 9 = .ok (.iload_n 2, 1) := by decide +kernel
theorem d_Linker_faultOfPair_10 : decode b_Linker_faultOfPair 10 = .ok (.invokevirtual 61, 3) := by decide +kernel
theorem d_Linker_faultOfPair_13 : decode b_Linker_faultOfPair 13 = .ok (.ifCond .ne 6, 3) := by decide +kernel
theorem d_Linker_faultOfPair_16 : decode b_Linker_faultOfPair 16 = .ok (.bipush 6, 2) := by decide +kernel
theorem d_Linker_faultOfPair_18 : decode b_Linker_faultOfPair 18 = .ok (.ireturn, 1) := by decide +kernel
theorem d_Linker_faultOfPair_19 : decode b_Linker_faultOfPair 19 = .ok (.aload_n 0, 1) := by decide +kernel
theorem d_Linker_faultOfPair_20 : decode b_Linker_faultOfPair 20 = .ok (.iload_n 1, 1) := by decide +kernel
theorem d_Linker_faultOfPair_21 : decode b_Linker_faultOfPair 21 = .ok (.invokevirtual 83, 3) := by decide +kernel
theorem d_Linker_faultOfPair_24 : decode b_Linker_faultOfPair 24 = .ok (.ifCond .ne 19, 3) := by decide +kernel
theorem d_Linker_faultOfPair_27 : decode b_Linker_faultOfPair 27 = .ok (.aload_n 0, 1) := by decide +kernel
theorem d_Linker_faultOfPair_28 : decode b_Linker_faultOfPair 28 = .ok (.getfield 9, 3) := by decide +kernel
theorem d_Linker_faultOfPair_31 : decode b_Linker_faultOfPair 31 = .ok (.iload_n 1, 1) := by decide +kernel
theorem d_Linker_faultOfPair_32 : decode b_Linker_faultOfPair 32 = .ok (.ldc 86, 2) := by decide +kernel
theorem d_Linker_faultOfPair_34 : decode b_Linker_faultOfPair 34 = .ok (.invokevirtual 87, 3) := by decide +kernel
theorem d_Linker_faultOfPair_37 : decode b_Linker_faultOfPair 37 = .ok (.ifCond .ne 6, 3) := by decide +kernel
theorem d_Linker_faultOfPair_40 : decode b_Linker_faultOfPair 40 = .ok (.bipush 10, 2) := by decide +kernel
theorem d_Linker_faultOfPair_42 : decode b_Linker_faultOfPair 42 = .ok (.ireturn, 1) := by decide +kernel
theorem d_Linker_faultOfPair_43 : decode b_Linker_faultOfPair 43 = .ok (.aload_n 0, 1) := by decide +kernel
theorem d_Linker_faultOfPair_44 : decode b_Linker_faultOfPair 44 = .ok (.getfield 9, 3) := by decide +kernel
theorem d_Linker_faultOfPair_47 : decode b_Linker_faultOfPair 47 = .ok (.iload_n 2, 1) := by decide +kernel
theorem d_Linker_faultOfPair_48 : decode b_Linker_faultOfPair 48 = .ok (.invokestatic 91, 3) := by decide +kernel
theorem d_Linker_faultOfPair_51 : decode b_Linker_faultOfPair 51 = .ok (.ifCond .ne 14, 3) := by decide +kernel
theorem d_Linker_faultOfPair_54 : decode b_Linker_faultOfPair 54 = .ok (.aload_n 0, 1) := by decide +kernel
theorem d_Linker_faultOfPair_55 : decode b_Linker_faultOfPair 55 = .ok (.getfield 9, 3) := by decide +kernel
theorem d_Linker_faultOfPair_58 : decode b_Linker_faultOfPair 58 = .ok (.iload_n 2, 1) := by decide +kernel
theorem d_Linker_faultOfPair_59 : decode b_Linker_faultOfPair 59 = .ok (.invokestatic 95, 3) := by decide +kernel
theorem d_Linker_faultOfPair_62 : decode b_Linker_faultOfPair 62 = .ok (.ifCond .eq 7, 3) := by decide +kernel
theorem d_Linker_faultOfPair_65 : decode b_Linker_faultOfPair 65 = .ok (.iconst 0, 1) := by decide +kernel
theorem d_Linker_faultOfPair_66 : decode b_Linker_faultOfPair 66 = .ok (.goto 5, 3) := by decide +kernel
theorem d_Linker_faultOfPair_69 : decode b_Linker_faultOfPair 69 = .ok (.bipush 11, 2) := by decide +kernel
theorem d_Linker_faultOfPair_71 : decode b_Linker_faultOfPair 71 = .ok (.ireturn, 1) := by decide +kernel
theorem d_Linker_isClassAt_0 : decode b_Linker_isClassAt 0 = .ok (.aload_n 0, 1) := by decide +kernel
theorem d_Linker_isClassAt_1 : decode b_Linker_isClassAt 1 = .ok (.getfield 9, 3) := by decide +kernel
theorem d_Linker_isClassAt_4 : decode b_Linker_isClassAt 4 = .ok (.aload_n 0, 1) := by decide +kernel
theorem d_Linker_isClassAt_5 : decode b_Linker_isClassAt 5 = .ok (.getfield 21, 3) := by decide +kernel
theorem d_Linker_isClassAt_8 : decode b_Linker_isClassAt 8 = .ok (.iload_n 1, 1) := by decide +kernel
theorem d_Linker_isClassAt_9 : decode b_Linker_isClassAt 9 = .ok (.invokevirtual 121, 3) := by decide +kernel
theorem d_Linker_isClassAt_12 : decode b_Linker_isClassAt 12 = .ok (.invokevirtual 58, 3) := by decide +kernel
theorem d_Linker_isClassAt_15 : decode b_Linker_isClassAt 15 = .ok (.bipush 7, 2) := by decide +kernel
theorem d_Linker_isClassAt_17 : decode b_Linker_isClassAt 17 = .ok (.if_icmp .eq 16, 3) := by decide +kernel
theorem d_Linker_isClassAt_20 : decode b_Linker_isClassAt 20 = .ok (.aload_n 0, 1) := by decide +kernel
theorem d_Linker_isClassAt_21 : decode b_Linker_isClassAt 21 = .ok (.getfield 22, 3) := by decide +kernel
theorem d_Linker_isClassAt_24 : decode b_Linker_isClassAt 24 = .ok (.bipush 6, 2) := by decide +kernel
theorem d_Linker_isClassAt_26 : decode b_Linker_isClassAt 26 = .ok (.iload_n 1, 1) := by decide +kernel
theorem d_Linker_isClassAt_27 : decode b_Linker_isClassAt 27 = .ok (.invokevirtual 37, 3) := by decide +kernel
theorem d_Linker_isClassAt_30 : decode b_Linker_isClassAt 30 = .ok (.ifCond .eq 7, 3) := by decide +kernel
theorem d_Linker_isClassAt_33 : decode b_Linker_isClassAt 33 = .ok (.iconst 1, 1) := by decide +kernel
theorem d_Linker_isClassAt_34 : decode b_Linker_isClassAt 34 = .ok (.goto 4, 3) := by decide +kernel
theorem d_Linker_isClassAt_37 : decode b_Linker_isClassAt 37 = .ok (.iconst 0, 1) := by decide +kernel
theorem d_Linker_isClassAt_38 : decode b_Linker_isClassAt 38 = .ok (.ireturn, 1) := by decide +kernel
theorem d_Linker_isName_0 : decode b_Linker_isName 0 = .ok (.aload_n 0, 1) := by decide +kernel
theorem d_Linker_isName_1 : decode b_Linker_isName 1 = .ok (.getfield 21, 3) := by decide +kernel
theorem d_Linker_isName_4 : decode b_Linker_isName 4 = .ok (.aload_n 0, 1) := by decide +kernel
theorem d_Linker_isName_5 : decode b_Linker_isName 5 = .ok (.getfield 9, 3) := by decide +kernel
theorem d_Linker_isName_8 : decode b_Linker_isName 8 = .ok (.iload_n 1, 1) := by decide +kernel
theorem d_Linker_isName_9 : decode b_Linker_isName 9 = .ok (.invokevirtual 67, 3) := by decide +kernel
theorem d_Linker_isName_12 : decode b_Linker_isName 12 = .ok (.aload_n 0, 1) := by decide +kernel
theorem d_Linker_isName_13 : decode b_Linker_isName 13 = .ok (.getfield 9, 3) := by decide +kernel
theorem d_Linker_isName_16 : decode b_Linker_isName 16 = .ok (.iload_n 1, 1) := by decide +kernel
theorem d_Linker_isName_17 : decode b_Linker_isName 17 = .ok (.invokevirtual 64, 3) := by decide +kernel
theorem d_Linker_isName_20 : decode b_Linker_isName 20 = .ok (.invokestatic 98, 3) := by decide +kernel
theorem d_Linker_isName_23 : decode b_Linker_isName 23 = .ok (.ireturn, 1) := by decide +kernel
theorem d_Linker_isText_0 : decode b_Linker_isText 0 = .ok (.aload_n 0, 1) := by decide +kernel
theorem d_Linker_isText_1 : decode b_Linker_isText 1 = .ok (.getfield 9, 3) := by decide +kernel
theorem d_Linker_isText_4 : decode b_Linker_isText 4 = .ok (.iload_n 1, 1) := by decide +kernel
theorem d_Linker_isText_5 : decode b_Linker_isText 5 = .ok (.invokevirtual 58, 3) := by decide +kernel
theorem d_Linker_isText_8 : decode b_Linker_isText 8 = .ok (.iconst 1, 1) := by decide +kernel
theorem d_Linker_isText_9 : decode b_Linker_isText 9 = .ok (.if_icmp .ne 7, 3) := by decide +kernel
theorem d_Linker_isText_12 : decode b_Linker_isText 12 = .ok (.iconst 1, 1) := by decide +kernel
theorem d_Linker_isText_13 : decode b_Linker_isText 13 = .ok (.goto 4, 3) := by decide +kernel
theorem d_Linker_isText_16 : decode b_Linker_isText 16 = .ok (.iconst 0, 1) := by decide +kernel
theorem d_Linker_isText_17 : decode b_Linker_isText 17 = .ok (.ireturn, 1) := by decide +kernel
theorem d_Linker_isThereBefore_0 : decode b_Linker_isThereBefore 0 = .ok (.aload_n 0, 1) := by decide +kernel
theorem d_Linker_isThereBefore_1 : decode b_Linker_isThereBefore 1 = .ok (.getfield 9, 3) := by decide +kernel
theorem d_Linker_isThereBefore_4 : decode b_Linker_isThereBefore 4 = .ok (.iload_n 1, 1) := by decide +kernel
theorem d_Linker_isThereBefore_5 : decode b_Linker_isThereBefore 5 = .ok (.iload_n 2, 1) := by decide +kernel
theorem d_Linker_isThereBefore_6 : decode b_Linker_isThereBefore 6 = .ok (.invokevirtual 134, 3) := by decide +kernel
theorem d_Linker_isThereBefore_9 : decode b_Linker_isThereBefore 9 = .ok (.istore_n 3, 1) := by decide +kernel
theorem d_Linker_isThereBefore_10 : decode b_Linker_isThereBefore 10 = .ok (.iconst 0, 1) := by decide +kernel
theorem d_Linker_isThereBefore_11 : decode b_Linker_isThereBefore 11 = .ok (.istore 4, 2) := by decide +kernel
theorem d_Linker_isThereBefore_13 : decode b_Linker_isThereBefore 13 = .ok (.iload 4, 2) := by decide +kernel
theorem d_Linker_isThereBefore_15 : decode b_Linker_isThereBefore 15 = .ok (.iload_n 2, 1) := by decide +kernel
theorem d_Linker_isThereBefore_16 : decode b_Linker_isThereBefore 16 = .ok (.if_icmp .ge 77, 3) := by decide +kernel
theorem d_Linker_isThereBefore_19 : decode b_Linker_isThereBefore 19 = .ok (.aload_n 0, 1) := by decide +kernel
theorem d_Linker_isThereBefore_20 : decode b_Linker_isThereBefore 20 = .ok (.getfield 9, 3) := by decide +kernel
theorem d_Linker_isThereBefore_23 : decode b_Linker_isThereBefore 23 = .ok (.iload_n 1, 1) := by decide +kernel
theorem d_Linker_isThereBefore_24 : decode b_Linker_isThereBefore 24 = .ok (.iload 4, 2) := by decide +kernel
theorem d_Linker_isThereBefore_26 : decode b_Linker_isThereBefore 26 = .ok (.invokevirtual 134, 3) := by decide +kernel
theorem d_Linker_isThereBefore_29 : decode b_Linker_isThereBefore 29 = .ok (.istore 5, 2) := by decide +kernel
theorem d_Linker_isThereBefore_31 : decode b_Linker_isThereBefore 31 = .ok (.aload_n 0, 1) := by decide +kernel
theorem d_Linker_isThereBefore_32 : decode b_Linker_isThereBefore 32 = .ok (.getfield 9, 3) := by decide +kernel
theorem d_Linker_isThereBefore_35 : decode b_Linker_isThereBefore 35 = .ok (.aload_n 0, 1) := by decide +kernel
theorem d_Linker_isThereBefore_36 : decode b_Linker_isThereBefore 36 = .ok (.getfield 9, 3) := by decide +kernel
theorem d_Linker_isThereBefore_39 : decode b_Linker_isThereBefore 39 = .ok (.iload_n 3, 1) := by decide +kernel
theorem d_Linker_isThereBefore_40 : decode b_Linker_isThereBefore 40 = .ok (.invokevirtual 137, 3) := by decide +kernel
theorem d_Linker_isThereBefore_43 : decode b_Linker_isThereBefore 43 = .ok (.aload_n 0, 1) := by decide +kernel
theorem d_Linker_isThereBefore_44 : decode b_Linker_isThereBefore 44 = .ok (.getfield 9, 3) := by decide +kernel
theorem d_Linker_isThereBefore_47 : decode b_Linker_isThereBefore 47 = .ok (.iload 5, 2) := by decide +kernel
theorem d_Linker_isThereBefore_49 : decode b_Linker_isThereBefore 49 = .ok (.invokevirtual 137, 3) := by decide +kernel
theorem d_Linker_isThereBefore_52 : decode b_Linker_isThereBefore 52 = .ok (.invokevirtual 152, 3) := by decide +kernel
theorem d_Linker_isThereBefore_55 : decode b_Linker_isThereBefore 55 = .ok (.ifCond .eq 32, 3) := by decide +kernel
theorem d_Linker_isThereBefore_58 : decode b_Linker_isThereBefore 58 = .ok (.aload_n 0, 1) := by decide +kernel
theorem d_Linker_isThereBefore_59 : decode b_Linker_isThereBefore 59 = .ok (.getfield 9, 3) := by decide +kernel
theorem d_Linker_isThereBefore_62 : decode b_Linker_isThereBefore 62 = .ok (.aload_n 0, 1) := by decide +kernel
theorem d_Linker_isThereBefore_63 : decode b_Linker_isThereBefore 63 = .ok (.getfield 9, 3) := by decide +kernel
theorem d_Linker_isThereBefore_66 : decode b_Linker_isThereBefore 66 = .ok (.iload_n 3, 1) := by decide +kernel
theorem d_Linker_isThereBefore_67 : decode b_Linker_isThereBefore 67 = .ok (.invokevirtual 140, 3) := by decide +kernel
theorem d_Linker_isThereBefore_70 : decode b_Linker_isThereBefore 70 = .ok (.aload_n 0, 1) := by decide +kernel
theorem d_Linker_isThereBefore_71 : decode b_Linker_isThereBefore 71 = .ok (.getfield 9, 3) := by decide +kernel
theorem d_Linker_isThereBefore_74 : decode b_Linker_isThereBefore 74 = .ok (.iload 5, 2) := by decide +kernel
theorem d_Linker_isThereBefore_76 : decode b_Linker_isThereBefore 76 = .ok (.invokevirtual 140, 3) := by decide +kernel
theorem d_Linker_isThereBefore_79 : decode b_Linker_isThereBefore 79 = .ok (.invokevirtual 152, 3) := by decide +kernel
theorem d_Linker_isThereBefore_82 : decode b_Linker_isThereBefore 82 = .ok (.ifCond .eq 5, 3) := by decide +kernel
theorem d_Linker_isThereBefore_85 : decode b_Linker_isThereBefore 85 = .ok (.iconst 1, 1) := by decide +kernel
theorem d_Linker_isThereBefore_86 : decode b_Linker_isThereBefore 86 = .ok (.ireturn, 1) := by decide +kernel
theorem d_Linker_isThereBefore_87 : decode b_Linker_isThereBefore 87 = .ok (.iinc 4 1, 3) := by decide +kernel
theorem d_Linker_isThereBefore_90 : decode b_Linker_isThereBefore 90 = .ok (.goto (-77), 3) := by decide +kernel
theorem d_Linker_isThereBefore_93 : decode b_Linker_isThereBefore 93 = .ok (.iconst 0, 1) := by decide +kernel
theorem d_Linker_isThereBefore_94 : decode b_Linker_isThereBefore 94 = .ok (.ireturn, 1) := by decide +kernel
theorem d_Linker_isUseRight_0 : decode b_Linker_isUseRight 0 = .ok (.aload_n 0, 1) := by decide +kernel
theorem d_Linker_isUseRight_1 : decode b_Linker_isUseRight 1 = .ok (.getfield 9, 3) := by decide +kernel
theorem d_Linker_isUseRight_4 : decode b_Linker_isUseRight 4 = .ok (.iload_n 1, 1) := by decide +kernel
theorem d_Linker_isUseRight_5 : decode b_Linker_isUseRight 5 = .ok (.invokevirtual 58, 3) := by decide +kernel
theorem d_Linker_isUseRight_8 : decode b_Linker_isUseRight 8 = .ok (.istore_n 2, 1) := by decide +kernel
theorem d_Linker_isUseRight_9 : decode b_Linker_isUseRight 9 = .ok (.iload_n 2, 1) := by decide +kernel
theorem d_Linker_isUseRight_10 : decode b_Linker_isUseRight 10 = .ok (.bipush 9, 2) := by decide +kernel
theorem d_Linker_isUseRight_12 : decode b_Linker_isUseRight 12 = .ok (.if_icmp .eq 11, 3) := by decide +kernel
theorem d_Linker_isUseRight_15 : decode b_Linker_isUseRight 15 = .ok (.iload_n 2, 1) := by decide +kernel
theorem d_Linker_isUseRight_16 : decode b_Linker_isUseRight 16 = .ok (.bipush 10, 2) := by decide +kernel
theorem d_Linker_isUseRight_18 : decode b_Linker_isUseRight 18 = .ok (.if_icmp .eq 5, 3) := by decide +kernel
theorem d_Linker_isUseRight_21 : decode b_Linker_isUseRight 21 = .ok (.iconst 1, 1) := by decide +kernel
theorem d_Linker_isUseRight_22 : decode b_Linker_isUseRight 22 = .ok (.ireturn, 1) := by decide +kernel
theorem d_Linker_isUseRight_23 : decode b_Linker_isUseRight 23 = .ok (.aload_n 0, 1) := by decide +kernel
theorem d_Linker_isUseRight_24 : decode b_Linker_isUseRight 24 = .ok (.getfield 9, 3) := by decide +kernel
theorem d_Linker_isUseRight_27 : decode b_Linker_isUseRight 27 = .ok (.iload_n 1, 1) := by decide +kernel
theorem d_Linker_isUseRight_28 : decode b_Linker_isUseRight 28 = .ok (.invokevirtual 76, 3) := by decide +kernel
theorem d_Linker_isUseRight_31 : decode b_Linker_isUseRight 31 = .ok (.istore_n 3, 1) := by decide +kernel
theorem d_Linker_isUseRight_32 : decode b_Linker_isUseRight 32 = .ok (.aload_n 0, 1) := by decide +kernel
theorem d_Linker_isUseRight_33 : decode b_Linker_isUseRight 33 = .ok (.getfield 9, 3) := by decide +kernel
theorem d_Linker_isUseRight_36 : decode b_Linker_isUseRight 36 = .ok (.iload_n 3, 1) := by decide +kernel
theorem d_Linker_isUseRight_37 : decode b_Linker_isUseRight 37 = .ok (.invokevirtual 55, 3) := by decide +kernel
theorem d_Linker_isUseRight_40 : decode b_Linker_isUseRight 40 = .ok (.istore 4, 2) := by decide +kernel
theorem d_Linker_isUseRight_42 : decode b_Linker_isUseRight 42 = .ok (.aload_n 0, 1) := by decide +kernel
theorem d_Linker_isUseRight_43 : decode b_Linker_isUseRight 43 = .ok (.getfield 9, 3) := by decide +kernel
theorem d_Linker_isUseRight_46 : decode b_Linker_isUseRight 46 = .ok (.iload_n 3, 1) := by decide +kernel
theorem d_Linker_isUseRight_47 : decode b_Linker_isUseRight 47 = .ok (.invokevirtual 76, 3) := by decide +kernel
theorem d_Linker_isUseRight_50 : decode b_Linker_isUseRight 50 = .ok (.istore 5, 2) := by decide +kernel
theorem d_Linker_isUseRight_52 : decode b_Linker_isUseRight 52 = .ok (.iload_n 2, 1) := by decide +kernel
theorem d_Linker_isUseRight_53 : decode b_Linker_isUseRight 53 = .ok (.bipush 9, 2) := by decide +kernel
theorem d_Linker_isUseRight_55 : decode b_Linker_isUseRight 55 = .ok (.if_icmp .ne 35, 3) := by decide +kernel
theorem d_Linker_isUseRight_58 : decode b_Linker_isUseRight 58 = .ok (.aload_n 0, 1) := by decide +kernel
theorem d_Linker_isUseRight_59 : decode b_Linker_isUseRight 59 = .ok (.getfield 9, 3) := by decide +kernel
theorem d_Linker_isUseRight_62 : decode b_Linker_isUseRight 62 = .ok (.iload 4, 2) := by decide +kernel
theorem d_Linker_isUseRight_64 : decode b_Linker_isUseRight 64 = .ok (.ldc 86, 2) := by decide +kernel
theorem d_Linker_isUseRight_66 : decode b_Linker_isUseRight 66 = .ok (.invokevirtual 87, 3) := by decide +kernel
theorem d_Linker_isUseRight_69 : decode b_Linker_isUseRight 69 = .ok (.ifCond .ne 19, 3) := by decide +kernel
theorem d_Linker_isUseRight_72 : decode b_Linker_isUseRight 72 = .ok (.aload_n 0, 1) := by decide +kernel
theorem d_Linker_isUseRight_73 : decode b_Linker_isUseRight 73 = .ok (.getfield 9, 3) := by decide +kernel
theorem d_Linker_isUseRight_76 : decode b_Linker_isUseRight 76 = .ok (.iload 5, 2) := by decide +kernel
theorem d_Linker_isUseRight_78 : decode b_Linker_isUseRight 78 = .ok (.invokestatic 91, 3) := by decide +kernel
theorem d_Linker_isUseRight_81 : decode b_Linker_isUseRight 81 = .ok (.ifCond .eq 7, 3) := by decide +kernel
theorem d_Linker_isUseRight_84 : decode b_Linker_isUseRight 84 = .ok (.iconst 1, 1) := by decide +kernel
theorem d_Linker_isUseRight_85 : decode b_Linker_isUseRight 85 = .ok (.goto 4, 3) := by decide +kernel
theorem d_Linker_isUseRight_88 : decode b_Linker_isUseRight 88 = .ok (.iconst 0, 1) := by decide +kernel
theorem d_Linker_isUseRight_89 : decode b_Linker_isUseRight 89 = .ok (.ireturn, 1) := by decide +kernel
theorem d_Linker_isUseRight_90 : decode b_Linker_isUseRight 90 = .ok (.aload_n 0, 1) := by decide +kernel
theorem d_Linker_isUseRight_91 : decode b_Linker_isUseRight 91 = .ok (.getfield 9, 3) := by decide +kernel
theorem d_Linker_isUseRight_94 : decode b_Linker_isUseRight 94 = .ok (.iload 5, 2) := by decide +kernel
theorem d_Linker_isUseRight_96 : decode b_Linker_isUseRight 96 = .ok (.invokestatic 95, 3) := by decide +kernel
theorem d_Linker_isUseRight_99 : decode b_Linker_isUseRight 99 = .ok (.ifCond .eq 18, 3) := by decide +kernel
theorem d_Linker_isUseRight_102 : decode b_Linker_isUseRight 102 = .ok (.aload_n 0, 1) := by decide +kernel
theorem d_Linker_isUseRight_103 : decode b_Linker_isUseRight 103 = .ok (.iload 4, 2) := by decide +kernel
theorem d_Linker_isUseRight_105 : decode b_Linker_isUseRight 105 = .ok (.iload 5, 2) := by decide +kernel
theorem d_Linker_isUseRight_107 : decode b_Linker_isUseRight 107 = .ok (.invokevirtual 101, 3) := by decide +kernel
theorem d_Linker_isUseRight_110 : decode b_Linker_isUseRight 110 = .ok (.ifCond .eq 7, 3) := by decide +kernel
theorem d_Linker_isUseRight_113 : decode b_Linker_isUseRight 113 = .ok (.iconst 1, 1) := by decide +kernel
theorem d_Linker_isUseRight_114 : decode b_Linker_isUseRight 114 = .ok (.goto 4, 3) := by decide +kernel
theorem d_Linker_isUseRight_117 : decode b_Linker_isUseRight 117 = .ok (.iconst 0, 1) := by decide +kernel
theorem d_Linker_isUseRight_118 : decode b_Linker_isUseRight 118 = .ok (.ireturn, 1) := by decide +kernel
theorem d_Linker_links_0 : decode b_Linker_links 0 = .ok (.aload_n 0, 1) := by decide +kernel
theorem d_Linker_links_1 : decode b_Linker_links 1 = .ok (.aload_n 1, 1) := by decide +kernel
theorem d_Linker_links_2 : decode b_Linker_links 2 = .ok (.putfield 9, 3) := by decide +kernel
theorem d_Linker_links_5 : decode b_Linker_links 5 = .ok (.aload_n 0, 1) := by decide +kernel
theorem d_Linker_links_6 : decode b_Linker_links 6 = .ok (.aload_n 1, 1) := by decide +kernel
theorem d_Linker_links_7 : decode b_Linker_links 7 = .ok (.getfield 15, 3) := by decide +kernel
theorem d_Linker_links_10 : decode b_Linker_links 10 = .ok (.putfield 21, 3) := by decide +kernel
theorem d_Linker_links_13 : decode b_Linker_links 13 = .ok (.aload_n 0, 1) := by decide +kernel
theorem d_Linker_links_14 : decode b_Linker_links 14 = .ok (.aload_n 2, 1) := by decide +kernel
theorem d_Linker_links_15 : decode b_Linker_links 15 = .ok (.putfield 22, 3) := by decide +kernel
theorem d_Linker_links_18 : decode b_Linker_links 18 = .ok (.iconst 1, 1) := by decide +kernel
theorem d_Linker_links_19 : decode b_Linker_links 19 = .ok (.istore_n 3, 1) := by decide +kernel
theorem d_Linker_links_20 : decode b_Linker_links 20 = .ok (.iload_n 3, 1) := by decide +kernel
theorem d_Linker_links_21 : decode b_Linker_links 21 = .ok (.aload_n 0, 1) := by decide +kernel
theorem d_Linker_links_22 : decode b_Linker_links 22 = .ok (.getfield 9, 3) := by decide +kernel
theorem d_Linker_links_25 : decode b_Linker_links 25 = .ok (.getfield 26, 3) := by decide +kernel
theorem d_Linker_links_28 : decode b_Linker_links 28 = .ok (.if_icmp .ge 39, 3) := by decide +kernel
theorem d_Linker_links_31 : decode b_Linker_links 31 = .ok (.aload_n 0, 1) := by decide +kernel
theorem d_Linker_links_32 : decode b_Linker_links 32 = .ok (.iload_n 3, 1) := by decide +kernel
theorem d_Linker_links_33 : decode b_Linker_links 33 = .ok (.invokevirtual 30, 3) := by decide +kernel
theorem d_Linker_links_36 : decode b_Linker_links 36 = .ok (.istore 4, 2) := by decide +kernel
theorem d_Linker_links_38 : decode b_Linker_links 38 = .ok (.iload 4, 2) := by decide +kernel
theorem d_Linker_links_40 : decode b_Linker_links 40 = .ok (.ifCond .eq 21, 3) := by decide +kernel
theorem d_Linker_links_43 : decode b_Linker_links 43 = .ok (.aload_n 0, 1) := by decide +kernel
theorem d_Linker_links_44 : decode b_Linker_links 44 = .ok (.getfield 22, 3) := by decide +kernel
theorem d_Linker_links_47 : decode b_Linker_links 47 = .ok (.iload 4, 2) := by decide +kernel
theorem d_Linker_links_49 : decode b_Linker_links 49 = .ok (.aload_n 0, 1) := by decide +kernel
theorem d_Linker_links_50 : decode b_Linker_links 50 = .ok (.getfield 9, 3) := by decide +kernel
theorem d_Linker_links_53 : decode b_Linker_links 53 = .ok (.iload_n 3, 1) := by decide +kernel
theorem d_Linker_links_54 : decode b_Linker_links 54 = .ok (.invokevirtual 34, 3) := by decide +kernel
theorem d_Linker_links_57 : decode b_Linker_links 57 = .ok (.invokevirtual 37, 3) := by decide +kernel
theorem d_Linker_links_60 : decode b_Linker_links 60 = .ok (.ireturn, 1) := by decide +kernel
theorem d_Linker_links_61 : decode b_Linker_links 61 = .ok (.iinc 3 1, 3) := by decide +kernel
theorem d_Linker_links_64 : decode b_Linker_links 64 = .ok (.goto (-44), 3) := by decide +kernel
theorem d_Linker_links_67 : decode b_Linker_links 67 = .ok (.iconst 1, 1) := by decide +kernel
theorem d_Linker_links_68 : decode b_Linker_links 68 = .ok (.istore_n 3, 1) := by decide +kernel
theorem d_Linker_links_69 : decode b_Linker_links 69 = .ok (.iload_n 3, 1) := by decide +kernel
theorem d_Linker_links_70 : decode b_Linker_links 70 = .ok (.aload_n 0, 1) := by decide +kernel
theorem d_Linker_links_71 : decode b_Linker_links 71 = .ok (.getfield 9, 3) := by decide +kernel
theorem d_Linker_links_74 : decode b_Linker_links 74 = .ok (.getfield 26, 3) := by decide +kernel
theorem d_Linker_links_77 : decode b_Linker_links 77 = .ok (.if_icmp .ge 35, 3) := by decide +kernel
theorem d_Linker_links_80 : decode b_Linker_links 80 = .ok (.aload_n 0, 1) := by decide +kernel
theorem d_Linker_links_81 : decode b_Linker_links 81 = .ok (.iload_n 3, 1) := by decide +kernel
theorem d_Linker_links_82 : decode b_Linker_links 82 = .ok (.invokevirtual 43, 3) := by decide +kernel
theorem d_Linker_links_85 : decode b_Linker_links 85 = .ok (.ifCond .ne 21, 3) := by decide +kernel
theorem d_Linker_links_88 : decode b_Linker_links 88 = .ok (.aload_n 0, 1) := by decide +kernel
theorem d_Linker_links_89 : decode b_Linker_links 89 = .ok (.getfield 22, 3) := by decide +kernel
theorem d_Linker_links_92 : decode b_Linker_links 92 = .ok (.bipush 11, 2) := by decide +kernel
theorem d_Linker_links_94 : decode b_Linker_links 94 = .ok (.aload_n 0, 1) := by decide +kernel
theorem d_Linker_links_95 : decode b_Linker_links 95 = .ok (.getfield 9, 3) := by decide +kernel
theorem d_Linker_links_98 : decode b_Linker_links 98 = .ok (.iload_n 3, 1) := by decide +kernel
theorem d_Linker_links_99 : decode b_Linker_links 99 = .ok (.invokevirtual 34, 3) := by decide +kernel
theorem d_Linker_links_102 : decode b_Linker_links 102 = .ok (.invokevirtual 37, 3) := by decide +kernel
theorem d_Linker_links_105 : decode b_Linker_links 105 = .ok (.ireturn, 1) := by decide +kernel
theorem d_Linker_links_106 : decode b_Linker_links 106 = .ok (.iinc 3 1, 3) := by decide +kernel
theorem d_Linker_links_109 : decode b_Linker_links 109 = .ok (.goto (-40), 3) := by decide +kernel
theorem d_Linker_links_112 : decode b_Linker_links 112 = .ok (.aload_n 0, 1) := by decide +kernel
theorem d_Linker_links_113 : decode b_Linker_links 113 = .ok (.invokevirtual 47, 3) := by decide +kernel
theorem d_Linker_links_116 : decode b_Linker_links 116 = .ok (.ifCond .eq 23, 3) := by decide +kernel
theorem d_Linker_links_119 : decode b_Linker_links 119 = .ok (.aload_n 0, 1) := by decide +kernel
theorem d_Linker_links_120 : decode b_Linker_links 120 = .ok (.iconst 0, 1) := by decide +kernel
theorem d_Linker_links_121 : decode b_Linker_links 121 = .ok (.invokevirtual 51, 3) := by decide +kernel
theorem d_Linker_links_124 : decode b_Linker_links 124 = .ok (.ifCond .eq 15, 3) := by decide +kernel
theorem d_Linker_links_127 : decode b_Linker_links 127 = .ok (.aload_n 0, 1) := by decide +kernel
theorem d_Linker_links_128 : decode b_Linker_links 128 = .ok (.iconst 1, 1) := by decide +kernel
theorem d_Linker_links_129 : decode b_Linker_links 129 = .ok (.invokevirtual 51, 3) := by decide +kernel
theorem d_Linker_links_132 : decode b_Linker_links 132 = .ok (.ifCond .eq 7, 3) := by decide +kernel
theorem d_Linker_links_135 : decode b_Linker_links 135 = .ok (.iconst 1, 1) := by decide +kernel
theorem d_Linker_links_136 : decode b_Linker_links 136 = .ok (.goto 4, 3) := by decide +kernel
theorem d_Linker_links_139 : decode b_Linker_links 139 = .ok (.iconst 0, 1) := by decide +kernel
theorem d_Linker_links_140 : decode b_Linker_links 140 = .ok (.ireturn, 1) := by decide +kernel
theorem d_Linker_mayMake_0 : decode b_Linker_mayMake 0 = .ok (.aload_n 0, 1) := by decide +kernel
theorem d_Linker_mayMake_1 : decode b_Linker_mayMake 1 = .ok (.getfield 9, 3) := by decide +kernel
theorem d_Linker_mayMake_4 : decode b_Linker_mayMake 4 = .ok (.iload_n 1, 1) := by decide +kernel
theorem d_Linker_mayMake_5 : decode b_Linker_mayMake 5 = .ok (.ldc 86, 2) := by decide +kernel
theorem d_Linker_mayMake_7 : decode b_Linker_mayMake 7 = .ok (.invokevirtual 87, 3) := by decide +kernel
theorem d_Linker_mayMake_10 : decode b_Linker_mayMake 10 = .ok (.ifCond .eq 25, 3) := by decide +kernel
theorem d_Linker_mayMake_13 : decode b_Linker_mayMake 13 = .ok (.aload_n 0, 1) := by decide +kernel
theorem d_Linker_mayMake_14 : decode b_Linker_mayMake 14 = .ok (.getfield 21, 3) := by decide +kernel
theorem d_Linker_mayMake_17 : decode b_Linker_mayMake 17 = .ok (.aload_n 0, 1) := by decide +kernel
theorem d_Linker_mayMake_18 : decode b_Linker_mayMake 18 = .ok (.getfield 9, 3) := by decide +kernel
theorem d_Linker_mayMake_21 : decode b_Linker_mayMake 21 = .ok (.iload_n 2, 1) := by decide +kernel
theorem d_Linker_mayMake_22 : decode b_Linker_mayMake 22 = .ok (.invokevirtual 64, 3) := by decide +kernel
theorem d_Linker_mayMake_25 : decode b_Linker_mayMake 25 = .ok (.iconst 1, 1) := by decide +kernel
theorem d_Linker_mayMake_26 : decode b_Linker_mayMake 26 = .ok (.isub, 1) := by decide +kernel
theorem d_Linker_mayMake_27 : decode b_Linker_mayMake 27 = .ok (.invokevirtual 104, 3) := by decide +kernel
theorem d_Linker_mayMake_30 : decode b_Linker_mayMake 30 = .ok (.bipush 86, 2) := by decide +kernel
theorem d_Linker_mayMake_32 : decode b_Linker_mayMake 32 = .ok (.if_icmp .ne 7, 3) := by decide +kernel
theorem d_Linker_mayMake_35 : decode b_Linker_mayMake 35 = .ok (.iconst 1, 1) := by decide +kernel
theorem d_Linker_mayMake_36 : decode b_Linker_mayMake 36 = .ok (.goto 4, 3) := by decide +kernel
theorem d_Linker_mayMake_39 : decode b_Linker_mayMake 39 = .ok (.iconst 0, 1) := by decide +kernel
theorem d_Linker_mayMake_40 : decode b_Linker_mayMake 40 = .ok (.ireturn, 1) := by decide +kernel
