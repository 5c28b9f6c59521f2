theorem d_Machine_callMethod_0 : decode b_Machine_callMethod 0 = .ok (.aload_n 0, 1) := by decide +kernel
theorem d_Machine_callMethod_1 : decode b_Machine_callMethod 1 = .ok (.getfield 21, 3) := by decide +kernel
theorem d_Machine_callMethod_4 : decode b_Machine_callMethod 4 = .ok (.iload_n 2, 1) := by decide +kernel
theorem d_Machine_callMethod_5 : decode b_Machine_callMethod 5 = .ok (.invokevirtual 172, 3) := by decide +kernel
theorem d_Machine_callMethod_8 : decode b_Machine_callMethod 8 = .ok (.istore_n 3, 1) := by decide +kernel
theorem d_Machine_callMethod_9 : decode b_Machine_callMethod 9 = .ok (.iload_n 1, 1) := by decide +kernel
theorem d_Machine_callMethod_10 : decode b_Machine_callMethod 10 = .ok (.sipush 183, 3) := by decide +kernel
theorem d_Machine_callMethod_13 : decode b_Machine_callMethod 13 = .ok (.if_icmp .eq 26, 3) := by decide +kernel
theorem d_Machine_callMethod_16 : decode b_Machine_callMethod 16 = .ok (.aload_n 0, 1) := by decide +kernel
theorem d_Machine_callMethod_17 : decode b_Machine_callMethod 17 = .ok (.getfield 21, 3) := by decide +kernel
theorem d_Machine_callMethod_20 : decode b_Machine_callMethod 20 = .ok (.aload_n 0, 1) := by decide +kernel
theorem d_Machine_callMethod_21 : decode b_Machine_callMethod 21 = .ok (.getfield 21, 3) := by decide +kernel
theorem d_Machine_callMethod_24 : decode b_Machine_callMethod 24 = .ok (.iload_n 3, 1) := by decide +kernel
theorem d_Machine_callMethod_25 : decode b_Machine_callMethod 25 = .ok (.invokevirtual 175, 3) := by decide +kernel
theorem d_Machine_callMethod_28 : decode b_Machine_callMethod 28 = .ok (.ldc 178, 2) := by decide +kernel
theorem d_Machine_callMethod_30 : decode b_Machine_callMethod 30 = .ok (.invokevirtual 179, 3) := by decide +kernel
theorem d_Machine_callMethod_33 : decode b_Machine_callMethod 33 = .ok (.ifCond .eq 6, 3) := by decide +kernel
theorem d_Machine_callMethod_36 : decode b_Machine_callMethod 36 = .ok (.bipush 10, 2) := by decide +kernel
theorem d_Machine_callMethod_38 : decode b_Machine_callMethod 38 = .ok (.ireturn, 1) := by decide +kernel
theorem d_Machine_callMethod_39 : decode b_Machine_callMethod 39 = .ok (.aload_n 0, 1) := by decide +kernel
theorem d_Machine_callMethod_40 : decode b_Machine_callMethod 40 = .ok (.getfield 21, 3) := by decide +kernel
theorem d_Machine_callMethod_43 : decode b_Machine_callMethod 43 = .ok (.iload_n 3, 1) := by decide +kernel
theorem d_Machine_callMethod_44 : decode b_Machine_callMethod 44 = .ok (.invokevirtual 172, 3) := by decide +kernel
theorem d_Machine_callMethod_47 : decode b_Machine_callMethod 47 = .ok (.istore 4, 2) := by decide +kernel
theorem d_Machine_callMethod_49 : decode b_Machine_callMethod 49 = .ok (.aload_n 0, 1) := by decide +kernel
theorem d_Machine_callMethod_50 : decode b_Machine_callMethod 50 = .ok (.aload_n 0, 1) := by decide +kernel
theorem d_Machine_callMethod_51 : decode b_Machine_callMethod 51 = .ok (.getfield 21, 3) := by decide +kernel
theorem d_Machine_callMethod_54 : decode b_Machine_callMethod 54 = .ok (.iload 4, 2) := by decide +kernel
theorem d_Machine_callMethod_56 : decode b_Machine_callMethod 56 = .ok (.invokevirtual 63, 3) := by decide +kernel
theorem d_Machine_callMethod_59 : decode b_Machine_callMethod 59 = .ok (.aload_n 0, 1) := by decide +kernel
theorem d_Machine_callMethod_60 : decode b_Machine_callMethod 60 = .ok (.getfield 21, 3) := by decide +kernel
theorem d_Machine_callMethod_63 : decode b_Machine_callMethod 63 = .ok (.iload 4, 2) := by decide +kernel
theorem d_Machine_callMethod_65 : decode b_Machine_callMethod 65 = .ok (.invokevirtual 66, 3) := by decide +kernel
theorem d_Machine_callMethod_68 : decode b_Machine_callMethod 68 = .ok (.invokevirtual 69, 3) := by decide +kernel
theorem d_Machine_callMethod_71 : decode b_Machine_callMethod 71 = .ok (.aload_n 0, 1) := by decide +kernel
theorem d_Machine_callMethod_72 : decode b_Machine_callMethod 72 = .ok (.getfield 88, 3) := by decide +kernel
theorem d_Machine_callMethod_75 : decode b_Machine_callMethod 75 = .ok (.iconst 1, 1) := by decide +kernel
theorem d_Machine_callMethod_76 : decode b_Machine_callMethod 76 = .ok (.isub, 1) := by decide +kernel
theorem d_Machine_callMethod_77 : decode b_Machine_callMethod 77 = .ok (.istore 5, 2) := by decide +kernel
theorem d_Machine_callMethod_79 : decode b_Machine_callMethod 79 = .ok (.iload 5, 2) := by decide +kernel
theorem d_Machine_callMethod_81 : decode b_Machine_callMethod 81 = .ok (.ifCond .lt 33, 3) := by decide +kernel
theorem d_Machine_callMethod_84 : decode b_Machine_callMethod 84 = .ok (.aload_n 0, 1) := by decide +kernel
theorem d_Machine_callMethod_85 : decode b_Machine_callMethod 85 = .ok (.aload_n 0, 1) := by decide +kernel
theorem d_Machine_callMethod_86 : decode b_Machine_callMethod 86 = .ok (.getfield 18, 3) := by decide +kernel
theorem d_Machine_callMethod_89 : decode b_Machine_callMethod 89 = .ok (.iload 5, 2) := by decide +kernel
theorem d_Machine_callMethod_91 : decode b_Machine_callMethod 91 = .ok (.iaload, 1) := by decide +kernel
theorem d_Machine_callMethod_92 : decode b_Machine_callMethod 92 = .ok (.invokestatic 91, 3) := by decide +kernel
theorem d_Machine_callMethod_95 : decode b_Machine_callMethod 95 = .ok (.invokevirtual 162, 3) := by decide +kernel
theorem d_Machine_callMethod_98 : decode b_Machine_callMethod 98 = .ok (.istore 6, 2) := by decide +kernel
theorem d_Machine_callMethod_100 : decode b_Machine_callMethod 100 = .ok (.iload 6, 2) := by decide +kernel
theorem d_Machine_callMethod_102 : decode b_Machine_callMethod 102 = .ok (.ifCond .eq 6, 3) := by decide +kernel
theorem d_Machine_callMethod_105 : decode b_Machine_callMethod 105 = .ok (.iload 6, 2) := by decide +kernel
theorem d_Machine_callMethod_107 : decode b_Machine_callMethod 107 = .ok (.ireturn, 1) := by decide +kernel
theorem d_Machine_callMethod_108 : decode b_Machine_callMethod 108 = .ok (.iinc 5 (-1), 3) := by decide +kernel
theorem d_Machine_callMethod_111 : decode b_Machine_callMethod 111 = .ok (.goto (-32), 3) := by decide +kernel
theorem d_Machine_callMethod_114 : decode b_Machine_callMethod 114 = .ok (.iload_n 1, 1) := by decide +kernel
theorem d_Machine_callMethod_115 : decode b_Machine_callMethod 115 = .ok (.sipush 184, 3) := by decide +kernel
theorem d_Machine_callMethod_118 : decode b_Machine_callMethod 118 = .ok (.if_icmp .ne 7, 3) := by decide +kernel
theorem d_Machine_callMethod_121 : decode b_Machine_callMethod 121 = .ok (.iconst 0, 1) := by decide +kernel
theorem d_Machine_callMethod_122 : decode b_Machine_callMethod 122 = .ok (.goto 8, 3) := by decide +kernel
theorem d_Machine_callMethod_125 : decode b_Machine_callMethod 125 = .ok (.aload_n 0, 1) := by decide +kernel
theorem d_Machine_callMethod_126 : decode b_Machine_callMethod 126 = .ok (.iconst 4, 1) := by decide +kernel
theorem d_Machine_callMethod_127 : decode b_Machine_callMethod 127 = .ok (.invokevirtual 162, 3) := by decide +kernel
theorem d_Machine_callMethod_130 : decode b_Machine_callMethod 130 = .ok (.istore 5, 2) := by decide +kernel
theorem d_Machine_callMethod_132 : decode b_Machine_callMethod 132 = .ok (.iload 5, 2) := by decide +kernel
theorem d_Machine_callMethod_134 : decode b_Machine_callMethod 134 = .ok (.ifCond .ne 26, 3) := by decide +kernel
theorem d_Machine_callMethod_137 : decode b_Machine_callMethod 137 = .ok (.aload_n 0, 1) := by decide +kernel
theorem d_Machine_callMethod_138 : decode b_Machine_callMethod 138 = .ok (.getfield 73, 3) := by decide +kernel
theorem d_Machine_callMethod_141 : decode b_Machine_callMethod 141 = .ok (.bipush 86, 2) := by decide +kernel
theorem d_Machine_callMethod_143 : decode b_Machine_callMethod 143 = .ok (.if_icmp .eq 17, 3) := by decide +kernel
theorem d_Machine_callMethod_146 : decode b_Machine_callMethod 146 = .ok (.aload_n 0, 1) := by decide +kernel
theorem d_Machine_callMethod_147 : decode b_Machine_callMethod 147 = .ok (.aload_n 0, 1) := by decide +kernel
theorem d_Machine_callMethod_148 : decode b_Machine_callMethod 148 = .ok (.getfield 73, 3) := by decide +kernel
theorem d_Machine_callMethod_151 : decode b_Machine_callMethod 151 = .ok (.invokestatic 91, 3) := by decide +kernel
theorem d_Machine_callMethod_154 : decode b_Machine_callMethod 154 = .ok (.invokevirtual 165, 3) := by decide +kernel
theorem d_Machine_callMethod_157 : decode b_Machine_callMethod 157 = .ok (.goto 5, 3) := by decide +kernel
theorem d_Machine_callMethod_160 : decode b_Machine_callMethod 160 = .ok (.iload 5, 2) := by decide +kernel
theorem d_Machine_callMethod_162 : decode b_Machine_callMethod 162 = .ok (.ireturn, 1) := by decide +kernel
theorem d_Machine_isAnswer_0 : decode b_Machine_isAnswer 0 = .ok (.iload_n 1, 1) := by decide +kernel
theorem d_Machine_isAnswer_1 : decode b_Machine_isAnswer 1 = .ok (.tableswitch 86 172 176 #[35, 52, 86, 86, 69], 35) := by decide +kernel
theorem d_Machine_isAnswer_36 : decode b_Machine_isAnswer 36 = .ok (.aload_n 0, 1) := by decide +kernel
theorem d_Machine_isAnswer_37 : decode b_Machine_isAnswer 37 = .ok (.getfield 76, 3) := by decide +kernel
theorem d_Machine_isAnswer_40 : decode b_Machine_isAnswer 40 = .ok (.invokestatic 91, 3) := by decide +kernel
theorem d_Machine_isAnswer_43 : decode b_Machine_isAnswer 43 = .ok (.iconst 1, 1) := by decide +kernel
theorem d_Machine_isAnswer_44 : decode b_Machine_isAnswer 44 = .ok (.if_icmp .ne 7, 3) := by decide +kernel
theorem d_Machine_isAnswer_47 : decode b_Machine_isAnswer 47 = .ok (.iconst 1, 1) := by decide +kernel
theorem d_Machine_isAnswer_48 : decode b_Machine_isAnswer 48 = .ok (.goto 4, 3) := by decide +kernel
theorem d_Machine_isAnswer_51 : decode b_Machine_isAnswer 51 = .ok (.iconst 0, 1) := by decide +kernel
theorem d_Machine_isAnswer_52 : decode b_Machine_isAnswer 52 = .ok (.ireturn, 1) := by decide +kernel
theorem d_Machine_isAnswer_53 : decode b_Machine_isAnswer 53 = .ok (.aload_n 0, 1) := by decide +kernel
theorem d_Machine_isAnswer_54 : decode b_Machine_isAnswer 54 = .ok (.getfield 76, 3) := by decide +kernel
theorem d_Machine_isAnswer_57 : decode b_Machine_isAnswer 57 = .ok (.invokestatic 91, 3) := by decide +kernel
theorem d_Machine_isAnswer_60 : decode b_Machine_isAnswer 60 = .ok (.iconst 2, 1) := by decide +kernel
theorem d_Machine_isAnswer_61 : decode b_Machine_isAnswer 61 = .ok (.if_icmp .ne 7, 3) := by decide +kernel
theorem d_Machine_isAnswer_64 : decode b_Machine_isAnswer 64 = .ok (.iconst 1, 1) := by decide +kernel
theorem d_Machine_isAnswer_65 : decode b_Machine_isAnswer 65 = .ok (.goto 4, 3) := by decide +kernel
theorem d_Machine_isAnswer_68 : decode b_Machine_isAnswer 68 = .ok (.iconst 0, 1) := by decide +kernel
theorem d_Machine_isAnswer_69 : decode b_Machine_isAnswer 69 = .ok (.ireturn, 1) := by decide +kernel
theorem d_Machine_isAnswer_70 : decode b_Machine_isAnswer 70 = .ok (.aload_n 0, 1) := by decide +kernel
theorem d_Machine_isAnswer_71 : decode b_Machine_isAnswer 71 = .ok (.getfield 76, 3) := by decide +kernel
theorem d_Machine_isAnswer_74 : decode b_Machine_isAnswer 74 = .ok (.invokestatic 91, 3) := by decide +kernel
theorem d_Machine_isAnswer_77 : decode b_Machine_isAnswer 77 = .ok (.iconst 4, 1) := by decide +kernel
theorem d_Machine_isAnswer_78 : decode b_Machine_isAnswer 78 = .ok (.if_icmp .ne 7, 3) := by decide +kernel
theorem d_Machine_isAnswer_81 : decode b_Machine_isAnswer 81 = .ok (.iconst 1, 1) := by decide +kernel
theorem d_Machine_isAnswer_82 : decode b_Machine_isAnswer 82 = .ok (.goto 4, 3) := by decide +kernel
theorem d_Machine_isAnswer_85 : decode b_Machine_isAnswer 85 = .ok (.iconst 0, 1) := by decide +kernel
theorem d_Machine_isAnswer_86 : decode b_Machine_isAnswer 86 = .ok (.ireturn, 1) := by decide +kernel
theorem d_Machine_isAnswer_87 : decode b_Machine_isAnswer 87 = .ok (.aload_n 0, 1) := by decide +kernel
theorem d_Machine_isAnswer_88 : decode b_Machine_isAnswer 88 = .ok (.getfield 76, 3) := by decide +kernel
theorem d_Machine_isAnswer_91 : decode b_Machine_isAnswer 91 = .ok (.bipush 86, 2) := by decide +kernel
theorem d_Machine_isAnswer_93 : decode b_Machine_isAnswer 93 = .ok (.if_icmp .ne 7, 3) := by decide +kernel
theorem d_Machine_isAnswer_96 : decode b_Machine_isAnswer 96 = .ok (.iconst 1, 1) := by decide +kernel
theorem d_Machine_isAnswer_97 : decode b_Machine_isAnswer 97 = .ok (.goto 4, 3) := by decide +kernel
theorem d_Machine_isAnswer_100 : decode b_Machine_isAnswer 100 = .ok (.iconst 0, 1) := by decide +kernel
theorem d_Machine_isAnswer_101 : decode b_Machine_isAnswer 101 = .ok (.ireturn, 1) := by decide +kernel
theorem d_Machine_useField_0 : decode b_Machine_useField 0 = .ok (.aload_n 0, 1) := by decide +kernel
theorem d_Machine_useField_1 : decode b_Machine_useField 1 = .ok (.getfield 21, 3) := by decide +kernel
theorem d_Machine_useField_4 : decode b_Machine_useField 4 = .ok (.aload_n 0, 1) := by decide +kernel
theorem d_Machine_useField_5 : decode b_Machine_useField 5 = .ok (.getfield 21, 3) := by decide +kernel
theorem d_Machine_useField_8 : decode b_Machine_useField 8 = .ok (.iload_n 2, 1) := by decide +kernel
theorem d_Machine_useField_9 : decode b_Machine_useField 9 = .ok (.invokevirtual 172, 3) := by decide +kernel
theorem d_Machine_useField_12 : decode b_Machine_useField 12 = .ok (.invokevirtual 172, 3) := by decide +kernel
theorem d_Machine_useField_15 : decode b_Machine_useField 15 = .ok (.istore_n 3, 1) := by decide +kernel
theorem d_Machine_useField_16 : decode b_Machine_useField 16 = .ok (.aload_n 0, 1) := by decide +kernel
theorem d_Machine_useField_17 : decode b_Machine_useField 17 = .ok (.getfield 21, 3) := by decide +kernel
theorem d_Machine_useField_20 : decode b_Machine_useField 20 = .ok (.getfield 79, 3) := by decide +kernel
theorem d_Machine_useField_23 : decode b_Machine_useField 23 = .ok (.aload_n 0, 1) := by decide +kernel
theorem d_Machine_useField_24 : decode b_Machine_useField 24 = .ok (.getfield 21, 3) := by decide +kernel
theorem d_Machine_useField_27 : decode b_Machine_useField 27 = .ok (.iload_n 3, 1) := by decide +kernel
theorem d_Machine_useField_28 : decode b_Machine_useField 28 = .ok (.invokevirtual 63, 3) := by decide +kernel
theorem d_Machine_useField_31 : decode b_Machine_useField 31 = .ok (.invokevirtual 99, 3) := by decide +kernel
theorem d_Machine_useField_34 : decode b_Machine_useField 34 = .ok (.invokestatic 91, 3) := by decide +kernel
theorem d_Machine_useField_37 : decode b_Machine_useField 37 = .ok (.istore 4, 2) := by decide +kernel
theorem d_Machine_useField_39 : decode b_Machine_useField 39 = .ok (.iload_n 1, 1) := by decide +kernel
theorem d_Machine_useField_40 : decode b_Machine_useField 40 = .ok (.sipush 179, 3) := by decide +kernel
theorem d_Machine_useField_43 : decode b_Machine_useField 43 = .ok (.if_icmp .eq 10, 3) := by decide +kernel
theorem d_Machine_useField_46 : decode b_Machine_useField 46 = .ok (.iload_n 1, 1) := by decide +kernel
theorem d_Machine_useField_47 : decode b_Machine_useField 47 = .ok (.sipush 181, 3) := by decide +kernel
theorem d_Machine_useField_50 : decode b_Machine_useField 50 = .ok (.if_icmp .ne 7, 3) := by decide +kernel
theorem d_Machine_useField_53 : decode b_Machine_useField 53 = .ok (.iconst 1, 1) := by decide +kernel
theorem d_Machine_useField_54 : decode b_Machine_useField 54 = .ok (.goto 4, 3) := by decide +kernel
theorem d_Machine_useField_57 : decode b_Machine_useField 57 = .ok (.iconst 0, 1) := by decide +kernel
theorem d_Machine_useField_58 : decode b_Machine_useField 58 = .ok (.istore 5, 2) := by decide +kernel
theorem d_Machine_useField_60 : decode b_Machine_useField 60 = .ok (.iload 5, 2) := by decide +kernel
theorem d_Machine_useField_62 : decode b_Machine_useField 62 = .ok (.ifCond .eq 12, 3) := by decide +kernel
theorem d_Machine_useField_65 : decode b_Machine_useField 65 = .ok (.aload_n 0, 1) := by decide +kernel
theorem d_Machine_useField_66 : decode b_Machine_useField 66 = .ok (.iload 4, 2) := by decide +kernel
theorem d_Machine_useField_68 : decode b_Machine_useField 68 = .ok (.invokevirtual 162, 3) := by decide +kernel
theorem d_Machine_useField_71 : decode b_Machine_useField 71 = .ok (.goto 4, 3) := by decide +kernel
theorem d_Machine_useField_74 : decode b_Machine_useField 74 = .ok (.iconst 0, 1) := by decide +kernel
theorem d_Machine_useField_75 : decode b_Machine_useField 75 = .ok (.istore 6, 2) := by decide +kernel
theorem d_Machine_useField_77 : decode b_Machine_useField 77 = .ok (.iload 6, 2) := by decide +kernel
theorem d_Machine_useField_79 : decode b_Machine_useField 79 = .ok (.ifCond .ne 17, 3) := by decide +kernel
theorem d_Machine_useField_82 : decode b_Machine_useField 82 = .ok (.iload_n 1, 1) := by decide +kernel
theorem d_Machine_useField_83 : decode b_Machine_useField 83 = .ok (.sipush 180, 3) := by decide +kernel
theorem d_Machine_useField_86 : decode b_Machine_useField 86 = .ok (.if_icmp .lt 10, 3) := by decide +kernel
theorem d_Machine_useField_89 : decode b_Machine_useField 89 = .ok (.aload_n 0, 1) := by decide +kernel
theorem d_Machine_useField_90 : decode b_Machine_useField 90 = .ok (.iconst 4, 1) := by decide +kernel
theorem d_Machine_useField_91 : decode b_Machine_useField 91 = .ok (.invokevirtual 162, 3) := by decide +kernel
theorem d_Machine_useField_94 : decode b_Machine_useField 94 = .ok (.istore 6, 2) := by decide +kernel
theorem d_Machine_useField_96 : decode b_Machine_useField 96 = .ok (.iload 6, 2) := by decide +kernel
theorem d_Machine_useField_98 : decode b_Machine_useField 98 = .ok (.ifCond .ne 17, 3) := by decide +kernel
theorem d_Machine_useField_101 : decode b_Machine_useField 101 = .ok (.iload 5, 2) := by decide +kernel
theorem d_Machine_useField_103 : decode b_Machine_useField 103 = .ok (.ifCond .ne 12, 3) := by decide +kernel
theorem d_Machine_useField_106 : decode b_Machine_useField 106 = .ok (.aload_n 0, 1) := by decide +kernel
theorem d_Machine_useField_107 : decode b_Machine_useField 107 = .ok (.iload 4, 2) := by decide +kernel
theorem d_Machine_useField_109 : decode b_Machine_useField 109 = .ok (.invokevirtual 165, 3) := by decide +kernel
theorem d_Machine_useField_112 : decode b_Machine_useField 112 = .ok (.goto 5, 3) := by decide +kernel
theorem d_Machine_useField_115 : decode b_Machine_useField 115 = .ok (.iload 6, 2) := by decide +kernel
theorem d_Machine_useField_117 : decode b_Machine_useField 117 = .ok (.ireturn, 1) := by decide +kernel
