theorem d_Verifier_areHandlersRight_0 : decode b_Verifier_areHandlersRight 0 = .ok (.aload_n 0, 1) := by decide +kernel
theorem d_Verifier_areHandlersRight_1 : decode b_Verifier_areHandlersRight 1 = .ok (.getfield 37, 3) := by decide +kernel
theorem d_Verifier_areHandlersRight_4 : decode b_Verifier_areHandlersRight 4 = .ok (.aload_n 0, 1) := by decide +kernel
theorem d_Verifier_areHandlersRight_5 : decode b_Verifier_areHandlersRight 5 = .ok (.getfield 68, 3) := by decide +kernel
theorem d_Verifier_areHandlersRight_8 : decode b_Verifier_areHandlersRight 8 = .ok (.invokevirtual 123, 3) := by decide +kernel
theorem d_Verifier_areHandlersRight_11 : decode b_Verifier_areHandlersRight 11 = .ok (.istore_n 1, 1) := by decide +kernel
theorem d_Verifier_areHandlersRight_12 : decode b_Verifier_areHandlersRight 12 = .ok (.iconst 0, 1) := by decide +kernel
theorem d_Verifier_areHandlersRight_13 : decode b_Verifier_areHandlersRight 13 = .ok (.istore_n 2, 1) := by decide +kernel
theorem d_Verifier_areHandlersRight_14 : decode b_Verifier_areHandlersRight 14 = .ok (.iload_n 2, 1) := by decide +kernel
theorem d_Verifier_areHandlersRight_15 : decode b_Verifier_areHandlersRight 15 = .ok (.iload_n 1, 1) := by decide +kernel
theorem d_Verifier_areHandlersRight_16 : decode b_Verifier_areHandlersRight 16 = .ok (.if_icmp .ge 133, 3) := by decide +kernel
theorem d_Verifier_areHandlersRight_19 : decode b_Verifier_areHandlersRight 19 = .ok (.aload_n 0, 1) := by decide +kernel
theorem d_Verifier_areHandlersRight_20 : decode b_Verifier_areHandlersRight 20 = .ok (.iload_n 2, 1) := by decide +kernel
theorem d_Verifier_areHandlersRight_21 : decode b_Verifier_areHandlersRight 21 = .ok (.invokevirtual 126, 3) := by decide +kernel
theorem d_Verifier_areHandlersRight_24 : decode b_Verifier_areHandlersRight 24 = .ok (.istore_n 3, 1) := by decide +kernel
theorem d_Verifier_areHandlersRight_25 : decode b_Verifier_areHandlersRight 25 = .ok (.aload_n 0, 1) := by decide +kernel
theorem d_Verifier_areHandlersRight_26 : decode b_Verifier_areHandlersRight 26 = .ok (.iload_n 3, 1) := by decide +kernel
theorem d_Verifier_areHandlersRight_27 : decode b_Verifier_areHandlersRight 27 = .ok (.iconst 0, 1) := by decide +kernel
theorem d_Verifier_areHandlersRight_28 : decode b_Verifier_areHandlersRight 28 = .ok (.invokevirtual 129, 3) := by decide +kernel
theorem d_Verifier_areHandlersRight_31 : decode b_Verifier_areHandlersRight 31 = .ok (.istore 4, 2) := by decide +kernel
theorem d_Verifier_areHandlersRight_33 : decode b_Verifier_areHandlersRight 33 = .ok (.aload_n 0, 1) := by decide +kernel
theorem d_Verifier_areHandlersRight_34 : decode b_Verifier_areHandlersRight 34 = .ok (.iload_n 3, 1) := by decide +kernel
theorem d_Verifier_areHandlersRight_35 : decode b_Verifier_areHandlersRight 35 = .ok (.iconst 1, 1) := by decide +kernel
theorem d_Verifier_areHandlersRight_36 : decode b_Verifier_areHandlersRight 36 = .ok (.invokevirtual 129, 3) := by decide +kernel
theorem d_Verifier_areHandlersRight_39 : decode b_Verifier_areHandlersRight 39 = .ok (.istore 5, 2) := by decide +kernel
theorem d_Verifier_areHandlersRight_41 : decode b_Verifier_areHandlersRight 41 = .ok (.aload_n 0, 1) := by decide +kernel
theorem d_Verifier_areHandlersRight_42 : decode b_Verifier_areHandlersRight 42 = .ok (.getfield 37, 3) := by decide +kernel
theorem d_Verifier_areHandlersRight_45 : decode b_Verifier_areHandlersRight 45 = .ok (.iload_n 3, 1) := by decide +kernel
theorem d_Verifier_areHandlersRight_46 : decode b_Verifier_areHandlersRight 46 = .ok (.bipush 6, 2) := by decide +kernel
theorem d_Verifier_areHandlersRight_48 : decode b_Verifier_areHandlersRight 48 = .ok (.iadd, 1) := by decide +kernel
theorem d_Verifier_areHandlersRight_49 : decode b_Verifier_areHandlersRight 49 = .ok (.invokevirtual 123, 3) := by decide +kernel
theorem d_Verifier_areHandlersRight_52 : decode b_Verifier_areHandlersRight 52 = .ok (.istore 6, 2) := by decide +kernel
theorem d_Verifier_areHandlersRight_54 : decode b_Verifier_areHandlersRight 54 = .ok (.iload 4, 2) := by decide +kernel
theorem d_Verifier_areHandlersRight_56 : decode b_Verifier_areHandlersRight 56 = .ok (.iload 5, 2) := by decide +kernel
theorem d_Verifier_areHandlersRight_58 : decode b_Verifier_areHandlersRight 58 = .ok (.if_icmp .ge 66, 3) := by decide +kernel
theorem d_Verifier_areHandlersRight_61 : decode b_Verifier_areHandlersRight 61 = .ok (.aload_n 0, 1) := by decide +kernel
theorem d_Verifier_areHandlersRight_62 : decode b_Verifier_areHandlersRight 62 = .ok (.iload 4, 2) := by decide +kernel
theorem d_Verifier_areHandlersRight_64 : decode b_Verifier_areHandlersRight 64 = .ok (.invokevirtual 133, 3) := by decide +kernel
theorem d_Verifier_areHandlersRight_67 : decode b_Verifier_areHandlersRight 67 = .ok (.ifCond .eq 57, 3) := by decide +kernel
theorem d_Verifier_areHandlersRight_70 : decode b_Verifier_areHandlersRight 70 = .ok (.aload_n 0, 1) := by decide +kernel
theorem d_Verifier_areHandlersRight_71 : decode b_Verifier_areHandlersRight 71 = .ok (.iload 5, 2) := by decide +kernel
theorem d_Verifier_areHandlersRight_73 : decode b_Verifier_areHandlersRight 73 = .ok (.invokevirtual 133, 3) := by decide +kernel
theorem d_Verifier_areHandlersRight_76 : decode b_Verifier_areHandlersRight 76 = .ok (.ifCond .ne 12, 3) := by decide +kernel
theorem d_Verifier_areHandlersRight_79 : decode b_Verifier_areHandlersRight 79 = .ok (.iload 5, 2) := by decide +kernel
theorem d_Verifier_areHandlersRight_81 : decode b_Verifier_areHandlersRight 81 = .ok (.aload_n 0, 1) := by decide +kernel
theorem d_Verifier_areHandlersRight_82 : decode b_Verifier_areHandlersRight 82 = .ok (.getfield 68, 3) := by decide +kernel
theorem d_Verifier_areHandlersRight_85 : decode b_Verifier_areHandlersRight 85 = .ok (.if_icmp .ne 39, 3) := by decide +kernel
theorem d_Verifier_areHandlersRight_88 : decode b_Verifier_areHandlersRight 88 = .ok (.aload_n 0, 1) := by decide +kernel
theorem d_Verifier_areHandlersRight_89 : decode b_Verifier_areHandlersRight 89 = .ok (.aload_n 0, 1) := by decide +kernel
theorem d_Verifier_areHandlersRight_90 : decode b_Verifier_areHandlersRight 90 = .ok (.iload_n 3, 1) := by decide +kernel
theorem d_Verifier_areHandlersRight_91 : decode b_Verifier_areHandlersRight 91 = .ok (.iconst 2, 1) := by decide +kernel
theorem d_Verifier_areHandlersRight_92 : decode b_Verifier_areHandlersRight 92 = .ok (.invokevirtual 129, 3) := by decide +kernel
theorem d_Verifier_areHandlersRight_95 : decode b_Verifier_areHandlersRight 95 = .ok (.invokevirtual 133, 3) := by decide +kernel
theorem d_Verifier_areHandlersRight_98 : decode b_Verifier_areHandlersRight 98 = .ok (.ifCond .eq 26, 3) := by decide +kernel
theorem d_Verifier_areHandlersRight_101 : decode b_Verifier_areHandlersRight 101 = .ok (.iload 6, 2) := by decide +kernel
theorem d_Verifier_areHandlersRight_103 : decode b_Verifier_areHandlersRight 103 = .ok (.ifCond .eq 17, 3) := by decide +kernel
theorem d_Verifier_areHandlersRight_106 : decode b_Verifier_areHandlersRight 106 = .ok (.aload_n 0, 1) := by decide +kernel
theorem d_Verifier_areHandlersRight_107 : decode b_Verifier_areHandlersRight 107 = .ok (.getfield 27, 3) := by decide +kernel
theorem d_Verifier_areHandlersRight_110 : decode b_Verifier_areHandlersRight 110 = .ok (.iload 6, 2) := by decide +kernel
theorem d_Verifier_areHandlersRight_112 : decode b_Verifier_areHandlersRight 112 = .ok (.invokevirtual 136, 3) := by decide +kernel
theorem d_Verifier_areHandlersRight_115 : decode b_Verifier_areHandlersRight 115 = .ok (.bipush 7, 2) := by decide +kernel
theorem d_Verifier_areHandlersRight_117 : decode b_Verifier_areHandlersRight 117 = .ok (.if_icmp .ne 7, 3) := by decide +kernel
theorem d_Verifier_areHandlersRight_120 : decode b_Verifier_areHandlersRight 120 = .ok (.iconst 1, 1) := by decide +kernel
theorem d_Verifier_areHandlersRight_121 : decode b_Verifier_areHandlersRight 121 = .ok (.goto 4, 3) := by decide +kernel
theorem d_Verifier_areHandlersRight_124 : decode b_Verifier_areHandlersRight 124 = .ok (.iconst 0, 1) := by decide +kernel
theorem d_Verifier_areHandlersRight_125 : decode b_Verifier_areHandlersRight 125 = .ok (.istore 7, 2) := by decide +kernel
theorem d_Verifier_areHandlersRight_127 : decode b_Verifier_areHandlersRight 127 = .ok (.iload 7, 2) := by decide +kernel
theorem d_Verifier_areHandlersRight_129 : decode b_Verifier_areHandlersRight 129 = .ok (.ifCond .ne 14, 3) := by decide +kernel
theorem d_Verifier_areHandlersRight_132 : decode b_Verifier_areHandlersRight 132 = .ok (.aload_n 0, 1) := by decide +kernel
theorem d_Verifier_areHandlersRight_133 : decode b_Verifier_areHandlersRight 133 = .ok (.getfield 43, 3) := by decide +kernel
theorem d_Verifier_areHandlersRight_136 : decode b_Verifier_areHandlersRight 136 = .ok (.bipush 20, 2) := by decide +kernel
theorem d_Verifier_areHandlersRight_138 : decode b_Verifier_areHandlersRight 138 = .ok (.iload_n 3, 1) := by decide +kernel
theorem d_Verifier_areHandlersRight_139 : decode b_Verifier_areHandlersRight 139 = .ok (.invokevirtual 86, 3) := by decide +kernel
theorem d_Verifier_areHandlersRight_142 : decode b_Verifier_areHandlersRight 142 = .ok (.ireturn, 1) := by decide +kernel
theorem d_Verifier_areHandlersRight_143 : decode b_Verifier_areHandlersRight 143 = .ok (.iinc 2 1, 3) := by decide +kernel
theorem d_Verifier_areHandlersRight_146 : decode b_Verifier_areHandlersRight 146 = .ok (.goto (-132), 3) := by decide +kernel
theorem d_Verifier_areHandlersRight_149 : decode b_Verifier_areHandlersRight 149 = .ok (.iconst 1, 1) := by decide +kernel
theorem d_Verifier_areHandlersRight_150 : decode b_Verifier_areHandlersRight 150 = .ok (.ireturn, 1) := by decide +kernel
theorem d_Verifier_handlerAt_0 : decode b_Verifier_handlerAt 0 = .ok (.aload_n 0, 1) := by decide +kernel
theorem d_Verifier_handlerAt_1 : decode b_Verifier_handlerAt 1 = .ok (.getfield 68, 3) := by decide +kernel
theorem d_Verifier_handlerAt_4 : decode b_Verifier_handlerAt 4 = .ok (.iconst 2, 1) := by decide +kernel
theorem d_Verifier_handlerAt_5 : decode b_Verifier_handlerAt 5 = .ok (.iadd, 1) := by decide +kernel
theorem d_Verifier_handlerAt_6 : decode b_Verifier_handlerAt 6 = .ok (.bipush 8, 2) := by decide +kernel
theorem d_Verifier_handlerAt_8 : decode b_Verifier_handlerAt 8 = .ok (.iload_n 1, 1) := by decide +kernel
theorem d_Verifier_handlerAt_9 : decode b_Verifier_handlerAt 9 = .ok (.imul, 1) := by decide +kernel
theorem d_Verifier_handlerAt_10 : decode b_Verifier_handlerAt 10 = .ok (.iadd, 1) := by decide +kernel
theorem d_Verifier_handlerAt_11 : decode b_Verifier_handlerAt 11 = .ok (.ireturn, 1) := by decide +kernel
theorem d_Verifier_isInstruction_0 : decode b_Verifier_isInstruction 0 = .ok (.iload_n 1, 1) := by decide +kernel
theorem d_Verifier_isInstruction_1 : decode b_Verifier_isInstruction 1 = .ok (.aload_n 0, 1) := by decide +kernel
theorem d_Verifier_isInstruction_2 : decode b_Verifier_isInstruction 2 = .ok (.getfield 62, 3) := by decide +kernel
theorem d_Verifier_isInstruction_5 : decode b_Verifier_isInstruction 5 = .ok (.if_icmp .lt 26, 3) := by decide +kernel
theorem d_Verifier_isInstruction_8 : decode b_Verifier_isInstruction 8 = .ok (.iload_n 1, 1) := by decide +kernel
theorem d_Verifier_isInstruction_9 : decode b_Verifier_isInstruction 9 = .ok (.aload_n 0, 1) := by decide +kernel
theorem d_Verifier_isInstruction_10 : decode b_Verifier_isInstruction 10 = .ok (.getfield 68, 3) := by decide +kernel
theorem d_Verifier_isInstruction_13 : decode b_Verifier_isInstruction 13 = .ok (.if_icmp .ge 18, 3) := by decide +kernel
theorem d_Verifier_isInstruction_16 : decode b_Verifier_isInstruction 16 = .ok (.aload_n 0, 1) := by decide +kernel
theorem d_Verifier_isInstruction_17 : decode b_Verifier_isInstruction 17 = .ok (.getfield 42, 3) := by decide +kernel
theorem d_Verifier_isInstruction_20 : decode b_Verifier_isInstruction 20 = .ok (.iload_n 1, 1) := by decide +kernel
theorem d_Verifier_isInstruction_21 : decode b_Verifier_isInstruction 21 = .ok (.invokevirtual 120, 3) := by decide +kernel
theorem d_Verifier_isInstruction_24 : decode b_Verifier_isInstruction 24 = .ok (.ifCond .eq 7, 3) := by decide +kernel
theorem d_Verifier_isInstruction_27 : decode b_Verifier_isInstruction 27 = .ok (.iconst 1, 1) := by decide +kernel
theorem d_Verifier_isInstruction_28 : decode b_Verifier_isInstruction 28 = .ok (.goto 4, 3) := by decide +kernel
theorem d_Verifier_isInstruction_31 : decode b_Verifier_isInstruction 31 = .ok (.iconst 0, 1) := by decide +kernel
theorem d_Verifier_isInstruction_32 : decode b_Verifier_isInstruction 32 = .ok (.ireturn, 1) := by decide +kernel
theorem d_Verifier_toldBy_0 : decode b_Verifier_toldBy 0 = .ok (.aload_n 0, 1) := by decide +kernel
theorem d_Verifier_toldBy_1 : decode b_Verifier_toldBy 1 = .ok (.getfield 62, 3) := by decide +kernel
theorem d_Verifier_toldBy_4 : decode b_Verifier_toldBy 4 = .ok (.aload_n 0, 1) := by decide +kernel
theorem d_Verifier_toldBy_5 : decode b_Verifier_toldBy 5 = .ok (.getfield 37, 3) := by decide +kernel
theorem d_Verifier_toldBy_8 : decode b_Verifier_toldBy 8 = .ok (.iload_n 1, 1) := by decide +kernel
theorem d_Verifier_toldBy_9 : decode b_Verifier_toldBy 9 = .ok (.iconst 2, 1) := by decide +kernel
theorem d_Verifier_toldBy_10 : decode b_Verifier_toldBy 10 = .ok (.iload_n 2, 1) := by decide +kernel
theorem d_Verifier_toldBy_11 : decode b_Verifier_toldBy 11 = .ok (.imul, 1) := by decide +kernel
theorem d_Verifier_toldBy_12 : decode b_Verifier_toldBy 12 = .ok (.iadd, 1) := by decide +kernel
theorem d_Verifier_toldBy_13 : decode b_Verifier_toldBy 13 = .ok (.invokevirtual 123, 3) := by decide +kernel
theorem d_Verifier_toldBy_16 : decode b_Verifier_toldBy 16 = .ok (.iadd, 1) := by decide +kernel
theorem d_Verifier_toldBy_17 : decode b_Verifier_toldBy 17 = .ok (.ireturn, 1) := by decide +kernel
