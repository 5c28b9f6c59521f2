theorem d_Verifier_areInstructionsRight_0 : decode b_Verifier_areInstructionsRight 0 = .ok (.aload_n 0, 1) := by decide +kernel
theorem d_Verifier_areInstructionsRight_1 : decode b_Verifier_areInstructionsRight 1 = .ok (.getfield 62, 3) := by decide +kernel
theorem d_Verifier_areInstructionsRight_4 : decode b_Verifier_areInstructionsRight 4 = .ok (.istore_n 1, 1) := by decide +kernel
theorem d_Verifier_areInstructionsRight_5 : decode b_Verifier_areInstructionsRight 5 = .ok (.iload_n 1, 1) := by decide +kernel
theorem d_Verifier_areInstructionsRight_6 : decode b_Verifier_areInstructionsRight 6 = .ok (.aload_n 0, 1) := by decide +kernel
theorem d_Verifier_areInstructionsRight_7 : decode b_Verifier_areInstructionsRight 7 = .ok (.getfield 68, 3) := by decide +kernel
theorem d_Verifier_areInstructionsRight_10 : decode b_Verifier_areInstructionsRight 10 = .ok (.if_icmp .ge 66, 3) := by decide +kernel
theorem d_Verifier_areInstructionsRight_13 : decode b_Verifier_areInstructionsRight 13 = .ok (.aload_n 0, 1) := by decide +kernel
theorem d_Verifier_areInstructionsRight_14 : decode b_Verifier_areInstructionsRight 14 = .ok (.getfield 37, 3) := by decide +kernel
theorem d_Verifier_areInstructionsRight_17 : decode b_Verifier_areInstructionsRight 17 = .ok (.iload_n 1, 1) := by decide +kernel
theorem d_Verifier_areInstructionsRight_18 : decode b_Verifier_areInstructionsRight 18 = .ok (.invokevirtual 108, 3) := by decide +kernel
theorem d_Verifier_areInstructionsRight_21 : decode b_Verifier_areInstructionsRight 21 = .ok (.invokestatic 113, 3) := by decide +kernel
theorem d_Verifier_areInstructionsRight_24 : decode b_Verifier_areInstructionsRight 24 = .ok (.istore_n 2, 1) := by decide +kernel
theorem d_Verifier_areInstructionsRight_25 : decode b_Verifier_areInstructionsRight 25 = .ok (.iload_n 2, 1) := by decide +kernel
theorem d_Verifier_areInstructionsRight_26 : decode b_Verifier_areInstructionsRight 26 = .ok (.ifCond .ne 14, 3) := by decide +kernel
theorem d_Verifier_areInstructionsRight_29 : decode b_Verifier_areInstructionsRight 29 = .ok (.aload_n 0, 1) := by decide +kernel
theorem d_Verifier_areInstructionsRight_30 : decode b_Verifier_areInstructionsRight 30 = .ok (.getfield 43, 3) := by decide +kernel
theorem d_Verifier_areInstructionsRight_33 : decode b_Verifier_areInstructionsRight 33 = .ok (.bipush 18, 2) := by decide +kernel
theorem d_Verifier_areInstructionsRight_35 : decode b_Verifier_areInstructionsRight 35 = .ok (.iload_n 1, 1) := by decide +kernel
theorem d_Verifier_areInstructionsRight_36 : decode b_Verifier_areInstructionsRight 36 = .ok (.invokevirtual 86, 3) := by decide +kernel
theorem d_Verifier_areInstructionsRight_39 : decode b_Verifier_areInstructionsRight 39 = .ok (.ireturn, 1) := by decide +kernel
theorem d_Verifier_areInstructionsRight_40 : decode b_Verifier_areInstructionsRight 40 = .ok (.iload_n 1, 1) := by decide +kernel
theorem d_Verifier_areInstructionsRight_41 : decode b_Verifier_areInstructionsRight 41 = .ok (.iload_n 2, 1) := by decide +kernel
theorem d_Verifier_areInstructionsRight_42 : decode b_Verifier_areInstructionsRight 42 = .ok (.iadd, 1) := by decide +kernel
theorem d_Verifier_areInstructionsRight_43 : decode b_Verifier_areInstructionsRight 43 = .ok (.aload_n 0, 1) := by decide +kernel
theorem d_Verifier_areInstructionsRight_44 : decode b_Verifier_areInstructionsRight 44 = .ok (.getfield 68, 3) := by decide +kernel
theorem d_Verifier_areInstructionsRight_47 : decode b_Verifier_areInstructionsRight 47 = .ok (.if_icmp .le 14, 3) := by decide +kernel
theorem d_Verifier_areInstructionsRight_50 : decode b_Verifier_areInstructionsRight 50 = .ok (.aload_n 0, 1) := by decide +kernel
theorem d_Verifier_areInstructionsRight_51 : decode b_Verifier_areInstructionsRight 51 = .ok (.getfield 43, 3) := by decide +kernel
theorem d_Verifier_areInstructionsRight_54 : decode b_Verifier_areInstructionsRight 54 = .ok (.bipush 19, 2) := by decide +kernel
theorem d_Verifier_areInstructionsRight_56 : decode b_Verifier_areInstructionsRight 56 = .ok (.iload_n 1, 1) := by decide +kernel
theorem d_Verifier_areInstructionsRight_57 : decode b_Verifier_areInstructionsRight 57 = .ok (.invokevirtual 86, 3) := by decide +kernel
theorem d_Verifier_areInstructionsRight_60 : decode b_Verifier_areInstructionsRight 60 = .ok (.ireturn, 1) := by decide +kernel
theorem d_Verifier_areInstructionsRight_61 : decode b_Verifier_areInstructionsRight 61 = .ok (.aload_n 0, 1) := by decide +kernel
theorem d_Verifier_areInstructionsRight_62 : decode b_Verifier_areInstructionsRight 62 = .ok (.getfield 42, 3) := by decide +kernel
theorem d_Verifier_areInstructionsRight_65 : decode b_Verifier_areInstructionsRight 65 = .ok (.iload_n 1, 1) := by decide +kernel
theorem d_Verifier_areInstructionsRight_66 : decode b_Verifier_areInstructionsRight 66 = .ok (.invokevirtual 116, 3) := by decide +kernel
theorem d_Verifier_areInstructionsRight_69 : decode b_Verifier_areInstructionsRight 69 = .ok (.iload_n 1, 1) := by decide +kernel
theorem d_Verifier_areInstructionsRight_70 : decode b_Verifier_areInstructionsRight 70 = .ok (.iload_n 2, 1) := by decide +kernel
theorem d_Verifier_areInstructionsRight_71 : decode b_Verifier_areInstructionsRight 71 = .ok (.iadd, 1) := by decide +kernel
theorem d_Verifier_areInstructionsRight_72 : decode b_Verifier_areInstructionsRight 72 = .ok (.istore_n 1, 1) := by decide +kernel
theorem d_Verifier_areInstructionsRight_73 : decode b_Verifier_areInstructionsRight 73 = .ok (.goto (-68), 3) := by decide +kernel
theorem d_Verifier_areInstructionsRight_76 : decode b_Verifier_areInstructionsRight 76 = .ok (.iconst 1, 1) := by decide +kernel
theorem d_Verifier_areInstructionsRight_77 : decode b_Verifier_areInstructionsRight 77 = .ok (.ireturn, 1) := by decide +kernel
