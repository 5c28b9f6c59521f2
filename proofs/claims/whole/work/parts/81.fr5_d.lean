theorem d_Frames_meetWord_0 : decode b_Frames_meetWord 0 = .ok (.iconst 0, 1) := by decide +kernel
theorem d_Frames_meetWord_1 : decode b_Frames_meetWord 1 = .ok (.istore 4, 2) := by decide +kernel
theorem d_Frames_meetWord_3 : decode b_Frames_meetWord 3 = .ok (.bipush 16, 2) := by decide +kernel
theorem d_Frames_meetWord_5 : decode b_Frames_meetWord 5 = .ok (.iload_n 3, 1) := by decide +kernel
theorem d_Frames_meetWord_6 : decode b_Frames_meetWord 6 = .ok (.imul, 1) := by decide +kernel
theorem d_Frames_meetWord_7 : decode b_Frames_meetWord 7 = .ok (.istore 5, 2) := by decide +kernel
theorem d_Frames_meetWord_9 : decode b_Frames_meetWord 9 = .ok (.iload 5, 2) := by decide +kernel
theorem d_Frames_meetWord_11 : decode b_Frames_meetWord 11 = .ok (.bipush 16, 2) := by decide +kernel
theorem d_Frames_meetWord_13 : decode b_Frames_meetWord 13 = .ok (.iload_n 3, 1) := by decide +kernel
theorem d_Frames_meetWord_14 : decode b_Frames_meetWord 14 = .ok (.imul, 1) := by decide +kernel
theorem d_Frames_meetWord_15 : decode b_Frames_meetWord 15 = .ok (.bipush 16, 2) := by decide +kernel
theorem d_Frames_meetWord_17 : decode b_Frames_meetWord 17 = .ok (.iadd, 1) := by decide +kernel
theorem d_Frames_meetWord_18 : decode b_Frames_meetWord 18 = .ok (.if_icmp .ge 52, 3) := by decide +kernel
theorem d_Frames_meetWord_21 : decode b_Frames_meetWord 21 = .ok (.aload_n 0, 1) := by decide +kernel
theorem d_Frames_meetWord_22 : decode b_Frames_meetWord 22 = .ok (.getfield 11, 3) := by decide +kernel
theorem d_Frames_meetWord_25 : decode b_Frames_meetWord 25 = .ok (.iload_n 1, 1) := by decide +kernel
theorem d_Frames_meetWord_26 : decode b_Frames_meetWord 26 = .ok (.iload 5, 2) := by decide +kernel
theorem d_Frames_meetWord_28 : decode b_Frames_meetWord 28 = .ok (.invokestatic 39, 3) := by decide +kernel
theorem d_Frames_meetWord_31 : decode b_Frames_meetWord 31 = .ok (.istore 6, 2) := by decide +kernel
theorem d_Frames_meetWord_33 : decode b_Frames_meetWord 33 = .ok (.iload 6, 2) := by decide +kernel
theorem d_Frames_meetWord_35 : decode b_Frames_meetWord 35 = .ok (.ifCond .eq 29, 3) := by decide +kernel
theorem d_Frames_meetWord_38 : decode b_Frames_meetWord 38 = .ok (.iload 6, 2) := by decide +kernel
theorem d_Frames_meetWord_40 : decode b_Frames_meetWord 40 = .ok (.aload_n 2, 1) := by decide +kernel
theorem d_Frames_meetWord_41 : decode b_Frames_meetWord 41 = .ok (.iconst 0, 1) := by decide +kernel
theorem d_Frames_meetWord_42 : decode b_Frames_meetWord 42 = .ok (.iload 5, 2) := by decide +kernel
theorem d_Frames_meetWord_44 : decode b_Frames_meetWord 44 = .ok (.invokestatic 39, 3) := by decide +kernel
theorem d_Frames_meetWord_47 : decode b_Frames_meetWord 47 = .ok (.if_icmp .eq 17, 3) := by decide +kernel
theorem d_Frames_meetWord_50 : decode b_Frames_meetWord 50 = .ok (.aload_n 0, 1) := by decide +kernel
theorem d_Frames_meetWord_51 : decode b_Frames_meetWord 51 = .ok (.getfield 11, 3) := by decide +kernel
theorem d_Frames_meetWord_54 : decode b_Frames_meetWord 54 = .ok (.iload_n 1, 1) := by decide +kernel
theorem d_Frames_meetWord_55 : decode b_Frames_meetWord 55 = .ok (.iload 5, 2) := by decide +kernel
theorem d_Frames_meetWord_57 : decode b_Frames_meetWord 57 = .ok (.iconst 0, 1) := by decide +kernel
theorem d_Frames_meetWord_58 : decode b_Frames_meetWord 58 = .ok (.invokestatic 74, 3) := by decide +kernel
theorem d_Frames_meetWord_61 : decode b_Frames_meetWord 61 = .ok (.iconst 1, 1) := by decide +kernel
theorem d_Frames_meetWord_62 : decode b_Frames_meetWord 62 = .ok (.istore 4, 2) := by decide +kernel
theorem d_Frames_meetWord_64 : decode b_Frames_meetWord 64 = .ok (.iinc 5 1, 3) := by decide +kernel
theorem d_Frames_meetWord_67 : decode b_Frames_meetWord 67 = .ok (.goto (-58), 3) := by decide +kernel
theorem d_Frames_meetWord_70 : decode b_Frames_meetWord 70 = .ok (.iload 4, 2) := by decide +kernel
theorem d_Frames_meetWord_72 : decode b_Frames_meetWord 72 = .ok (.ireturn, 1) := by decide +kernel
