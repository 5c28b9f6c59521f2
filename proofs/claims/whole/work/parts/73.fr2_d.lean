theorem d_Frames_kindIn_0 : decode b_Frames_kindIn 0 = .ok (.aload_n 0, 1) := by decide +kernel
theorem d_Frames_kindIn_1 : decode b_Frames_kindIn 1 = .ok (.iload_n 1, 1) := by decide +kernel
theorem d_Frames_kindIn_2 : decode b_Frames_kindIn 2 = .ok (.iload_n 2, 1) := by decide +kernel
theorem d_Frames_kindIn_3 : decode b_Frames_kindIn 3 = .ok (.iconst 4, 1) := by decide +kernel
theorem d_Frames_kindIn_4 : decode b_Frames_kindIn 4 = .ok (.ishr, 1) := by decide +kernel
theorem d_Frames_kindIn_5 : decode b_Frames_kindIn 5 = .ok (.iadd, 1) := by decide +kernel
theorem d_Frames_kindIn_6 : decode b_Frames_kindIn 6 = .ok (.laload, 1) := by decide +kernel
theorem d_Frames_kindIn_7 : decode b_Frames_kindIn 7 = .ok (.iload_n 2, 1) := by decide +kernel
theorem d_Frames_kindIn_8 : decode b_Frames_kindIn 8 = .ok (.bipush 15, 2) := by decide +kernel
theorem d_Frames_kindIn_10 : decode b_Frames_kindIn 10 = .ok (.iand, 1) := by decide +kernel
theorem d_Frames_kindIn_11 : decode b_Frames_kindIn 11 = .ok (.iconst 2, 1) := by decide +kernel
theorem d_Frames_kindIn_12 : decode b_Frames_kindIn 12 = .ok (.ishl, 1) := by decide +kernel
theorem d_Frames_kindIn_13 : decode b_Frames_kindIn 13 = .ok (.lushr, 1) := by decide +kernel
theorem d_Frames_kindIn_14 : decode b_Frames_kindIn 14 = .ok (.l2i, 1) := by decide +kernel
theorem d_Frames_kindIn_15 : decode b_Frames_kindIn 15 = .ok (.bipush 15, 2) := by decide +kernel
theorem d_Frames_kindIn_17 : decode b_Frames_kindIn 17 = .ok (.iand, 1) := by decide +kernel
theorem d_Frames_kindIn_18 : decode b_Frames_kindIn 18 = .ok (.ireturn, 1) := by decide +kernel
