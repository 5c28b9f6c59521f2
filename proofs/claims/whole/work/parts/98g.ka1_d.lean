theorem d_Frames_kindAt_0 : decode b_Frames_kindAt 0 = .ok (.iload_n 1, 1) := by decide +kernel
theorem d_Frames_kindAt_1 : decode b_Frames_kindAt 1 = .ok (.invokestatic 35, 3) := by decide +kernel
theorem d_Frames_kindAt_4 : decode b_Frames_kindAt 4 = .ok (.ifCond .eq 18, 3) := by decide +kernel
theorem d_Frames_kindAt_7 : decode b_Frames_kindAt 7 = .ok (.aload_n 0, 1) := by decide +kernel
theorem d_Frames_kindAt_8 : decode b_Frames_kindAt 8 = .ok (.getfield 11, 3) := by decide +kernel
theorem d_Frames_kindAt_11 : decode b_Frames_kindAt 11 = .ok (.iload_n 1, 1) := by decide +kernel
theorem d_Frames_kindAt_12 : decode b_Frames_kindAt 12 = .ok (.bipush 8, 2) := by decide +kernel
theorem d_Frames_kindAt_14 : decode b_Frames_kindAt 14 = .ok (.imul, 1) := by decide +kernel
theorem d_Frames_kindAt_15 : decode b_Frames_kindAt 15 = .ok (.iload_n 2, 1) := by decide +kernel
theorem d_Frames_kindAt_16 : decode b_Frames_kindAt 16 = .ok (.invokestatic 39, 3) := by decide +kernel
theorem d_Frames_kindAt_19 : decode b_Frames_kindAt 19 = .ok (.goto 4, 3) := by decide +kernel
theorem d_Frames_kindAt_22 : decode b_Frames_kindAt 22 = .ok (.iconst (-1), 1) := by decide +kernel
theorem d_Frames_kindAt_23 : decode b_Frames_kindAt 23 = .ok (.ireturn, 1) := by decide +kernel
