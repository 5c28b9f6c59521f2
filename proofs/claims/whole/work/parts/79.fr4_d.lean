theorem d_Frames_makeWait_0 : decode b_Frames_makeWait 0 = .ok (.aload_n 0, 1) := by decide +kernel
theorem d_Frames_makeWait_1 : decode b_Frames_makeWait 1 = .ok (.getfield 19, 3) := by decide +kernel
theorem d_Frames_makeWait_4 : decode b_Frames_makeWait 4 = .ok (.iload_n 1, 1) := by decide +kernel
theorem d_Frames_makeWait_5 : decode b_Frames_makeWait 5 = .ok (.iconst 1, 1) := by decide +kernel
theorem d_Frames_makeWait_6 : decode b_Frames_makeWait 6 = .ok (.bastore, 1) := by decide +kernel
theorem d_Frames_makeWait_7 : decode b_Frames_makeWait 7 = .ok (.aload_n 0, 1) := by decide +kernel
theorem d_Frames_makeWait_8 : decode b_Frames_makeWait 8 = .ok (.aload_n 0, 1) := by decide +kernel
theorem d_Frames_makeWait_9 : decode b_Frames_makeWait 9 = .ok (.getfield 25, 3) := by decide +kernel
theorem d_Frames_makeWait_12 : decode b_Frames_makeWait 12 = .ok (.iload_n 1, 1) := by decide +kernel
theorem d_Frames_makeWait_13 : decode b_Frames_makeWait 13 = .ok (.invokestatic 53, 3) := by decide +kernel
theorem d_Frames_makeWait_16 : decode b_Frames_makeWait 16 = .ok (.putfield 25, 3) := by decide +kernel
theorem d_Frames_makeWait_19 : decode b_Frames_makeWait 19 = .ok (.return_, 1) := by decide +kernel
