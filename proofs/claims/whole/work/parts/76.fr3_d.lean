theorem d_Frames_setKindIn_0 : decode b_Frames_setKindIn 0 = .ok (.iload_n 2, 1) := by decide +kernel
theorem d_Frames_setKindIn_1 : decode b_Frames_setKindIn 1 = .ok (.bipush 15, 2) := by decide +kernel
theorem d_Frames_setKindIn_3 : decode b_Frames_setKindIn 3 = .ok (.iand, 1) := by decide +kernel
theorem d_Frames_setKindIn_4 : decode b_Frames_setKindIn 4 = .ok (.iconst 2, 1) := by decide +kernel
theorem d_Frames_setKindIn_5 : decode b_Frames_setKindIn 5 = .ok (.ishl, 1) := by decide +kernel
theorem d_Frames_setKindIn_6 : decode b_Frames_setKindIn 6 = .ok (.istore 4, 2) := by decide +kernel
theorem d_Frames_setKindIn_8 : decode b_Frames_setKindIn 8 = .ok (.iload_n 1, 1) := by decide +kernel
theorem d_Frames_setKindIn_9 : decode b_Frames_setKindIn 9 = .ok (.iload_n 2, 1) := by decide +kernel
theorem d_Frames_setKindIn_10 : decode b_Frames_setKindIn 10 = .ok (.iconst 4, 1) := by decide +kernel
theorem d_Frames_setKindIn_11 : decode b_Frames_setKindIn 11 = .ok (.ishr, 1) := by decide +kernel
theorem d_Frames_setKindIn_12 : decode b_Frames_setKindIn 12 = .ok (.iadd, 1) := by decide +kernel
theorem d_Frames_setKindIn_13 : decode b_Frames_setKindIn 13 = .ok (.istore 5, 2) := by decide +kernel
theorem d_Frames_setKindIn_15 : decode b_Frames_setKindIn 15 = .ok (.aload_n 0, 1) := by decide +kernel
theorem d_Frames_setKindIn_16 : decode b_Frames_setKindIn 16 = .ok (.iload 5, 2) := by decide +kernel
theorem d_Frames_setKindIn_18 : decode b_Frames_setKindIn 18 = .ok (.aload_n 0, 1) := by decide +kernel
theorem d_Frames_setKindIn_19 : decode b_Frames_setKindIn 19 = .ok (.iload 5, 2) := by decide +kernel
theorem d_Frames_setKindIn_21 : decode b_Frames_setKindIn 21 = .ok (.laload, 1) := by decide +kernel
theorem d_Frames_setKindIn_22 : decode b_Frames_setKindIn 22 = .ok (.ldc2_w 43, 3) := by decide +kernel
theorem d_Frames_setKindIn_25 : decode b_Frames_setKindIn 25 = .ok (.iload 4, 2) := by decide +kernel
theorem d_Frames_setKindIn_27 : decode b_Frames_setKindIn 27 = .ok (.lshl, 1) := by decide +kernel
theorem d_Frames_setKindIn_28 : decode b_Frames_setKindIn 28 = .ok (.ldc2_w 45, 3) := by decide +kernel
theorem d_Frames_setKindIn_31 : decode b_Frames_setKindIn 31 = .ok (.lxor, 1) := by decide +kernel
theorem d_Frames_setKindIn_32 : decode b_Frames_setKindIn 32 = .ok (.land, 1) := by decide +kernel
theorem d_Frames_setKindIn_33 : decode b_Frames_setKindIn 33 = .ok (.iload_n 3, 1) := by decide +kernel
theorem d_Frames_setKindIn_34 : decode b_Frames_setKindIn 34 = .ok (.i2l, 1) := by decide +kernel
theorem d_Frames_setKindIn_35 : decode b_Frames_setKindIn 35 = .ok (.iload 4, 2) := by decide +kernel
theorem d_Frames_setKindIn_37 : decode b_Frames_setKindIn 37 = .ok (.lshl, 1) := by decide +kernel
theorem d_Frames_setKindIn_38 : decode b_Frames_setKindIn 38 = .ok (.lor, 1) := by decide +kernel
theorem d_Frames_setKindIn_39 : decode b_Frames_setKindIn 39 = .ok (.lastore, 1) := by decide +kernel
theorem d_Frames_setKindIn_40 : decode b_Frames_setKindIn 40 = .ok (.return_, 1) := by decide +kernel
