theorem d_Arrays_fill_aJJV_0 : decode b_Arrays_fill_aJJV 0 = .ok (.iconst 0, 1) := by decide +kernel
theorem d_Arrays_fill_aJJV_1 : decode b_Arrays_fill_aJJV 1 = .ok (.istore_n 3, 1) := by decide +kernel
theorem d_Arrays_fill_aJJV_2 : decode b_Arrays_fill_aJJV 2 = .ok (.aload_n 0, 1) := by decide +kernel
theorem d_Arrays_fill_aJJV_3 : decode b_Arrays_fill_aJJV 3 = .ok (.arraylength, 1) := by decide +kernel
theorem d_Arrays_fill_aJJV_4 : decode b_Arrays_fill_aJJV 4 = .ok (.istore 4, 2) := by decide +kernel
theorem d_Arrays_fill_aJJV_6 : decode b_Arrays_fill_aJJV 6 = .ok (.iload_n 3, 1) := by decide +kernel
theorem d_Arrays_fill_aJJV_7 : decode b_Arrays_fill_aJJV 7 = .ok (.iload 4, 2) := by decide +kernel
theorem d_Arrays_fill_aJJV_9 : decode b_Arrays_fill_aJJV 9 = .ok (.if_icmp .ge 13, 3) := by decide +kernel
theorem d_Arrays_fill_aJJV_12 : decode b_Arrays_fill_aJJV 12 = .ok (.aload_n 0, 1) := by decide +kernel
theorem d_Arrays_fill_aJJV_13 : decode b_Arrays_fill_aJJV 13 = .ok (.iload_n 3, 1) := by decide +kernel
theorem d_Arrays_fill_aJJV_14 : decode b_Arrays_fill_aJJV 14 = .ok (.lload_n 1, 1) := by decide +kernel
theorem d_Arrays_fill_aJJV_15 : decode b_Arrays_fill_aJJV 15 = .ok (.lastore, 1) := by decide +kernel
theorem d_Arrays_fill_aJJV_16 : decode b_Arrays_fill_aJJV 16 = .ok (.iinc 3 1, 3) := by decide +kernel
theorem d_Arrays_fill_aJJV_19 : decode b_Arrays_fill_aJJV 19 = .ok (.goto (-13), 3) := by decide +kernel
theorem d_Arrays_fill_aJJV_22 : decode b_Arrays_fill_aJJV 22 = .ok (.return_, 1) := by decide +kernel
theorem d_Frames_copyCaught_0 : decode b_Frames_copyCaught 0 = .ok (.iload_n 1, 1) := by decide +kernel
theorem d_Frames_copyCaught_1 : decode b_Frames_copyCaught 1 = .ok (.invokestatic 35, 3) := by decide +kernel
theorem d_Frames_copyCaught_4 : decode b_Frames_copyCaught 4 = .ok (.ifCond .eq 31, 3) := by decide +kernel
theorem d_Frames_copyCaught_7 : decode b_Frames_copyCaught 7 = .ok (.aload_n 2, 1) := by decide +kernel
theorem d_Frames_copyCaught_8 : decode b_Frames_copyCaught 8 = .ok (.lconst 0, 1) := by decide +kernel
theorem d_Frames_copyCaught_9 : decode b_Frames_copyCaught 9 = .ok (.invokestatic 71, 3) := by decide +kernel
theorem d_Frames_copyCaught_12 : decode b_Frames_copyCaught 12 = .ok (.aload_n 2, 1) := by decide +kernel
theorem d_Frames_copyCaught_13 : decode b_Frames_copyCaught 13 = .ok (.iconst 0, 1) := by decide +kernel
theorem d_Frames_copyCaught_14 : decode b_Frames_copyCaught 14 = .ok (.iconst 0, 1) := by decide +kernel
theorem d_Frames_copyCaught_15 : decode b_Frames_copyCaught 15 = .ok (.iconst 4, 1) := by decide +kernel
theorem d_Frames_copyCaught_16 : decode b_Frames_copyCaught 16 = .ok (.invokestatic 74, 3) := by decide +kernel
theorem d_Frames_copyCaught_19 : decode b_Frames_copyCaught 19 = .ok (.aload_n 0, 1) := by decide +kernel
theorem d_Frames_copyCaught_20 : decode b_Frames_copyCaught 20 = .ok (.getfield 11, 3) := by decide +kernel
theorem d_Frames_copyCaught_23 : decode b_Frames_copyCaught 23 = .ok (.iload_n 1, 1) := by decide +kernel
theorem d_Frames_copyCaught_24 : decode b_Frames_copyCaught 24 = .ok (.bipush 8, 2) := by decide +kernel
theorem d_Frames_copyCaught_26 : decode b_Frames_copyCaught 26 = .ok (.imul, 1) := by decide +kernel
theorem d_Frames_copyCaught_27 : decode b_Frames_copyCaught 27 = .ok (.iconst 4, 1) := by decide +kernel
theorem d_Frames_copyCaught_28 : decode b_Frames_copyCaught 28 = .ok (.iadd, 1) := by decide +kernel
theorem d_Frames_copyCaught_29 : decode b_Frames_copyCaught 29 = .ok (.aload_n 2, 1) := by decide +kernel
theorem d_Frames_copyCaught_30 : decode b_Frames_copyCaught 30 = .ok (.iconst 4, 1) := by decide +kernel
theorem d_Frames_copyCaught_31 : decode b_Frames_copyCaught 31 = .ok (.iconst 4, 1) := by decide +kernel
theorem d_Frames_copyCaught_32 : decode b_Frames_copyCaught 32 = .ok (.invokestatic 78, 3) := by decide +kernel
theorem d_Frames_copyCaught_35 : decode b_Frames_copyCaught 35 = .ok (.return_, 1) := by decide +kernel
