theorem d_Frames_lay_0 : decode b_Frames_lay 0 = .ok (.aload_n 1, 1) := by decide +kernel
theorem d_Frames_lay_1 : decode b_Frames_lay 1 = .ok (.lconst 0, 1) := by decide +kernel
theorem d_Frames_lay_2 : decode b_Frames_lay 2 = .ok (.invokestatic 71, 3) := by decide +kernel
theorem d_Frames_lay_5 : decode b_Frames_lay 5 = .ok (.iconst 0, 1) := by decide +kernel
theorem d_Frames_lay_6 : decode b_Frames_lay 6 = .ok (.istore_n 2, 1) := by decide +kernel
theorem d_Frames_lay_7 : decode b_Frames_lay 7 = .ok (.iload_n 2, 1) := by decide +kernel
theorem d_Frames_lay_8 : decode b_Frames_lay 8 = .ok (.aload_n 0, 1) := by decide +kernel
theorem d_Frames_lay_9 : decode b_Frames_lay 9 = .ok (.getfield 56, 3) := by decide +kernel
theorem d_Frames_lay_12 : decode b_Frames_lay 12 = .ok (.if_icmp .ge 21, 3) := by decide +kernel
theorem d_Frames_lay_15 : decode b_Frames_lay 15 = .ok (.aload_n 1, 1) := by decide +kernel
theorem d_Frames_lay_16 : decode b_Frames_lay 16 = .ok (.iconst 0, 1) := by decide +kernel
theorem d_Frames_lay_17 : decode b_Frames_lay 17 = .ok (.iload_n 2, 1) := by decide +kernel
theorem d_Frames_lay_18 : decode b_Frames_lay 18 = .ok (.aload_n 0, 1) := by decide +kernel
theorem d_Frames_lay_19 : decode b_Frames_lay 19 = .ok (.getfield 61, 3) := by decide +kernel
theorem d_Frames_lay_22 : decode b_Frames_lay 22 = .ok (.iload_n 2, 1) := by decide +kernel
theorem d_Frames_lay_23 : decode b_Frames_lay 23 = .ok (.iaload, 1) := by decide +kernel
theorem d_Frames_lay_24 : decode b_Frames_lay 24 = .ok (.invokestatic 74, 3) := by decide +kernel
theorem d_Frames_lay_27 : decode b_Frames_lay 27 = .ok (.iinc 2 1, 3) := by decide +kernel
theorem d_Frames_lay_30 : decode b_Frames_lay 30 = .ok (.goto (-23), 3) := by decide +kernel
theorem d_Frames_lay_33 : decode b_Frames_lay 33 = .ok (.iconst 0, 1) := by decide +kernel
theorem d_Frames_lay_34 : decode b_Frames_lay 34 = .ok (.istore_n 2, 1) := by decide +kernel
theorem d_Frames_lay_35 : decode b_Frames_lay 35 = .ok (.iload_n 2, 1) := by decide +kernel
theorem d_Frames_lay_36 : decode b_Frames_lay 36 = .ok (.aload_n 0, 1) := by decide +kernel
theorem d_Frames_lay_37 : decode b_Frames_lay 37 = .ok (.getfield 65, 3) := by decide +kernel
theorem d_Frames_lay_40 : decode b_Frames_lay 40 = .ok (.if_icmp .ge 24, 3) := by decide +kernel
theorem d_Frames_lay_43 : decode b_Frames_lay 43 = .ok (.aload_n 1, 1) := by decide +kernel
theorem d_Frames_lay_44 : decode b_Frames_lay 44 = .ok (.iconst 0, 1) := by decide +kernel
theorem d_Frames_lay_45 : decode b_Frames_lay 45 = .ok (.bipush 64, 2) := by decide +kernel
theorem d_Frames_lay_47 : decode b_Frames_lay 47 = .ok (.iload_n 2, 1) := by decide +kernel
theorem d_Frames_lay_48 : decode b_Frames_lay 48 = .ok (.iadd, 1) := by decide +kernel
theorem d_Frames_lay_49 : decode b_Frames_lay 49 = .ok (.aload_n 0, 1) := by decide +kernel
theorem d_Frames_lay_50 : decode b_Frames_lay 50 = .ok (.getfield 68, 3) := by decide +kernel
theorem d_Frames_lay_53 : decode b_Frames_lay 53 = .ok (.iload_n 2, 1) := by decide +kernel
theorem d_Frames_lay_54 : decode b_Frames_lay 54 = .ok (.iaload, 1) := by decide +kernel
theorem d_Frames_lay_55 : decode b_Frames_lay 55 = .ok (.invokestatic 74, 3) := by decide +kernel
theorem d_Frames_lay_58 : decode b_Frames_lay 58 = .ok (.iinc 2 1, 3) := by decide +kernel
theorem d_Frames_lay_61 : decode b_Frames_lay 61 = .ok (.goto (-26), 3) := by decide +kernel
theorem d_Frames_lay_64 : decode b_Frames_lay 64 = .ok (.return_, 1) := by decide +kernel
