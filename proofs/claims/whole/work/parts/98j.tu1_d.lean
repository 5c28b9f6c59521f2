theorem d_Frames_takeUp_0 : decode b_Frames_takeUp 0 = .ok (.iload_n 1, 1) := by decide +kernel
theorem d_Frames_takeUp_1 : decode b_Frames_takeUp 1 = .ok (.invokestatic 35, 3) := by decide +kernel
theorem d_Frames_takeUp_4 : decode b_Frames_takeUp 4 = .ok (.ifCond .ne 4, 3) := by decide +kernel
theorem d_Frames_takeUp_7 : decode b_Frames_takeUp 7 = .ok (.return_, 1) := by decide +kernel
theorem d_Frames_takeUp_8 : decode b_Frames_takeUp 8 = .ok (.aload_n 0, 1) := by decide +kernel
theorem d_Frames_takeUp_9 : decode b_Frames_takeUp 9 = .ok (.getfield 19, 3) := by decide +kernel
theorem d_Frames_takeUp_12 : decode b_Frames_takeUp 12 = .ok (.iload_n 1, 1) := by decide +kernel
theorem d_Frames_takeUp_13 : decode b_Frames_takeUp 13 = .ok (.iconst 0, 1) := by decide +kernel
theorem d_Frames_takeUp_14 : decode b_Frames_takeUp 14 = .ok (.bastore, 1) := by decide +kernel
theorem d_Frames_takeUp_15 : decode b_Frames_takeUp 15 = .ok (.aload_n 2, 1) := by decide +kernel
theorem d_Frames_takeUp_16 : decode b_Frames_takeUp 16 = .ok (.aload_n 0, 1) := by decide +kernel
theorem d_Frames_takeUp_17 : decode b_Frames_takeUp 17 = .ok (.getfield 22, 3) := by decide +kernel
theorem d_Frames_takeUp_20 : decode b_Frames_takeUp 20 = .ok (.iload_n 1, 1) := by decide +kernel
theorem d_Frames_takeUp_21 : decode b_Frames_takeUp 21 = .ok (.baload, 1) := by decide +kernel
theorem d_Frames_takeUp_22 : decode b_Frames_takeUp 22 = .ok (.putfield 56, 3) := by decide +kernel
theorem d_Frames_takeUp_25 : decode b_Frames_takeUp 25 = .ok (.iconst 0, 1) := by decide +kernel
theorem d_Frames_takeUp_26 : decode b_Frames_takeUp 26 = .ok (.istore_n 3, 1) := by decide +kernel
theorem d_Frames_takeUp_27 : decode b_Frames_takeUp 27 = .ok (.iload_n 3, 1) := by decide +kernel
theorem d_Frames_takeUp_28 : decode b_Frames_takeUp 28 = .ok (.aload_n 2, 1) := by decide +kernel
theorem d_Frames_takeUp_29 : decode b_Frames_takeUp 29 = .ok (.getfield 56, 3) := by decide +kernel
theorem d_Frames_takeUp_32 : decode b_Frames_takeUp 32 = .ok (.if_icmp .ge 27, 3) := by decide +kernel
theorem d_Frames_takeUp_35 : decode b_Frames_takeUp 35 = .ok (.aload_n 2, 1) := by decide +kernel
theorem d_Frames_takeUp_36 : decode b_Frames_takeUp 36 = .ok (.getfield 61, 3) := by decide +kernel
theorem d_Frames_takeUp_39 : decode b_Frames_takeUp 39 = .ok (.iload_n 3, 1) := by decide +kernel
theorem d_Frames_takeUp_40 : decode b_Frames_takeUp 40 = .ok (.aload_n 0, 1) := by decide +kernel
theorem d_Frames_takeUp_41 : decode b_Frames_takeUp 41 = .ok (.getfield 11, 3) := by decide +kernel
theorem d_Frames_takeUp_44 : decode b_Frames_takeUp 44 = .ok (.iload_n 1, 1) := by decide +kernel
theorem d_Frames_takeUp_45 : decode b_Frames_takeUp 45 = .ok (.bipush 8, 2) := by decide +kernel
theorem d_Frames_takeUp_47 : decode b_Frames_takeUp 47 = .ok (.imul, 1) := by decide +kernel
theorem d_Frames_takeUp_48 : decode b_Frames_takeUp 48 = .ok (.iload_n 3, 1) := by decide +kernel
theorem d_Frames_takeUp_49 : decode b_Frames_takeUp 49 = .ok (.invokestatic 39, 3) := by decide +kernel
theorem d_Frames_takeUp_52 : decode b_Frames_takeUp 52 = .ok (.iastore, 1) := by decide +kernel
theorem d_Frames_takeUp_53 : decode b_Frames_takeUp 53 = .ok (.iinc 3 1, 3) := by decide +kernel
theorem d_Frames_takeUp_56 : decode b_Frames_takeUp 56 = .ok (.goto (-29), 3) := by decide +kernel
theorem d_Frames_takeUp_59 : decode b_Frames_takeUp 59 = .ok (.iconst 0, 1) := by decide +kernel
theorem d_Frames_takeUp_60 : decode b_Frames_takeUp 60 = .ok (.istore_n 3, 1) := by decide +kernel
theorem d_Frames_takeUp_61 : decode b_Frames_takeUp 61 = .ok (.iload_n 3, 1) := by decide +kernel
theorem d_Frames_takeUp_62 : decode b_Frames_takeUp 62 = .ok (.aload_n 2, 1) := by decide +kernel
theorem d_Frames_takeUp_63 : decode b_Frames_takeUp 63 = .ok (.getfield 65, 3) := by decide +kernel
theorem d_Frames_takeUp_66 : decode b_Frames_takeUp 66 = .ok (.if_icmp .ge 30, 3) := by decide +kernel
theorem d_Frames_takeUp_69 : decode b_Frames_takeUp 69 = .ok (.aload_n 2, 1) := by decide +kernel
theorem d_Frames_takeUp_70 : decode b_Frames_takeUp 70 = .ok (.getfield 68, 3) := by decide +kernel
theorem d_Frames_takeUp_73 : decode b_Frames_takeUp 73 = .ok (.iload_n 3, 1) := by decide +kernel
theorem d_Frames_takeUp_74 : decode b_Frames_takeUp 74 = .ok (.aload_n 0, 1) := by decide +kernel
theorem d_Frames_takeUp_75 : decode b_Frames_takeUp 75 = .ok (.getfield 11, 3) := by decide +kernel
theorem d_Frames_takeUp_78 : decode b_Frames_takeUp 78 = .ok (.iload_n 1, 1) := by decide +kernel
theorem d_Frames_takeUp_79 : decode b_Frames_takeUp 79 = .ok (.bipush 8, 2) := by decide +kernel
theorem d_Frames_takeUp_81 : decode b_Frames_takeUp 81 = .ok (.imul, 1) := by decide +kernel
theorem d_Frames_takeUp_82 : decode b_Frames_takeUp 82 = .ok (.bipush 64, 2) := by decide +kernel
theorem d_Frames_takeUp_84 : decode b_Frames_takeUp 84 = .ok (.iload_n 3, 1) := by decide +kernel
theorem d_Frames_takeUp_85 : decode b_Frames_takeUp 85 = .ok (.iadd, 1) := by decide +kernel
theorem d_Frames_takeUp_86 : decode b_Frames_takeUp 86 = .ok (.invokestatic 39, 3) := by decide +kernel
theorem d_Frames_takeUp_89 : decode b_Frames_takeUp 89 = .ok (.iastore, 1) := by decide +kernel
theorem d_Frames_takeUp_90 : decode b_Frames_takeUp 90 = .ok (.iinc 3 1, 3) := by decide +kernel
theorem d_Frames_takeUp_93 : decode b_Frames_takeUp 93 = .ok (.goto (-32), 3) := by decide +kernel
theorem d_Frames_takeUp_96 : decode b_Frames_takeUp 96 = .ok (.return_, 1) := by decide +kernel
