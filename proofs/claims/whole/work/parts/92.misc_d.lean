theorem d_Layout_letterOf_0 : decode b_Layout_letterOf 0 = .ok (.iload_n 1, 1) := by decide +kernel
theorem d_Layout_letterOf_1 : decode b_Layout_letterOf 1 = .ok (.ifCond .eq 16, 3) := by decide +kernel
theorem d_Layout_letterOf_4 : decode b_Layout_letterOf 4 = .ok (.iload_n 2, 1) := by decide +kernel
theorem d_Layout_letterOf_5 : decode b_Layout_letterOf 5 = .ok (.ifCond .lt 12, 3) := by decide +kernel
theorem d_Layout_letterOf_8 : decode b_Layout_letterOf 8 = .ok (.iload_n 2, 1) := by decide +kernel
theorem d_Layout_letterOf_9 : decode b_Layout_letterOf 9 = .ok (.aload_n 0, 1) := by decide +kernel
theorem d_Layout_letterOf_10 : decode b_Layout_letterOf 10 = .ok (.iload_n 1, 1) := by decide +kernel
theorem d_Layout_letterOf_11 : decode b_Layout_letterOf 11 = .ok (.invokevirtual 80, 3) := by decide +kernel
theorem d_Layout_letterOf_14 : decode b_Layout_letterOf 14 = .ok (.if_icmp .lt 6, 3) := by decide +kernel
theorem d_Layout_letterOf_17 : decode b_Layout_letterOf 17 = .ok (.bipush 32, 2) := by decide +kernel
theorem d_Layout_letterOf_19 : decode b_Layout_letterOf 19 = .ok (.ireturn, 1) := by decide +kernel
theorem d_Layout_letterOf_20 : decode b_Layout_letterOf 20 = .ok (.aload_n 0, 1) := by decide +kernel
theorem d_Layout_letterOf_21 : decode b_Layout_letterOf 21 = .ok (.getfield 12, 3) := by decide +kernel
theorem d_Layout_letterOf_24 : decode b_Layout_letterOf 24 = .ok (.aload_n 0, 1) := by decide +kernel
theorem d_Layout_letterOf_25 : decode b_Layout_letterOf 25 = .ok (.iload_n 1, 1) := by decide +kernel
theorem d_Layout_letterOf_26 : decode b_Layout_letterOf 26 = .ok (.invokevirtual 115, 3) := by decide +kernel
theorem d_Layout_letterOf_29 : decode b_Layout_letterOf 29 = .ok (.iload_n 2, 1) := by decide +kernel
theorem d_Layout_letterOf_30 : decode b_Layout_letterOf 30 = .ok (.iadd, 1) := by decide +kernel
theorem d_Layout_letterOf_31 : decode b_Layout_letterOf 31 = .ok (.invokevirtual 118, 3) := by decide +kernel
theorem d_Layout_letterOf_34 : decode b_Layout_letterOf 34 = .ok (.i2c, 1) := by decide +kernel
theorem d_Layout_letterOf_35 : decode b_Layout_letterOf 35 = .ok (.ireturn, 1) := by decide +kernel
