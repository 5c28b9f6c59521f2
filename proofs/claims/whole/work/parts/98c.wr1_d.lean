theorem d_Image_isWritten_0 : decode b_Image_isWritten 0 = .ok (.iload_n 1, 1) := by decide +kernel
theorem d_Image_isWritten_1 : decode b_Image_isWritten 1 = .ok (.istore_n 2, 1) := by decide +kernel
theorem d_Image_isWritten_2 : decode b_Image_isWritten 2 = .ok (.iload_n 2, 1) := by decide +kernel
theorem d_Image_isWritten_3 : decode b_Image_isWritten 3 = .ok (.aload_n 0, 1) := by decide +kernel
theorem d_Image_isWritten_4 : decode b_Image_isWritten 4 = .ok (.getfield 15, 3) := by decide +kernel
theorem d_Image_isWritten_7 : decode b_Image_isWritten 7 = .ok (.if_icmp .ge 29, 3) := by decide +kernel
theorem d_Image_isWritten_10 : decode b_Image_isWritten 10 = .ok (.aload_n 0, 1) := by decide +kernel
theorem d_Image_isWritten_11 : decode b_Image_isWritten 11 = .ok (.iload_n 2, 1) := by decide +kernel
theorem d_Image_isWritten_12 : decode b_Image_isWritten 12 = .ok (.invokevirtual 25, 3) := by decide +kernel
theorem d_Image_isWritten_15 : decode b_Image_isWritten 15 = .ok (.istore_n 3, 1) := by decide +kernel
theorem d_Image_isWritten_16 : decode b_Image_isWritten 16 = .ok (.iload_n 3, 1) := by decide +kernel
theorem d_Image_isWritten_17 : decode b_Image_isWritten 17 = .ok (.bipush 33, 2) := by decide +kernel
theorem d_Image_isWritten_19 : decode b_Image_isWritten 19 = .ok (.if_icmp .lt 9, 3) := by decide +kernel
theorem d_Image_isWritten_22 : decode b_Image_isWritten 22 = .ok (.iload_n 3, 1) := by decide +kernel
theorem d_Image_isWritten_23 : decode b_Image_isWritten 23 = .ok (.bipush 126, 2) := by decide +kernel
theorem d_Image_isWritten_25 : decode b_Image_isWritten 25 = .ok (.if_icmp .le 5, 3) := by decide +kernel
theorem d_Image_isWritten_28 : decode b_Image_isWritten 28 = .ok (.iconst 0, 1) := by decide +kernel
theorem d_Image_isWritten_29 : decode b_Image_isWritten 29 = .ok (.ireturn, 1) := by decide +kernel
theorem d_Image_isWritten_30 : decode b_Image_isWritten 30 = .ok (.iinc 2 1, 3) := by decide +kernel
theorem d_Image_isWritten_33 : decode b_Image_isWritten 33 = .ok (.goto (-31), 3) := by decide +kernel
theorem d_Image_isWritten_36 : decode b_Image_isWritten 36 = .ok (.iconst 1, 1) := by decide +kernel
theorem d_Image_isWritten_37 : decode b_Image_isWritten 37 = .ok (.ireturn, 1) := by decide +kernel
