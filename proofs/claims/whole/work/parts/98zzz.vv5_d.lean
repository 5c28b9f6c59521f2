theorem d_Mod_verify_0 : decode b_Mod_verify 0 = .ok (.aload_n 0, 1) := by decide +kernel
theorem d_Mod_verify_1 : decode b_Mod_verify 1 = .ok (.iload_n 1, 1) := by decide +kernel
theorem d_Mod_verify_2 : decode b_Mod_verify 2 = .ok (.putfield 315, 3) := by decide +kernel
theorem d_Mod_verify_5 : decode b_Mod_verify 5 = .ok (.aload_n 0, 1) := by decide +kernel
theorem d_Mod_verify_6 : decode b_Mod_verify 6 = .ok (.iload_n 1, 1) := by decide +kernel
theorem d_Mod_verify_7 : decode b_Mod_verify 7 = .ok (.invokevirtual 380, 3) := by decide +kernel
theorem d_Mod_verify_10 : decode b_Mod_verify 10 = .ok (.aload_n 0, 1) := by decide +kernel
theorem d_Mod_verify_11 : decode b_Mod_verify 11 = .ok (.iload_n 1, 1) := by decide +kernel
theorem d_Mod_verify_12 : decode b_Mod_verify 12 = .ok (.invokevirtual 383, 3) := by decide +kernel
theorem d_Mod_verify_15 : decode b_Mod_verify 15 = .ok (.aload_n 0, 1) := by decide +kernel
theorem d_Mod_verify_16 : decode b_Mod_verify 16 = .ok (.getfield 147, 3) := by decide +kernel
theorem d_Mod_verify_19 : decode b_Mod_verify 19 = .ok (.ifCond .ne 8, 3) := by decide +kernel
theorem d_Mod_verify_22 : decode b_Mod_verify 22 = .ok (.aload_n 0, 1) := by decide +kernel
theorem d_Mod_verify_23 : decode b_Mod_verify 23 = .ok (.iload_n 1, 1) := by decide +kernel
theorem d_Mod_verify_24 : decode b_Mod_verify 24 = .ok (.invokevirtual 386, 3) := by decide +kernel
theorem d_Mod_verify_27 : decode b_Mod_verify 27 = .ok (.aload_n 0, 1) := by decide +kernel
theorem d_Mod_verify_28 : decode b_Mod_verify 28 = .ok (.getfield 71, 3) := by decide +kernel
theorem d_Mod_verify_31 : decode b_Mod_verify 31 = .ok (.iload_n 1, 1) := by decide +kernel
theorem d_Mod_verify_32 : decode b_Mod_verify 32 = .ok (.iaload, 1) := by decide +kernel
theorem d_Mod_verify_33 : decode b_Mod_verify 33 = .ok (.istore_n 2, 1) := by decide +kernel
theorem d_Mod_verify_34 : decode b_Mod_verify 34 = .ok (.aload_n 0, 1) := by decide +kernel
theorem d_Mod_verify_35 : decode b_Mod_verify 35 = .ok (.getfield 71, 3) := by decide +kernel
theorem d_Mod_verify_38 : decode b_Mod_verify 38 = .ok (.iload_n 1, 1) := by decide +kernel
theorem d_Mod_verify_39 : decode b_Mod_verify 39 = .ok (.iaload, 1) := by decide +kernel
theorem d_Mod_verify_40 : decode b_Mod_verify 40 = .ok (.aload_n 0, 1) := by decide +kernel
theorem d_Mod_verify_41 : decode b_Mod_verify 41 = .ok (.getfield 74, 3) := by decide +kernel
theorem d_Mod_verify_44 : decode b_Mod_verify 44 = .ok (.iload_n 1, 1) := by decide +kernel
theorem d_Mod_verify_45 : decode b_Mod_verify 45 = .ok (.iaload, 1) := by decide +kernel
theorem d_Mod_verify_46 : decode b_Mod_verify 46 = .ok (.iadd, 1) := by decide +kernel
theorem d_Mod_verify_47 : decode b_Mod_verify 47 = .ok (.istore_n 3, 1) := by decide +kernel
theorem d_Mod_verify_48 : decode b_Mod_verify 48 = .ok (.iload_n 2, 1) := by decide +kernel
theorem d_Mod_verify_49 : decode b_Mod_verify 49 = .ok (.iload_n 3, 1) := by decide +kernel
theorem d_Mod_verify_50 : decode b_Mod_verify 50 = .ok (.if_icmp .ge 50, 3) := by decide +kernel
theorem d_Mod_verify_53 : decode b_Mod_verify 53 = .ok (.aload_n 0, 1) := by decide +kernel
theorem d_Mod_verify_54 : decode b_Mod_verify 54 = .ok (.getfield 147, 3) := by decide +kernel
theorem d_Mod_verify_57 : decode b_Mod_verify 57 = .ok (.ifCond .ne 43, 3) := by decide +kernel
theorem d_Mod_verify_60 : decode b_Mod_verify 60 = .ok (.aload_n 0, 1) := by decide +kernel
theorem d_Mod_verify_61 : decode b_Mod_verify 61 = .ok (.getfield 86, 3) := by decide +kernel
theorem d_Mod_verify_64 : decode b_Mod_verify 64 = .ok (.iload_n 2, 1) := by decide +kernel
theorem d_Mod_verify_65 : decode b_Mod_verify 65 = .ok (.baload, 1) := by decide +kernel
theorem d_Mod_verify_66 : decode b_Mod_verify 66 = .ok (.ifCond .eq 28, 3) := by decide +kernel
theorem d_Mod_verify_69 : decode b_Mod_verify 69 = .ok (.aload_n 0, 1) := by decide +kernel
theorem d_Mod_verify_70 : decode b_Mod_verify 70 = .ok (.getfield 93, 3) := by decide +kernel
theorem d_Mod_verify_73 : decode b_Mod_verify 73 = .ok (.iload_n 2, 1) := by decide +kernel
theorem d_Mod_verify_74 : decode b_Mod_verify 74 = .ok (.baload, 1) := by decide +kernel
theorem d_Mod_verify_75 : decode b_Mod_verify 75 = .ok (.ifCond .eq 19, 3) := by decide +kernel
theorem d_Mod_verify_78 : decode b_Mod_verify 78 = .ok (.aload_n 0, 1) := by decide +kernel
theorem d_Mod_verify_79 : decode b_Mod_verify 79 = .ok (.iload_n 1, 1) := by decide +kernel
theorem d_Mod_verify_80 : decode b_Mod_verify 80 = .ok (.iload_n 2, 1) := by decide +kernel
theorem d_Mod_verify_81 : decode b_Mod_verify 81 = .ok (.invokevirtual 389, 3) := by decide +kernel
theorem d_Mod_verify_84 : decode b_Mod_verify 84 = .ok (.aload_n 0, 1) := by decide +kernel
theorem d_Mod_verify_85 : decode b_Mod_verify 85 = .ok (.getfield 71, 3) := by decide +kernel
theorem d_Mod_verify_88 : decode b_Mod_verify 88 = .ok (.iload_n 1, 1) := by decide +kernel
theorem d_Mod_verify_89 : decode b_Mod_verify 89 = .ok (.iaload, 1) := by decide +kernel
theorem d_Mod_verify_90 : decode b_Mod_verify 90 = .ok (.istore_n 2, 1) := by decide +kernel
theorem d_Mod_verify_91 : decode b_Mod_verify 91 = .ok (.goto (-43), 3) := by decide +kernel
theorem d_Mod_verify_94 : decode b_Mod_verify 94 = .ok (.iinc 2 1, 3) := by decide +kernel
theorem d_Mod_verify_97 : decode b_Mod_verify 97 = .ok (.goto (-49), 3) := by decide +kernel
theorem d_Mod_verify_100 : decode b_Mod_verify 100 = .ok (.return_, 1) := by decide +kernel
