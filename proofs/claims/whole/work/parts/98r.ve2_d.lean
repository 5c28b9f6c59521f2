theorem d_Verifier_verifies_0 : decode b_Verifier_verifies 0 = .ok (.aload_n 0, 1) := by decide +kernel
theorem d_Verifier_verifies_1 : decode b_Verifier_verifies 1 = .ok (.aload_n 1, 1) := by decide +kernel
theorem d_Verifier_verifies_2 : decode b_Verifier_verifies 2 = .ok (.putfield 27, 3) := by decide +kernel
theorem d_Verifier_verifies_5 : decode b_Verifier_verifies 5 = .ok (.aload_n 0, 1) := by decide +kernel
theorem d_Verifier_verifies_6 : decode b_Verifier_verifies 6 = .ok (.aload_n 1, 1) := by decide +kernel
theorem d_Verifier_verifies_7 : decode b_Verifier_verifies 7 = .ok (.getfield 31, 3) := by decide +kernel
theorem d_Verifier_verifies_10 : decode b_Verifier_verifies 10 = .ok (.putfield 37, 3) := by decide +kernel
theorem d_Verifier_verifies_13 : decode b_Verifier_verifies 13 = .ok (.aload_n 0, 1) := by decide +kernel
theorem d_Verifier_verifies_14 : decode b_Verifier_verifies 14 = .ok (.aload_n 1, 1) := by decide +kernel
theorem d_Verifier_verifies_15 : decode b_Verifier_verifies 15 = .ok (.getfield 38, 3) := by decide +kernel
theorem d_Verifier_verifies_18 : decode b_Verifier_verifies 18 = .ok (.putfield 42, 3) := by decide +kernel
theorem d_Verifier_verifies_21 : decode b_Verifier_verifies 21 = .ok (.aload_n 0, 1) := by decide +kernel
theorem d_Verifier_verifies_22 : decode b_Verifier_verifies 22 = .ok (.aload_n 2, 1) := by decide +kernel
theorem d_Verifier_verifies_23 : decode b_Verifier_verifies 23 = .ok (.putfield 43, 3) := by decide +kernel
theorem d_Verifier_verifies_26 : decode b_Verifier_verifies 26 = .ok (.iconst 0, 1) := by decide +kernel
theorem d_Verifier_verifies_27 : decode b_Verifier_verifies 27 = .ok (.istore_n 3, 1) := by decide +kernel
theorem d_Verifier_verifies_28 : decode b_Verifier_verifies 28 = .ok (.iload_n 3, 1) := by decide +kernel
theorem d_Verifier_verifies_29 : decode b_Verifier_verifies 29 = .ok (.aload_n 0, 1) := by decide +kernel
theorem d_Verifier_verifies_30 : decode b_Verifier_verifies 30 = .ok (.getfield 27, 3) := by decide +kernel
theorem d_Verifier_verifies_33 : decode b_Verifier_verifies 33 = .ok (.getfield 47, 3) := by decide +kernel
theorem d_Verifier_verifies_36 : decode b_Verifier_verifies 36 = .ok (.if_icmp .ge 30, 3) := by decide +kernel
theorem d_Verifier_verifies_39 : decode b_Verifier_verifies 39 = .ok (.aload_n 0, 1) := by decide +kernel
theorem d_Verifier_verifies_40 : decode b_Verifier_verifies 40 = .ok (.getfield 27, 3) := by decide +kernel
theorem d_Verifier_verifies_43 : decode b_Verifier_verifies 43 = .ok (.iload_n 3, 1) := by decide +kernel
theorem d_Verifier_verifies_44 : decode b_Verifier_verifies 44 = .ok (.invokevirtual 51, 3) := by decide +kernel
theorem d_Verifier_verifies_47 : decode b_Verifier_verifies 47 = .ok (.ifCond .eq 13, 3) := by decide +kernel
theorem d_Verifier_verifies_50 : decode b_Verifier_verifies 50 = .ok (.aload_n 0, 1) := by decide +kernel
theorem d_Verifier_verifies_51 : decode b_Verifier_verifies 51 = .ok (.iload_n 3, 1) := by decide +kernel
theorem d_Verifier_verifies_52 : decode b_Verifier_verifies 52 = .ok (.invokevirtual 55, 3) := by decide +kernel
theorem d_Verifier_verifies_55 : decode b_Verifier_verifies 55 = .ok (.ifCond .ne 5, 3) := by decide +kernel
theorem d_Verifier_verifies_58 : decode b_Verifier_verifies 58 = .ok (.iconst 0, 1) := by decide +kernel
theorem d_Verifier_verifies_59 : decode b_Verifier_verifies 59 = .ok (.ireturn, 1) := by decide +kernel
theorem d_Verifier_verifies_60 : decode b_Verifier_verifies 60 = .ok (.iinc 3 1, 3) := by decide +kernel
theorem d_Verifier_verifies_63 : decode b_Verifier_verifies 63 = .ok (.goto (-35), 3) := by decide +kernel
theorem d_Verifier_verifies_66 : decode b_Verifier_verifies 66 = .ok (.iconst 1, 1) := by decide +kernel
theorem d_Verifier_verifies_67 : decode b_Verifier_verifies 67 = .ok (.ireturn, 1) := by decide +kernel
