theorem d_Verifier_goOnToHandlers_0 : decode b_Verifier_goOnToHandlers 0 = .ok (.iconst 0, 1) := by decide +kernel
theorem d_Verifier_goOnToHandlers_1 : decode b_Verifier_goOnToHandlers 1 = .ok (.istore_n 2, 1) := by decide +kernel
theorem d_Verifier_goOnToHandlers_2 : decode b_Verifier_goOnToHandlers 2 = .ok (.aload_n 0, 1) := by decide +kernel
theorem d_Verifier_goOnToHandlers_3 : decode b_Verifier_goOnToHandlers 3 = .ok (.getfield 37, 3) := by decide +kernel
theorem d_Verifier_goOnToHandlers_6 : decode b_Verifier_goOnToHandlers 6 = .ok (.aload_n 0, 1) := by decide +kernel
theorem d_Verifier_goOnToHandlers_7 : decode b_Verifier_goOnToHandlers 7 = .ok (.getfield 68, 3) := by decide +kernel
theorem d_Verifier_goOnToHandlers_10 : decode b_Verifier_goOnToHandlers 10 = .ok (.invokevirtual 123, 3) := by decide +kernel
theorem d_Verifier_goOnToHandlers_13 : decode b_Verifier_goOnToHandlers 13 = .ok (.istore_n 3, 1) := by decide +kernel
theorem d_Verifier_goOnToHandlers_14 : decode b_Verifier_goOnToHandlers 14 = .ok (.iconst 0, 1) := by decide +kernel
theorem d_Verifier_goOnToHandlers_15 : decode b_Verifier_goOnToHandlers 15 = .ok (.istore 4, 2) := by decide +kernel
theorem d_Verifier_goOnToHandlers_17 : decode b_Verifier_goOnToHandlers 17 = .ok (.iload 4, 2) := by decide +kernel
theorem d_Verifier_goOnToHandlers_19 : decode b_Verifier_goOnToHandlers 19 = .ok (.iload_n 3, 1) := by decide +kernel
theorem d_Verifier_goOnToHandlers_20 : decode b_Verifier_goOnToHandlers 20 = .ok (.if_icmp .ge 78, 3) := by decide +kernel
theorem d_Verifier_goOnToHandlers_23 : decode b_Verifier_goOnToHandlers 23 = .ok (.iload_n 2, 1) := by decide +kernel
theorem d_Verifier_goOnToHandlers_24 : decode b_Verifier_goOnToHandlers 24 = .ok (.ifCond .ne 74, 3) := by decide +kernel
theorem d_Verifier_goOnToHandlers_27 : decode b_Verifier_goOnToHandlers 27 = .ok (.aload_n 0, 1) := by decide +kernel
theorem d_Verifier_goOnToHandlers_28 : decode b_Verifier_goOnToHandlers 28 = .ok (.iload 4, 2) := by decide +kernel
theorem d_Verifier_goOnToHandlers_30 : decode b_Verifier_goOnToHandlers 30 = .ok (.invokevirtual 126, 3) := by decide +kernel
theorem d_Verifier_goOnToHandlers_33 : decode b_Verifier_goOnToHandlers 33 = .ok (.istore 5, 2) := by decide +kernel
theorem d_Verifier_goOnToHandlers_35 : decode b_Verifier_goOnToHandlers 35 = .ok (.iload_n 1, 1) := by decide +kernel
theorem d_Verifier_goOnToHandlers_36 : decode b_Verifier_goOnToHandlers 36 = .ok (.aload_n 0, 1) := by decide +kernel
theorem d_Verifier_goOnToHandlers_37 : decode b_Verifier_goOnToHandlers 37 = .ok (.iload 5, 2) := by decide +kernel
theorem d_Verifier_goOnToHandlers_39 : decode b_Verifier_goOnToHandlers 39 = .ok (.iconst 0, 1) := by decide +kernel
theorem d_Verifier_goOnToHandlers_40 : decode b_Verifier_goOnToHandlers 40 = .ok (.invokevirtual 129, 3) := by decide +kernel
theorem d_Verifier_goOnToHandlers_43 : decode b_Verifier_goOnToHandlers 43 = .ok (.if_icmp .lt 49, 3) := by decide +kernel
theorem d_Verifier_goOnToHandlers_46 : decode b_Verifier_goOnToHandlers 46 = .ok (.iload_n 1, 1) := by decide +kernel
theorem d_Verifier_goOnToHandlers_47 : decode b_Verifier_goOnToHandlers 47 = .ok (.aload_n 0, 1) := by decide +kernel
theorem d_Verifier_goOnToHandlers_48 : decode b_Verifier_goOnToHandlers 48 = .ok (.iload 5, 2) := by decide +kernel
theorem d_Verifier_goOnToHandlers_50 : decode b_Verifier_goOnToHandlers 50 = .ok (.iconst 1, 1) := by decide +kernel
theorem d_Verifier_goOnToHandlers_51 : decode b_Verifier_goOnToHandlers 51 = .ok (.invokevirtual 129, 3) := by decide +kernel
theorem d_Verifier_goOnToHandlers_54 : decode b_Verifier_goOnToHandlers 54 = .ok (.if_icmp .ge 38, 3) := by decide +kernel
theorem d_Verifier_goOnToHandlers_57 : decode b_Verifier_goOnToHandlers 57 = .ok (.aload_n 0, 1) := by decide +kernel
theorem d_Verifier_goOnToHandlers_58 : decode b_Verifier_goOnToHandlers 58 = .ok (.getfield 12, 3) := by decide +kernel
theorem d_Verifier_goOnToHandlers_61 : decode b_Verifier_goOnToHandlers 61 = .ok (.getfield 162, 3) := by decide +kernel
theorem d_Verifier_goOnToHandlers_64 : decode b_Verifier_goOnToHandlers 64 = .ok (.ifCond .ne 8, 3) := by decide +kernel
theorem d_Verifier_goOnToHandlers_67 : decode b_Verifier_goOnToHandlers 67 = .ok (.bipush 22, 2) := by decide +kernel
theorem d_Verifier_goOnToHandlers_69 : decode b_Verifier_goOnToHandlers 69 = .ok (.goto 22, 3) := by decide +kernel
theorem d_Verifier_goOnToHandlers_72 : decode b_Verifier_goOnToHandlers 72 = .ok (.aload_n 0, 1) := by decide +kernel
theorem d_Verifier_goOnToHandlers_73 : decode b_Verifier_goOnToHandlers 73 = .ok (.getfield 42, 3) := by decide +kernel
theorem d_Verifier_goOnToHandlers_76 : decode b_Verifier_goOnToHandlers 76 = .ok (.aload_n 0, 1) := by decide +kernel
theorem d_Verifier_goOnToHandlers_77 : decode b_Verifier_goOnToHandlers 77 = .ok (.iload 5, 2) := by decide +kernel
theorem d_Verifier_goOnToHandlers_79 : decode b_Verifier_goOnToHandlers 79 = .ok (.iconst 2, 1) := by decide +kernel
theorem d_Verifier_goOnToHandlers_80 : decode b_Verifier_goOnToHandlers 80 = .ok (.invokevirtual 129, 3) := by decide +kernel
theorem d_Verifier_goOnToHandlers_83 : decode b_Verifier_goOnToHandlers 83 = .ok (.aload_n 0, 1) := by decide +kernel
theorem d_Verifier_goOnToHandlers_84 : decode b_Verifier_goOnToHandlers 84 = .ok (.getfield 20, 3) := by decide +kernel
theorem d_Verifier_goOnToHandlers_87 : decode b_Verifier_goOnToHandlers 87 = .ok (.iconst 1, 1) := by decide +kernel
theorem d_Verifier_goOnToHandlers_88 : decode b_Verifier_goOnToHandlers 88 = .ok (.invokevirtual 96, 3) := by decide +kernel
theorem d_Verifier_goOnToHandlers_91 : decode b_Verifier_goOnToHandlers 91 = .ok (.istore_n 2, 1) := by decide +kernel
theorem d_Verifier_goOnToHandlers_92 : decode b_Verifier_goOnToHandlers 92 = .ok (.iinc 4 1, 3) := by decide +kernel
theorem d_Verifier_goOnToHandlers_95 : decode b_Verifier_goOnToHandlers 95 = .ok (.goto (-78), 3) := by decide +kernel
theorem d_Verifier_goOnToHandlers_98 : decode b_Verifier_goOnToHandlers 98 = .ok (.iload_n 2, 1) := by decide +kernel
theorem d_Verifier_goOnToHandlers_99 : decode b_Verifier_goOnToHandlers 99 = .ok (.ireturn, 1) := by decide +kernel
