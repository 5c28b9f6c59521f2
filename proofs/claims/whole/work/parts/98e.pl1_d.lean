theorem d_Policy_isFull_0 : decode b_Policy_isFull 0 = .ok (.aload_n 0, 1) := by decide +kernel
theorem d_Policy_isFull_1 : decode b_Policy_isFull 1 = .ok (.getfield 19, 3) := by decide +kernel
theorem d_Policy_isFull_4 : decode b_Policy_isFull 4 = .ok (.iload_n 1, 1) := by decide +kernel
theorem d_Policy_isFull_5 : decode b_Policy_isFull 5 = .ok (.iaload, 1) := by decide +kernel
theorem d_Policy_isFull_6 : decode b_Policy_isFull 6 = .ok (.bipush 6, 2) := by decide +kernel
theorem d_Policy_isFull_8 : decode b_Policy_isFull 8 = .ok (.if_icmp .lt 7, 3) := by decide +kernel
theorem d_Policy_isFull_11 : decode b_Policy_isFull 11 = .ok (.iconst 1, 1) := by decide +kernel
theorem d_Policy_isFull_12 : decode b_Policy_isFull 12 = .ok (.goto 4, 3) := by decide +kernel
theorem d_Policy_isFull_15 : decode b_Policy_isFull 15 = .ok (.iconst 0, 1) := by decide +kernel
theorem d_Policy_isFull_16 : decode b_Policy_isFull 16 = .ok (.ireturn, 1) := by decide +kernel
theorem d_Policy_learn_0 : decode b_Policy_learn 0 = .ok (.iload_n 1, 1) := by decide +kernel
theorem d_Policy_learn_1 : decode b_Policy_learn 1 = .ok (.bipush 6, 2) := by decide +kernel
theorem d_Policy_learn_3 : decode b_Policy_learn 3 = .ok (.imul, 1) := by decide +kernel
theorem d_Policy_learn_4 : decode b_Policy_learn 4 = .ok (.aload_n 0, 1) := by decide +kernel
theorem d_Policy_learn_5 : decode b_Policy_learn 5 = .ok (.getfield 19, 3) := by decide +kernel
theorem d_Policy_learn_8 : decode b_Policy_learn 8 = .ok (.iload_n 1, 1) := by decide +kernel
theorem d_Policy_learn_9 : decode b_Policy_learn 9 = .ok (.iaload, 1) := by decide +kernel
theorem d_Policy_learn_10 : decode b_Policy_learn 10 = .ok (.iadd, 1) := by decide +kernel
theorem d_Policy_learn_11 : decode b_Policy_learn 11 = .ok (.istore 4, 2) := by decide +kernel
theorem d_Policy_learn_13 : decode b_Policy_learn 13 = .ok (.aload_n 2, 1) := by decide +kernel
theorem d_Policy_learn_14 : decode b_Policy_learn 14 = .ok (.getfield 29, 3) := by decide +kernel
theorem d_Policy_learn_17 : decode b_Policy_learn 17 = .ok (.iload_n 3, 1) := by decide +kernel
theorem d_Policy_learn_18 : decode b_Policy_learn 18 = .ok (.isub, 1) := by decide +kernel
theorem d_Policy_learn_19 : decode b_Policy_learn 19 = .ok (.istore 5, 2) := by decide +kernel
theorem d_Policy_learn_21 : decode b_Policy_learn 21 = .ok (.iconst 0, 1) := by decide +kernel
theorem d_Policy_learn_22 : decode b_Policy_learn 22 = .ok (.istore 6, 2) := by decide +kernel
theorem d_Policy_learn_24 : decode b_Policy_learn 24 = .ok (.iload 6, 2) := by decide +kernel
theorem d_Policy_learn_26 : decode b_Policy_learn 26 = .ok (.iload_n 3, 1) := by decide +kernel
theorem d_Policy_learn_27 : decode b_Policy_learn 27 = .ok (.if_icmp .ge 39, 3) := by decide +kernel
theorem d_Policy_learn_30 : decode b_Policy_learn 30 = .ok (.iload 6, 2) := by decide +kernel
theorem d_Policy_learn_32 : decode b_Policy_learn 32 = .ok (.bipush 40, 2) := by decide +kernel
theorem d_Policy_learn_34 : decode b_Policy_learn 34 = .ok (.if_icmp .ge 32, 3) := by decide +kernel
theorem d_Policy_learn_37 : decode b_Policy_learn 37 = .ok (.aload_n 0, 1) := by decide +kernel
theorem d_Policy_learn_38 : decode b_Policy_learn 38 = .ok (.getfield 11, 3) := by decide +kernel
theorem d_Policy_learn_41 : decode b_Policy_learn 41 = .ok (.iload 4, 2) := by decide +kernel
theorem d_Policy_learn_43 : decode b_Policy_learn 43 = .ok (.bipush 40, 2) := by decide +kernel
theorem d_Policy_learn_45 : decode b_Policy_learn 45 = .ok (.imul, 1) := by decide +kernel
theorem d_Policy_learn_46 : decode b_Policy_learn 46 = .ok (.iload 6, 2) := by decide +kernel
theorem d_Policy_learn_48 : decode b_Policy_learn 48 = .ok (.iadd, 1) := by decide +kernel
theorem d_Policy_learn_49 : decode b_Policy_learn 49 = .ok (.aload_n 2, 1) := by decide +kernel
theorem d_Policy_learn_50 : decode b_Policy_learn 50 = .ok (.iload 5, 2) := by decide +kernel
theorem d_Policy_learn_52 : decode b_Policy_learn 52 = .ok (.iload 6, 2) := by decide +kernel
theorem d_Policy_learn_54 : decode b_Policy_learn 54 = .ok (.iadd, 1) := by decide +kernel
theorem d_Policy_learn_55 : decode b_Policy_learn 55 = .ok (.invokevirtual 34, 3) := by decide +kernel
theorem d_Policy_learn_58 : decode b_Policy_learn 58 = .ok (.i2b, 1) := by decide +kernel
theorem d_Policy_learn_59 : decode b_Policy_learn 59 = .ok (.bastore, 1) := by decide +kernel
theorem d_Policy_learn_60 : decode b_Policy_learn 60 = .ok (.iinc 6 1, 3) := by decide +kernel
theorem d_Policy_learn_63 : decode b_Policy_learn 63 = .ok (.goto (-39), 3) := by decide +kernel
theorem d_Policy_learn_66 : decode b_Policy_learn 66 = .ok (.aload_n 0, 1) := by decide +kernel
theorem d_Policy_learn_67 : decode b_Policy_learn 67 = .ok (.getfield 15, 3) := by decide +kernel
theorem d_Policy_learn_70 : decode b_Policy_learn 70 = .ok (.iload 4, 2) := by decide +kernel
theorem d_Policy_learn_72 : decode b_Policy_learn 72 = .ok (.iload_n 3, 1) := by decide +kernel
theorem d_Policy_learn_73 : decode b_Policy_learn 73 = .ok (.iastore, 1) := by decide +kernel
theorem d_Policy_learn_74 : decode b_Policy_learn 74 = .ok (.aload_n 0, 1) := by decide +kernel
theorem d_Policy_learn_75 : decode b_Policy_learn 75 = .ok (.getfield 19, 3) := by decide +kernel
theorem d_Policy_learn_78 : decode b_Policy_learn 78 = .ok (.iload_n 1, 1) := by decide +kernel
theorem d_Policy_learn_79 : decode b_Policy_learn 79 = .ok (.dup2, 1) := by decide +kernel
theorem d_Policy_learn_80 : decode b_Policy_learn 80 = .ok (.iaload, 1) := by decide +kernel
theorem d_Policy_learn_81 : decode b_Policy_learn 81 = .ok (.iconst 1, 1) := by decide +kernel
theorem d_Policy_learn_82 : decode b_Policy_learn 82 = .ok (.iadd, 1) := by decide +kernel
theorem d_Policy_learn_83 : decode b_Policy_learn 83 = .ok (.iastore, 1) := by decide +kernel
theorem d_Policy_learn_84 : decode b_Policy_learn 84 = .ok (.return_, 1) := by decide +kernel
