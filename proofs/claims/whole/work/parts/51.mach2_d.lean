theorem d_Machine_freeOtherHalf_0 : decode b_Machine_freeOtherHalf 0 = .ok (.aload_n 0, 1) := by decide +kernel
theorem d_Machine_freeOtherHalf_1 : decode b_Machine_freeOtherHalf 1 = .ok (.getfield 15, 3) := by decide +kernel
theorem d_Machine_freeOtherHalf_4 : decode b_Machine_freeOtherHalf 4 = .ok (.iload_n 1, 1) := by decide +kernel
theorem d_Machine_freeOtherHalf_5 : decode b_Machine_freeOtherHalf 5 = .ok (.iaload, 1) := by decide +kernel
theorem d_Machine_freeOtherHalf_6 : decode b_Machine_freeOtherHalf 6 = .ok (.iconst 2, 1) := by decide +kernel
theorem d_Machine_freeOtherHalf_7 : decode b_Machine_freeOtherHalf 7 = .ok (.if_icmp .ne 23, 3) := by decide +kernel
theorem d_Machine_freeOtherHalf_10 : decode b_Machine_freeOtherHalf 10 = .ok (.iload_n 1, 1) := by decide +kernel
theorem d_Machine_freeOtherHalf_11 : decode b_Machine_freeOtherHalf 11 = .ok (.iconst 1, 1) := by decide +kernel
theorem d_Machine_freeOtherHalf_12 : decode b_Machine_freeOtherHalf 12 = .ok (.iadd, 1) := by decide +kernel
theorem d_Machine_freeOtherHalf_13 : decode b_Machine_freeOtherHalf 13 = .ok (.bipush 64, 2) := by decide +kernel
theorem d_Machine_freeOtherHalf_15 : decode b_Machine_freeOtherHalf 15 = .ok (.if_icmp .ge 15, 3) := by decide +kernel
theorem d_Machine_freeOtherHalf_18 : decode b_Machine_freeOtherHalf 18 = .ok (.aload_n 0, 1) := by decide +kernel
theorem d_Machine_freeOtherHalf_19 : decode b_Machine_freeOtherHalf 19 = .ok (.getfield 15, 3) := by decide +kernel
theorem d_Machine_freeOtherHalf_22 : decode b_Machine_freeOtherHalf 22 = .ok (.iload_n 1, 1) := by decide +kernel
theorem d_Machine_freeOtherHalf_23 : decode b_Machine_freeOtherHalf 23 = .ok (.iconst 1, 1) := by decide +kernel
theorem d_Machine_freeOtherHalf_24 : decode b_Machine_freeOtherHalf 24 = .ok (.iadd, 1) := by decide +kernel
theorem d_Machine_freeOtherHalf_25 : decode b_Machine_freeOtherHalf 25 = .ok (.iconst 0, 1) := by decide +kernel
theorem d_Machine_freeOtherHalf_26 : decode b_Machine_freeOtherHalf 26 = .ok (.iastore, 1) := by decide +kernel
theorem d_Machine_freeOtherHalf_27 : decode b_Machine_freeOtherHalf 27 = .ok (.goto 26, 3) := by decide +kernel
theorem d_Machine_freeOtherHalf_30 : decode b_Machine_freeOtherHalf 30 = .ok (.aload_n 0, 1) := by decide +kernel
theorem d_Machine_freeOtherHalf_31 : decode b_Machine_freeOtherHalf 31 = .ok (.getfield 15, 3) := by decide +kernel
theorem d_Machine_freeOtherHalf_34 : decode b_Machine_freeOtherHalf 34 = .ok (.iload_n 1, 1) := by decide +kernel
theorem d_Machine_freeOtherHalf_35 : decode b_Machine_freeOtherHalf 35 = .ok (.iaload, 1) := by decide +kernel
theorem d_Machine_freeOtherHalf_36 : decode b_Machine_freeOtherHalf 36 = .ok (.iconst 3, 1) := by decide +kernel
theorem d_Machine_freeOtherHalf_37 : decode b_Machine_freeOtherHalf 37 = .ok (.if_icmp .ne 16, 3) := by decide +kernel
theorem d_Machine_freeOtherHalf_40 : decode b_Machine_freeOtherHalf 40 = .ok (.iload_n 1, 1) := by decide +kernel
theorem d_Machine_freeOtherHalf_41 : decode b_Machine_freeOtherHalf 41 = .ok (.ifCond .le 12, 3) := by decide +kernel
theorem d_Machine_freeOtherHalf_44 : decode b_Machine_freeOtherHalf 44 = .ok (.aload_n 0, 1) := by decide +kernel
theorem d_Machine_freeOtherHalf_45 : decode b_Machine_freeOtherHalf 45 = .ok (.getfield 15, 3) := by decide +kernel
theorem d_Machine_freeOtherHalf_48 : decode b_Machine_freeOtherHalf 48 = .ok (.iload_n 1, 1) := by decide +kernel
theorem d_Machine_freeOtherHalf_49 : decode b_Machine_freeOtherHalf 49 = .ok (.iconst 1, 1) := by decide +kernel
theorem d_Machine_freeOtherHalf_50 : decode b_Machine_freeOtherHalf 50 = .ok (.isub, 1) := by decide +kernel
theorem d_Machine_freeOtherHalf_51 : decode b_Machine_freeOtherHalf 51 = .ok (.iconst 0, 1) := by decide +kernel
theorem d_Machine_freeOtherHalf_52 : decode b_Machine_freeOtherHalf 52 = .ok (.iastore, 1) := by decide +kernel
theorem d_Machine_freeOtherHalf_53 : decode b_Machine_freeOtherHalf 53 = .ok (.return_, 1) := by decide +kernel
theorem d_Machine_pushAll_0 : decode b_Machine_pushAll 0 = .ok (.iconst 0, 1) := by decide +kernel
theorem d_Machine_pushAll_1 : decode b_Machine_pushAll 1 = .ok (.istore 4, 2) := by decide +kernel
theorem d_Machine_pushAll_3 : decode b_Machine_pushAll 3 = .ok (.iconst 0, 1) := by decide +kernel
theorem d_Machine_pushAll_4 : decode b_Machine_pushAll 4 = .ok (.istore 5, 2) := by decide +kernel
theorem d_Machine_pushAll_6 : decode b_Machine_pushAll 6 = .ok (.iload 5, 2) := by decide +kernel
theorem d_Machine_pushAll_8 : decode b_Machine_pushAll 8 = .ok (.iload_n 3, 1) := by decide +kernel
theorem d_Machine_pushAll_9 : decode b_Machine_pushAll 9 = .ok (.if_icmp .ge 32, 3) := by decide +kernel
theorem d_Machine_pushAll_12 : decode b_Machine_pushAll 12 = .ok (.iload 4, 2) := by decide +kernel
theorem d_Machine_pushAll_14 : decode b_Machine_pushAll 14 = .ok (.ifCond .ne 27, 3) := by decide +kernel
theorem d_Machine_pushAll_17 : decode b_Machine_pushAll 17 = .ok (.aload_n 0, 1) := by decide +kernel
theorem d_Machine_pushAll_18 : decode b_Machine_pushAll 18 = .ok (.iload 5, 2) := by decide +kernel
theorem d_Machine_pushAll_20 : decode b_Machine_pushAll 20 = .ok (.iconst 1, 1) := by decide +kernel
theorem d_Machine_pushAll_21 : decode b_Machine_pushAll 21 = .ok (.iand, 1) := by decide +kernel
theorem d_Machine_pushAll_22 : decode b_Machine_pushAll 22 = .ok (.ifCond .ne 7, 3) := by decide +kernel
theorem d_Machine_pushAll_25 : decode b_Machine_pushAll 25 = .ok (.iload_n 1, 1) := by decide +kernel
theorem d_Machine_pushAll_26 : decode b_Machine_pushAll 26 = .ok (.goto 4, 3) := by decide +kernel
theorem d_Machine_pushAll_29 : decode b_Machine_pushAll 29 = .ok (.iload_n 2, 1) := by decide +kernel
theorem d_Machine_pushAll_30 : decode b_Machine_pushAll 30 = .ok (.invokevirtual 165, 3) := by decide +kernel
theorem d_Machine_pushAll_33 : decode b_Machine_pushAll 33 = .ok (.istore 4, 2) := by decide +kernel
theorem d_Machine_pushAll_35 : decode b_Machine_pushAll 35 = .ok (.iinc 5 1, 3) := by decide +kernel
theorem d_Machine_pushAll_38 : decode b_Machine_pushAll 38 = .ok (.goto (-32), 3) := by decide +kernel
theorem d_Machine_pushAll_41 : decode b_Machine_pushAll 41 = .ok (.iload 4, 2) := by decide +kernel
theorem d_Machine_pushAll_43 : decode b_Machine_pushAll 43 = .ok (.ireturn, 1) := by decide +kernel
theorem d_Machine_takeWord_0 : decode b_Machine_takeWord 0 = .ok (.aload_n 0, 1) := by decide +kernel
theorem d_Machine_takeWord_1 : decode b_Machine_takeWord 1 = .ok (.getfield 47, 3) := by decide +kernel
theorem d_Machine_takeWord_4 : decode b_Machine_takeWord 4 = .ok (.ifCond .ne 6, 3) := by decide +kernel
theorem d_Machine_takeWord_7 : decode b_Machine_takeWord 7 = .ok (.bipush 22, 2) := by decide +kernel
theorem d_Machine_takeWord_9 : decode b_Machine_takeWord 9 = .ok (.ireturn, 1) := by decide +kernel
theorem d_Machine_takeWord_10 : decode b_Machine_takeWord 10 = .ok (.aload_n 0, 1) := by decide +kernel
theorem d_Machine_takeWord_11 : decode b_Machine_takeWord 11 = .ok (.aload_n 0, 1) := by decide +kernel
theorem d_Machine_takeWord_12 : decode b_Machine_takeWord 12 = .ok (.getfield 9, 3) := by decide +kernel
theorem d_Machine_takeWord_15 : decode b_Machine_takeWord 15 = .ok (.aload_n 0, 1) := by decide +kernel
theorem d_Machine_takeWord_16 : decode b_Machine_takeWord 16 = .ok (.getfield 47, 3) := by decide +kernel
theorem d_Machine_takeWord_19 : decode b_Machine_takeWord 19 = .ok (.iconst 1, 1) := by decide +kernel
theorem d_Machine_takeWord_20 : decode b_Machine_takeWord 20 = .ok (.isub, 1) := by decide +kernel
theorem d_Machine_takeWord_21 : decode b_Machine_takeWord 21 = .ok (.iaload, 1) := by decide +kernel
theorem d_Machine_takeWord_22 : decode b_Machine_takeWord 22 = .ok (.putfield 196, 3) := by decide +kernel
theorem d_Machine_takeWord_25 : decode b_Machine_takeWord 25 = .ok (.aload_n 0, 1) := by decide +kernel
theorem d_Machine_takeWord_26 : decode b_Machine_takeWord 26 = .ok (.aload_n 0, 1) := by decide +kernel
theorem d_Machine_takeWord_27 : decode b_Machine_takeWord 27 = .ok (.getfield 196, 3) := by decide +kernel
theorem d_Machine_takeWord_30 : decode b_Machine_takeWord 30 = .ok (.iconst 3, 1) := by decide +kernel
theorem d_Machine_takeWord_31 : decode b_Machine_takeWord 31 = .ok (.if_icmp .ne 7, 3) := by decide +kernel
theorem d_Machine_takeWord_34 : decode b_Machine_takeWord 34 = .ok (.iconst 0, 1) := by decide +kernel
theorem d_Machine_takeWord_35 : decode b_Machine_takeWord 35 = .ok (.goto 7, 3) := by decide +kernel
theorem d_Machine_takeWord_38 : decode b_Machine_takeWord 38 = .ok (.aload_n 0, 1) := by decide +kernel
theorem d_Machine_takeWord_39 : decode b_Machine_takeWord 39 = .ok (.getfield 196, 3) := by decide +kernel
theorem d_Machine_takeWord_42 : decode b_Machine_takeWord 42 = .ok (.invokevirtual 162, 3) := by decide +kernel
theorem d_Machine_takeWord_45 : decode b_Machine_takeWord 45 = .ok (.ireturn, 1) := by decide +kernel
