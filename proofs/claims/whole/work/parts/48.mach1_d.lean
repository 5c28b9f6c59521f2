theorem d_Machine_push_0 : decode b_Machine_push 0 = .ok (.iload_n 1, 1) := by decide +kernel
theorem d_Machine_push_1 : decode b_Machine_push 1 = .ok (.ifCond .ne 6, 3) := by decide +kernel
theorem d_Machine_push_4 : decode b_Machine_push 4 = .ok (.bipush 23, 2) := by decide +kernel
theorem d_Machine_push_6 : decode b_Machine_push 6 = .ok (.ireturn, 1) := by decide +kernel
theorem d_Machine_push_7 : decode b_Machine_push 7 = .ok (.iload_n 1, 1) := by decide +kernel
theorem d_Machine_push_8 : decode b_Machine_push 8 = .ok (.iconst 2, 1) := by decide +kernel
theorem d_Machine_push_9 : decode b_Machine_push 9 = .ok (.if_icmp .ne 7, 3) := by decide +kernel
theorem d_Machine_push_12 : decode b_Machine_push 12 = .ok (.iconst 2, 1) := by decide +kernel
theorem d_Machine_push_13 : decode b_Machine_push 13 = .ok (.goto 4, 3) := by decide +kernel
theorem d_Machine_push_16 : decode b_Machine_push 16 = .ok (.iconst 1, 1) := by decide +kernel
theorem d_Machine_push_17 : decode b_Machine_push 17 = .ok (.istore_n 2, 1) := by decide +kernel
theorem d_Machine_push_18 : decode b_Machine_push 18 = .ok (.aload_n 0, 1) := by decide +kernel
theorem d_Machine_push_19 : decode b_Machine_push 19 = .ok (.getfield 47, 3) := by decide +kernel
theorem d_Machine_push_22 : decode b_Machine_push 22 = .ok (.iload_n 2, 1) := by decide +kernel
theorem d_Machine_push_23 : decode b_Machine_push 23 = .ok (.iadd, 1) := by decide +kernel
theorem d_Machine_push_24 : decode b_Machine_push 24 = .ok (.aload_n 0, 1) := by decide +kernel
theorem d_Machine_push_25 : decode b_Machine_push 25 = .ok (.getfield 37, 3) := by decide +kernel
theorem d_Machine_push_28 : decode b_Machine_push 28 = .ok (.if_icmp .le 6, 3) := by decide +kernel
theorem d_Machine_push_31 : decode b_Machine_push 31 = .ok (.bipush 22, 2) := by decide +kernel
theorem d_Machine_push_33 : decode b_Machine_push 33 = .ok (.ireturn, 1) := by decide +kernel
theorem d_Machine_push_34 : decode b_Machine_push 34 = .ok (.aload_n 0, 1) := by decide +kernel
theorem d_Machine_push_35 : decode b_Machine_push 35 = .ok (.getfield 9, 3) := by decide +kernel
theorem d_Machine_push_38 : decode b_Machine_push 38 = .ok (.aload_n 0, 1) := by decide +kernel
theorem d_Machine_push_39 : decode b_Machine_push 39 = .ok (.getfield 47, 3) := by decide +kernel
theorem d_Machine_push_42 : decode b_Machine_push 42 = .ok (.iload_n 1, 1) := by decide +kernel
theorem d_Machine_push_43 : decode b_Machine_push 43 = .ok (.iastore, 1) := by decide +kernel
theorem d_Machine_push_44 : decode b_Machine_push 44 = .ok (.iload_n 1, 1) := by decide +kernel
theorem d_Machine_push_45 : decode b_Machine_push 45 = .ok (.iconst 2, 1) := by decide +kernel
theorem d_Machine_push_46 : decode b_Machine_push 46 = .ok (.if_icmp .ne 15, 3) := by decide +kernel
theorem d_Machine_push_49 : decode b_Machine_push 49 = .ok (.aload_n 0, 1) := by decide +kernel
theorem d_Machine_push_50 : decode b_Machine_push 50 = .ok (.getfield 9, 3) := by decide +kernel
theorem d_Machine_push_53 : decode b_Machine_push 53 = .ok (.aload_n 0, 1) := by decide +kernel
theorem d_Machine_push_54 : decode b_Machine_push 54 = .ok (.getfield 47, 3) := by decide +kernel
theorem d_Machine_push_57 : decode b_Machine_push 57 = .ok (.iconst 1, 1) := by decide +kernel
theorem d_Machine_push_58 : decode b_Machine_push 58 = .ok (.iadd, 1) := by decide +kernel
theorem d_Machine_push_59 : decode b_Machine_push 59 = .ok (.iconst 3, 1) := by decide +kernel
theorem d_Machine_push_60 : decode b_Machine_push 60 = .ok (.iastore, 1) := by decide +kernel
theorem d_Machine_push_61 : decode b_Machine_push 61 = .ok (.aload_n 0, 1) := by decide +kernel
theorem d_Machine_push_62 : decode b_Machine_push 62 = .ok (.dup, 1) := by decide +kernel
theorem d_Machine_push_63 : decode b_Machine_push 63 = .ok (.getfield 47, 3) := by decide +kernel
theorem d_Machine_push_66 : decode b_Machine_push 66 = .ok (.iload_n 2, 1) := by decide +kernel
theorem d_Machine_push_67 : decode b_Machine_push 67 = .ok (.iadd, 1) := by decide +kernel
theorem d_Machine_push_68 : decode b_Machine_push 68 = .ok (.putfield 47, 3) := by decide +kernel
theorem d_Machine_push_71 : decode b_Machine_push 71 = .ok (.iconst 0, 1) := by decide +kernel
theorem d_Machine_push_72 : decode b_Machine_push 72 = .ok (.ireturn, 1) := by decide +kernel
theorem d_Machine_take_0 : decode b_Machine_take 0 = .ok (.iload_n 1, 1) := by decide +kernel
theorem d_Machine_take_1 : decode b_Machine_take 1 = .ok (.ifCond .ne 6, 3) := by decide +kernel
theorem d_Machine_take_4 : decode b_Machine_take 4 = .ok (.bipush 23, 2) := by decide +kernel
theorem d_Machine_take_6 : decode b_Machine_take 6 = .ok (.ireturn, 1) := by decide +kernel
theorem d_Machine_take_7 : decode b_Machine_take 7 = .ok (.aload_n 0, 1) := by decide +kernel
theorem d_Machine_take_8 : decode b_Machine_take 8 = .ok (.getfield 47, 3) := by decide +kernel
theorem d_Machine_take_11 : decode b_Machine_take 11 = .ok (.ifCond .ne 6, 3) := by decide +kernel
theorem d_Machine_take_14 : decode b_Machine_take 14 = .ok (.bipush 22, 2) := by decide +kernel
theorem d_Machine_take_16 : decode b_Machine_take 16 = .ok (.ireturn, 1) := by decide +kernel
theorem d_Machine_take_17 : decode b_Machine_take 17 = .ok (.aload_n 0, 1) := by decide +kernel
theorem d_Machine_take_18 : decode b_Machine_take 18 = .ok (.getfield 9, 3) := by decide +kernel
theorem d_Machine_take_21 : decode b_Machine_take 21 = .ok (.aload_n 0, 1) := by decide +kernel
theorem d_Machine_take_22 : decode b_Machine_take 22 = .ok (.getfield 47, 3) := by decide +kernel
theorem d_Machine_take_25 : decode b_Machine_take 25 = .ok (.iconst 1, 1) := by decide +kernel
theorem d_Machine_take_26 : decode b_Machine_take 26 = .ok (.isub, 1) := by decide +kernel
theorem d_Machine_take_27 : decode b_Machine_take 27 = .ok (.iaload, 1) := by decide +kernel
theorem d_Machine_take_28 : decode b_Machine_take 28 = .ok (.iload_n 1, 1) := by decide +kernel
theorem d_Machine_take_29 : decode b_Machine_take 29 = .ok (.iconst 2, 1) := by decide +kernel
theorem d_Machine_take_30 : decode b_Machine_take 30 = .ok (.if_icmp .ne 7, 3) := by decide +kernel
theorem d_Machine_take_33 : decode b_Machine_take 33 = .ok (.iconst 3, 1) := by decide +kernel
theorem d_Machine_take_34 : decode b_Machine_take 34 = .ok (.goto 4, 3) := by decide +kernel
theorem d_Machine_take_37 : decode b_Machine_take 37 = .ok (.iload_n 1, 1) := by decide +kernel
theorem d_Machine_take_38 : decode b_Machine_take 38 = .ok (.if_icmp .eq 6, 3) := by decide +kernel
theorem d_Machine_take_41 : decode b_Machine_take 41 = .ok (.bipush 23, 2) := by decide +kernel
theorem d_Machine_take_43 : decode b_Machine_take 43 = .ok (.ireturn, 1) := by decide +kernel
theorem d_Machine_take_44 : decode b_Machine_take 44 = .ok (.aload_n 0, 1) := by decide +kernel
theorem d_Machine_take_45 : decode b_Machine_take 45 = .ok (.dup, 1) := by decide +kernel
theorem d_Machine_take_46 : decode b_Machine_take 46 = .ok (.getfield 47, 3) := by decide +kernel
theorem d_Machine_take_49 : decode b_Machine_take 49 = .ok (.iload_n 1, 1) := by decide +kernel
theorem d_Machine_take_50 : decode b_Machine_take 50 = .ok (.iconst 2, 1) := by decide +kernel
theorem d_Machine_take_51 : decode b_Machine_take 51 = .ok (.if_icmp .ne 7, 3) := by decide +kernel
theorem d_Machine_take_54 : decode b_Machine_take 54 = .ok (.iconst 2, 1) := by decide +kernel
theorem d_Machine_take_55 : decode b_Machine_take 55 = .ok (.goto 4, 3) := by decide +kernel
theorem d_Machine_take_58 : decode b_Machine_take 58 = .ok (.iconst 1, 1) := by decide +kernel
theorem d_Machine_take_59 : decode b_Machine_take 59 = .ok (.isub, 1) := by decide +kernel
theorem d_Machine_take_60 : decode b_Machine_take 60 = .ok (.putfield 47, 3) := by decide +kernel
theorem d_Machine_take_63 : decode b_Machine_take 63 = .ok (.iconst 0, 1) := by decide +kernel
theorem d_Machine_take_64 : decode b_Machine_take 64 = .ok (.ireturn, 1) := by decide +kernel
