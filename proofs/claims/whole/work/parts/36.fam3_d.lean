theorem d_Layout_addCode_0 : decode b_Layout_addCode 0 = .ok (.iload_n 1, 1) := by decide +kernel
theorem d_Layout_addCode_1 : decode b_Layout_addCode 1 = .ok (.ifCond .lt 18, 3) := by decide +kernel
theorem d_Layout_addCode_4 : decode b_Layout_addCode 4 = .ok (.iload_n 1, 1) := by decide +kernel
theorem d_Layout_addCode_5 : decode b_Layout_addCode 5 = .ok (.aload_n 0, 1) := by decide +kernel
theorem d_Layout_addCode_6 : decode b_Layout_addCode 6 = .ok (.getfield 70, 3) := by decide +kernel
theorem d_Layout_addCode_9 : decode b_Layout_addCode 9 = .ok (.if_icmp .ge 10, 3) := by decide +kernel
theorem d_Layout_addCode_12 : decode b_Layout_addCode 12 = .ok (.aload_n 0, 1) := by decide +kernel
theorem d_Layout_addCode_13 : decode b_Layout_addCode 13 = .ok (.getfield 44, 3) := by decide +kernel
theorem d_Layout_addCode_16 : decode b_Layout_addCode 16 = .ok (.iload_n 1, 1) := by decide +kernel
theorem d_Layout_addCode_17 : decode b_Layout_addCode 17 = .ok (.iload_n 2, 1) := by decide +kernel
theorem d_Layout_addCode_18 : decode b_Layout_addCode 18 = .ok (.iastore, 1) := by decide +kernel
theorem d_Layout_addCode_19 : decode b_Layout_addCode 19 = .ok (.return_, 1) := by decide +kernel
theorem d_Layout_addConstant_0 : decode b_Layout_addConstant 0 = .ok (.iload_n 1, 1) := by decide +kernel
theorem d_Layout_addConstant_1 : decode b_Layout_addConstant 1 = .ok (.ifCond .le 56, 3) := by decide +kernel
theorem d_Layout_addConstant_4 : decode b_Layout_addConstant 4 = .ok (.iload_n 1, 1) := by decide +kernel
theorem d_Layout_addConstant_5 : decode b_Layout_addConstant 5 = .ok (.sipush 200, 3) := by decide +kernel
theorem d_Layout_addConstant_8 : decode b_Layout_addConstant 8 = .ok (.if_icmp .ge 49, 3) := by decide +kernel
theorem d_Layout_addConstant_11 : decode b_Layout_addConstant 11 = .ok (.aload_n 0, 1) := by decide +kernel
theorem d_Layout_addConstant_12 : decode b_Layout_addConstant 12 = .ok (.getfield 25, 3) := by decide +kernel
theorem d_Layout_addConstant_15 : decode b_Layout_addConstant 15 = .ok (.iload_n 1, 1) := by decide +kernel
theorem d_Layout_addConstant_16 : decode b_Layout_addConstant 16 = .ok (.iload_n 2, 1) := by decide +kernel
theorem d_Layout_addConstant_17 : decode b_Layout_addConstant 17 = .ok (.iastore, 1) := by decide +kernel
theorem d_Layout_addConstant_18 : decode b_Layout_addConstant 18 = .ok (.aload_n 0, 1) := by decide +kernel
theorem d_Layout_addConstant_19 : decode b_Layout_addConstant 19 = .ok (.getfield 29, 3) := by decide +kernel
theorem d_Layout_addConstant_22 : decode b_Layout_addConstant 22 = .ok (.iload_n 1, 1) := by decide +kernel
theorem d_Layout_addConstant_23 : decode b_Layout_addConstant 23 = .ok (.iload_n 3, 1) := by decide +kernel
theorem d_Layout_addConstant_24 : decode b_Layout_addConstant 24 = .ok (.iastore, 1) := by decide +kernel
theorem d_Layout_addConstant_25 : decode b_Layout_addConstant 25 = .ok (.aload_n 0, 1) := by decide +kernel
theorem d_Layout_addConstant_26 : decode b_Layout_addConstant 26 = .ok (.getfield 32, 3) := by decide +kernel
theorem d_Layout_addConstant_29 : decode b_Layout_addConstant 29 = .ok (.iload_n 1, 1) := by decide +kernel
theorem d_Layout_addConstant_30 : decode b_Layout_addConstant 30 = .ok (.aload_n 0, 1) := by decide +kernel
theorem d_Layout_addConstant_31 : decode b_Layout_addConstant 31 = .ok (.getfield 12, 3) := by decide +kernel
theorem d_Layout_addConstant_34 : decode b_Layout_addConstant 34 = .ok (.iload_n 3, 1) := by decide +kernel
theorem d_Layout_addConstant_35 : decode b_Layout_addConstant 35 = .ok (.iconst 1, 1) := by decide +kernel
theorem d_Layout_addConstant_36 : decode b_Layout_addConstant 36 = .ok (.iadd, 1) := by decide +kernel
theorem d_Layout_addConstant_37 : decode b_Layout_addConstant 37 = .ok (.invokevirtual 73, 3) := by decide +kernel
theorem d_Layout_addConstant_40 : decode b_Layout_addConstant 40 = .ok (.iastore, 1) := by decide +kernel
theorem d_Layout_addConstant_41 : decode b_Layout_addConstant 41 = .ok (.aload_n 0, 1) := by decide +kernel
theorem d_Layout_addConstant_42 : decode b_Layout_addConstant 42 = .ok (.getfield 35, 3) := by decide +kernel
theorem d_Layout_addConstant_45 : decode b_Layout_addConstant 45 = .ok (.iload_n 1, 1) := by decide +kernel
theorem d_Layout_addConstant_46 : decode b_Layout_addConstant 46 = .ok (.aload_n 0, 1) := by decide +kernel
theorem d_Layout_addConstant_47 : decode b_Layout_addConstant 47 = .ok (.getfield 12, 3) := by decide +kernel
theorem d_Layout_addConstant_50 : decode b_Layout_addConstant 50 = .ok (.iload_n 3, 1) := by decide +kernel
theorem d_Layout_addConstant_51 : decode b_Layout_addConstant 51 = .ok (.iconst 3, 1) := by decide +kernel
theorem d_Layout_addConstant_52 : decode b_Layout_addConstant 52 = .ok (.iadd, 1) := by decide +kernel
theorem d_Layout_addConstant_53 : decode b_Layout_addConstant 53 = .ok (.invokevirtual 73, 3) := by decide +kernel
theorem d_Layout_addConstant_56 : decode b_Layout_addConstant 56 = .ok (.iastore, 1) := by decide +kernel
theorem d_Layout_addConstant_57 : decode b_Layout_addConstant 57 = .ok (.return_, 1) := by decide +kernel
theorem d_Layout_addMember_0 : decode b_Layout_addMember 0 = .ok (.iload_n 1, 1) := by decide +kernel
theorem d_Layout_addMember_1 : decode b_Layout_addMember 1 = .ok (.ifCond .eq 35, 3) := by decide +kernel
theorem d_Layout_addMember_4 : decode b_Layout_addMember 4 = .ok (.aload_n 0, 1) := by decide +kernel
theorem d_Layout_addMember_5 : decode b_Layout_addMember 5 = .ok (.getfield 70, 3) := by decide +kernel
theorem d_Layout_addMember_8 : decode b_Layout_addMember 8 = .ok (.bipush 75, 2) := by decide +kernel
theorem d_Layout_addMember_10 : decode b_Layout_addMember 10 = .ok (.if_icmp .ge 26, 3) := by decide +kernel
theorem d_Layout_addMember_13 : decode b_Layout_addMember 13 = .ok (.aload_n 0, 1) := by decide +kernel
theorem d_Layout_addMember_14 : decode b_Layout_addMember 14 = .ok (.getfield 41, 3) := by decide +kernel
theorem d_Layout_addMember_17 : decode b_Layout_addMember 17 = .ok (.aload_n 0, 1) := by decide +kernel
theorem d_Layout_addMember_18 : decode b_Layout_addMember 18 = .ok (.getfield 70, 3) := by decide +kernel
theorem d_Layout_addMember_21 : decode b_Layout_addMember 21 = .ok (.iload_n 2, 1) := by decide +kernel
theorem d_Layout_addMember_22 : decode b_Layout_addMember 22 = .ok (.iastore, 1) := by decide +kernel
theorem d_Layout_addMember_23 : decode b_Layout_addMember 23 = .ok (.aload_n 0, 1) := by decide +kernel
theorem d_Layout_addMember_24 : decode b_Layout_addMember 24 = .ok (.dup, 1) := by decide +kernel
theorem d_Layout_addMember_25 : decode b_Layout_addMember 25 = .ok (.getfield 70, 3) := by decide +kernel
theorem d_Layout_addMember_28 : decode b_Layout_addMember 28 = .ok (.iconst 1, 1) := by decide +kernel
theorem d_Layout_addMember_29 : decode b_Layout_addMember 29 = .ok (.iadd, 1) := by decide +kernel
theorem d_Layout_addMember_30 : decode b_Layout_addMember 30 = .ok (.putfield 70, 3) := by decide +kernel
theorem d_Layout_addMember_33 : decode b_Layout_addMember 33 = .ok (.goto 36, 3) := by decide +kernel
theorem d_Layout_addMember_36 : decode b_Layout_addMember 36 = .ok (.iload_n 1, 1) := by decide +kernel
theorem d_Layout_addMember_37 : decode b_Layout_addMember 37 = .ok (.ifCond .ne 32, 3) := by decide +kernel
theorem d_Layout_addMember_40 : decode b_Layout_addMember 40 = .ok (.aload_n 0, 1) := by decide +kernel
theorem d_Layout_addMember_41 : decode b_Layout_addMember 41 = .ok (.getfield 67, 3) := by decide +kernel
theorem d_Layout_addMember_44 : decode b_Layout_addMember 44 = .ok (.bipush 75, 2) := by decide +kernel
theorem d_Layout_addMember_46 : decode b_Layout_addMember 46 = .ok (.if_icmp .ge 23, 3) := by decide +kernel
theorem d_Layout_addMember_49 : decode b_Layout_addMember 49 = .ok (.aload_n 0, 1) := by decide +kernel
theorem d_Layout_addMember_50 : decode b_Layout_addMember 50 = .ok (.getfield 38, 3) := by decide +kernel
theorem d_Layout_addMember_53 : decode b_Layout_addMember 53 = .ok (.aload_n 0, 1) := by decide +kernel
theorem d_Layout_addMember_54 : decode b_Layout_addMember 54 = .ok (.getfield 67, 3) := by decide +kernel
theorem d_Layout_addMember_57 : decode b_Layout_addMember 57 = .ok (.iload_n 2, 1) := by decide +kernel
theorem d_Layout_addMember_58 : decode b_Layout_addMember 58 = .ok (.iastore, 1) := by decide +kernel
theorem d_Layout_addMember_59 : decode b_Layout_addMember 59 = .ok (.aload_n 0, 1) := by decide +kernel
theorem d_Layout_addMember_60 : decode b_Layout_addMember 60 = .ok (.dup, 1) := by decide +kernel
theorem d_Layout_addMember_61 : decode b_Layout_addMember 61 = .ok (.getfield 67, 3) := by decide +kernel
theorem d_Layout_addMember_64 : decode b_Layout_addMember 64 = .ok (.iconst 1, 1) := by decide +kernel
theorem d_Layout_addMember_65 : decode b_Layout_addMember 65 = .ok (.iadd, 1) := by decide +kernel
theorem d_Layout_addMember_66 : decode b_Layout_addMember 66 = .ok (.putfield 67, 3) := by decide +kernel
theorem d_Layout_addMember_69 : decode b_Layout_addMember 69 = .ok (.return_, 1) := by decide +kernel
theorem d_Reader_passesNumbers_0 : decode b_Reader_passesNumbers 0 = .ok (.iconst 0, 1) := by decide +kernel
theorem d_Reader_passesNumbers_1 : decode b_Reader_passesNumbers 1 = .ok (.istore_n 3, 1) := by decide +kernel
theorem d_Reader_passesNumbers_2 : decode b_Reader_passesNumbers 2 = .ok (.iload_n 3, 1) := by decide +kernel
theorem d_Reader_passesNumbers_3 : decode b_Reader_passesNumbers 3 = .ok (.iload_n 1, 1) := by decide +kernel
theorem d_Reader_passesNumbers_4 : decode b_Reader_passesNumbers 4 = .ok (.if_icmp .ge 20, 3) := by decide +kernel
theorem d_Reader_passesNumbers_7 : decode b_Reader_passesNumbers 7 = .ok (.aload_n 0, 1) := by decide +kernel
theorem d_Reader_passesNumbers_8 : decode b_Reader_passesNumbers 8 = .ok (.iload_n 2, 1) := by decide +kernel
theorem d_Reader_passesNumbers_9 : decode b_Reader_passesNumbers 9 = .ok (.i2l, 1) := by decide +kernel
theorem d_Reader_passesNumbers_10 : decode b_Reader_passesNumbers 10 = .ok (.invokevirtual 63, 3) := by decide +kernel
theorem d_Reader_passesNumbers_13 : decode b_Reader_passesNumbers 13 = .ok (.ifCond .ne 5, 3) := by decide +kernel
theorem d_Reader_passesNumbers_16 : decode b_Reader_passesNumbers 16 = .ok (.iconst 0, 1) := by decide +kernel
theorem d_Reader_passesNumbers_17 : decode b_Reader_passesNumbers 17 = .ok (.ireturn, 1) := by decide +kernel
theorem d_Reader_passesNumbers_18 : decode b_Reader_passesNumbers 18 = .ok (.iinc 3 1, 3) := by decide +kernel
theorem d_Reader_passesNumbers_21 : decode b_Reader_passesNumbers 21 = .ok (.goto (-19), 3) := by decide +kernel
theorem d_Reader_passesNumbers_24 : decode b_Reader_passesNumbers 24 = .ok (.iconst 1, 1) := by decide +kernel
theorem d_Reader_passesNumbers_25 : decode b_Reader_passesNumbers 25 = .ok (.ireturn, 1) := by decide +kernel
