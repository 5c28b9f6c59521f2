theorem d_Mod_isTag_0 : decode b_Mod_isTag 0 = .ok (.iload_n 1, 1) := by decide +kernel
theorem d_Mod_isTag_1 : decode b_Mod_isTag 1 = .ok (.ifCond .le 25, 3) := by decide +kernel
theorem d_Mod_isTag_4 : decode b_Mod_isTag 4 = .ok (.iload_n 1, 1) := by decide +kernel
theorem d_Mod_isTag_5 : decode b_Mod_isTag 5 = .ok (.aload_n 0, 1) := by decide +kernel
theorem d_Mod_isTag_6 : decode b_Mod_isTag 6 = .ok (.getfield 169, 3) := by decide +kernel
theorem d_Mod_isTag_9 : decode b_Mod_isTag 9 = .ok (.if_icmp .ge 17, 3) := by decide +kernel
theorem d_Mod_isTag_12 : decode b_Mod_isTag 12 = .ok (.aload_n 0, 1) := by decide +kernel
theorem d_Mod_isTag_13 : decode b_Mod_isTag 13 = .ok (.getfield 32, 3) := by decide +kernel
theorem d_Mod_isTag_16 : decode b_Mod_isTag 16 = .ok (.iload_n 1, 1) := by decide +kernel
theorem d_Mod_isTag_17 : decode b_Mod_isTag 17 = .ok (.iaload, 1) := by decide +kernel
theorem d_Mod_isTag_18 : decode b_Mod_isTag 18 = .ok (.iload_n 2, 1) := by decide +kernel
theorem d_Mod_isTag_19 : decode b_Mod_isTag 19 = .ok (.if_icmp .ne 7, 3) := by decide +kernel
theorem d_Mod_isTag_22 : decode b_Mod_isTag 22 = .ok (.iconst 1, 1) := by decide +kernel
theorem d_Mod_isTag_23 : decode b_Mod_isTag 23 = .ok (.goto 4, 3) := by decide +kernel
theorem d_Mod_isTag_26 : decode b_Mod_isTag 26 = .ok (.iconst 0, 1) := by decide +kernel
theorem d_Mod_isTag_27 : decode b_Mod_isTag 27 = .ok (.ireturn, 1) := by decide +kernel
theorem d_Mod_number_30 : decode b_Mod_number 30 = .ok (.bipush 8, 2) := by decide +kernel
theorem d_Mod_number_32 : decode b_Mod_number 32 = .ok (.goto 4, 3) := by decide +kernel
theorem d_Mod_number_43 : decode b_Mod_number 43 = .ok (.aload_n 0, 1) := by decide +kernel
theorem d_Mod_number_44 : decode b_Mod_number 44 = .ok (.getfield 156, 3) := by decide +kernel
theorem d_Mod_number_47 : decode b_Mod_number 47 = .ok (.goto 7, 3) := by decide +kernel
theorem d_Mod_number_59 : decode b_Mod_number 59 = .ok (.lconst 0, 1) := by decide +kernel
theorem d_Mod_number_60 : decode b_Mod_number 60 = .ok (.lstore_n 2, 1) := by decide +kernel
theorem d_Mod_number_61 : decode b_Mod_number 61 = .ok (.iconst 0, 1) := by decide +kernel
theorem d_Mod_number_62 : decode b_Mod_number 62 = .ok (.istore 4, 2) := by decide +kernel
theorem d_Mod_number_64 : decode b_Mod_number 64 = .ok (.iload 4, 2) := by decide +kernel
theorem d_Mod_number_66 : decode b_Mod_number 66 = .ok (.iload_n 1, 1) := by decide +kernel
theorem d_Mod_number_67 : decode b_Mod_number 67 = .ok (.if_icmp .ge 36, 3) := by decide +kernel
theorem d_Mod_number_70 : decode b_Mod_number 70 = .ok (.ldc2_w 163, 3) := by decide +kernel
theorem d_Mod_number_73 : decode b_Mod_number 73 = .ok (.lload_n 2, 1) := by decide +kernel
theorem d_Mod_number_74 : decode b_Mod_number 74 = .ok (.lmul, 1) := by decide +kernel
theorem d_Mod_number_75 : decode b_Mod_number 75 = .ok (.aload_n 0, 1) := by decide +kernel
theorem d_Mod_number_76 : decode b_Mod_number 76 = .ok (.getfield 7, 3) := by decide +kernel
theorem d_Mod_number_79 : decode b_Mod_number 79 = .ok (.aload_n 0, 1) := by decide +kernel
theorem d_Mod_number_80 : decode b_Mod_number 80 = .ok (.getfield 150, 3) := by decide +kernel
theorem d_Mod_number_83 : decode b_Mod_number 83 = .ok (.iaload, 1) := by decide +kernel
theorem d_Mod_number_84 : decode b_Mod_number 84 = .ok (.i2l, 1) := by decide +kernel
theorem d_Mod_number_85 : decode b_Mod_number 85 = .ok (.ladd, 1) := by decide +kernel
theorem d_Mod_number_86 : decode b_Mod_number 86 = .ok (.lstore_n 2, 1) := by decide +kernel
theorem d_Mod_number_87 : decode b_Mod_number 87 = .ok (.aload_n 0, 1) := by decide +kernel
theorem d_Mod_number_88 : decode b_Mod_number 88 = .ok (.dup, 1) := by decide +kernel
theorem d_Mod_number_89 : decode b_Mod_number 89 = .ok (.getfield 150, 3) := by decide +kernel
theorem d_Mod_number_92 : decode b_Mod_number 92 = .ok (.iconst 1, 1) := by decide +kernel
theorem d_Mod_number_93 : decode b_Mod_number 93 = .ok (.iadd, 1) := by decide +kernel
theorem d_Mod_number_94 : decode b_Mod_number 94 = .ok (.putfield 150, 3) := by decide +kernel
theorem d_Mod_number_97 : decode b_Mod_number 97 = .ok (.iinc 4 1, 3) := by decide +kernel
theorem d_Mod_number_100 : decode b_Mod_number 100 = .ok (.goto (-36), 3) := by decide +kernel
theorem d_Mod_number_103 : decode b_Mod_number 103 = .ok (.lload_n 2, 1) := by decide +kernel
theorem d_Mod_number_104 : decode b_Mod_number 104 = .ok (.lreturn, 1) := by decide +kernel
theorem d_Mod_skip_0 : decode b_Mod_skip 0 = .ok (.aload_n 0, 1) := by decide +kernel
theorem d_Mod_skip_1 : decode b_Mod_skip 1 = .ok (.getfield 150, 3) := by decide +kernel
theorem d_Mod_skip_4 : decode b_Mod_skip 4 = .ok (.istore_n 3, 1) := by decide +kernel
theorem d_Mod_skip_5 : decode b_Mod_skip 5 = .ok (.aload_n 0, 1) := by decide +kernel
theorem d_Mod_skip_6 : decode b_Mod_skip 6 = .ok (.getfield 147, 3) := by decide +kernel
theorem d_Mod_skip_9 : decode b_Mod_skip 9 = .ok (.ifCond .ne 53, 3) := by decide +kernel
theorem d_Mod_skip_12 : decode b_Mod_skip 12 = .ok (.lload_n 1, 1) := by decide +kernel
theorem d_Mod_skip_13 : decode b_Mod_skip 13 = .ok (.aload_n 0, 1) := by decide +kernel
theorem d_Mod_skip_14 : decode b_Mod_skip 14 = .ok (.getfield 153, 3) := by decide +kernel
theorem d_Mod_skip_17 : decode b_Mod_skip 17 = .ok (.aload_n 0, 1) := by decide +kernel
theorem d_Mod_skip_18 : decode b_Mod_skip 18 = .ok (.getfield 150, 3) := by decide +kernel
theorem d_Mod_skip_21 : decode b_Mod_skip 21 = .ok (.isub, 1) := by decide +kernel
theorem d_Mod_skip_22 : decode b_Mod_skip 22 = .ok (.i2l, 1) := by decide +kernel
theorem d_Mod_skip_23 : decode b_Mod_skip 23 = .ok (.lcmp, 1) := by decide +kernel
theorem d_Mod_skip_24 : decode b_Mod_skip 24 = .ok (.ifCond .le 38, 3) := by decide +kernel
theorem d_Mod_skip_27 : decode b_Mod_skip 27 = .ok (.aload_n 0, 1) := by decide +kernel
theorem d_Mod_skip_28 : decode b_Mod_skip 28 = .ok (.aload_n 0, 1) := by decide +kernel
theorem d_Mod_skip_29 : decode b_Mod_skip 29 = .ok (.getfield 156, 3) := by decide +kernel
theorem d_Mod_skip_32 : decode b_Mod_skip 32 = .ok (.ifCond .le 8, 3) := by decide +kernel
theorem d_Mod_skip_35 : decode b_Mod_skip 35 = .ok (.bipush 8, 2) := by decide +kernel
theorem d_Mod_skip_37 : decode b_Mod_skip 37 = .ok (.goto 4, 3) := by decide +kernel
theorem d_Mod_skip_40 : decode b_Mod_skip 40 = .ok (.iconst 1, 1) := by decide +kernel
theorem d_Mod_skip_41 : decode b_Mod_skip 41 = .ok (.aload_n 0, 1) := by decide +kernel
theorem d_Mod_skip_42 : decode b_Mod_skip 42 = .ok (.getfield 156, 3) := by decide +kernel
theorem d_Mod_skip_45 : decode b_Mod_skip 45 = .ok (.ifCond .le 10, 3) := by decide +kernel
theorem d_Mod_skip_48 : decode b_Mod_skip 48 = .ok (.aload_n 0, 1) := by decide +kernel
theorem d_Mod_skip_49 : decode b_Mod_skip 49 = .ok (.getfield 156, 3) := by decide +kernel
theorem d_Mod_skip_52 : decode b_Mod_skip 52 = .ok (.goto 7, 3) := by decide +kernel
theorem d_Mod_skip_55 : decode b_Mod_skip 55 = .ok (.aload_n 0, 1) := by decide +kernel
theorem d_Mod_skip_56 : decode b_Mod_skip 56 = .ok (.getfield 150, 3) := by decide +kernel
theorem d_Mod_skip_59 : decode b_Mod_skip 59 = .ok (.invokevirtual 159, 3) := by decide +kernel
theorem d_Mod_skip_62 : decode b_Mod_skip 62 = .ok (.aload_n 0, 1) := by decide +kernel
theorem d_Mod_skip_63 : decode b_Mod_skip 63 = .ok (.aload_n 0, 1) := by decide +kernel
theorem d_Mod_skip_64 : decode b_Mod_skip 64 = .ok (.getfield 147, 3) := by decide +kernel
theorem d_Mod_skip_67 : decode b_Mod_skip 67 = .ok (.ifCond .ne 13, 3) := by decide +kernel
theorem d_Mod_skip_70 : decode b_Mod_skip 70 = .ok (.aload_n 0, 1) := by decide +kernel
theorem d_Mod_skip_71 : decode b_Mod_skip 71 = .ok (.getfield 150, 3) := by decide +kernel
theorem d_Mod_skip_74 : decode b_Mod_skip 74 = .ok (.lload_n 1, 1) := by decide +kernel
theorem d_Mod_skip_75 : decode b_Mod_skip 75 = .ok (.l2i, 1) := by decide +kernel
theorem d_Mod_skip_76 : decode b_Mod_skip 76 = .ok (.iadd, 1) := by decide +kernel
theorem d_Mod_skip_77 : decode b_Mod_skip 77 = .ok (.goto 7, 3) := by decide +kernel
theorem d_Mod_skip_80 : decode b_Mod_skip 80 = .ok (.aload_n 0, 1) := by decide +kernel
theorem d_Mod_skip_81 : decode b_Mod_skip 81 = .ok (.getfield 150, 3) := by decide +kernel
theorem d_Mod_skip_84 : decode b_Mod_skip 84 = .ok (.putfield 150, 3) := by decide +kernel
theorem d_Mod_skip_87 : decode b_Mod_skip 87 = .ok (.iload_n 3, 1) := by decide +kernel
theorem d_Mod_skip_88 : decode b_Mod_skip 88 = .ok (.ireturn, 1) := by decide +kernel
