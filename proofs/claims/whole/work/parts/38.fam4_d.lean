theorem d_Reader_behindAttributesOfCode_0 : decode b_Reader_behindAttributesOfCode 0 = .ok (.aload_n 0, 1) := by decide +kernel
theorem d_Reader_behindAttributesOfCode_1 : decode b_Reader_behindAttributesOfCode 1 = .ok (.getfield 21, 3) := by decide +kernel
theorem d_Reader_behindAttributesOfCode_4 : decode b_Reader_behindAttributesOfCode 4 = .ok (.iload_n 1, 1) := by decide +kernel
theorem d_Reader_behindAttributesOfCode_5 : decode b_Reader_behindAttributesOfCode 5 = .ok (.invokevirtual 78, 3) := by decide +kernel
theorem d_Reader_behindAttributesOfCode_8 : decode b_Reader_behindAttributesOfCode 8 = .ok (.istore_n 2, 1) := by decide +kernel
theorem d_Reader_behindAttributesOfCode_9 : decode b_Reader_behindAttributesOfCode 9 = .ok (.iload_n 1, 1) := by decide +kernel
theorem d_Reader_behindAttributesOfCode_10 : decode b_Reader_behindAttributesOfCode 10 = .ok (.iconst 2, 1) := by decide +kernel
theorem d_Reader_behindAttributesOfCode_11 : decode b_Reader_behindAttributesOfCode 11 = .ok (.iadd, 1) := by decide +kernel
theorem d_Reader_behindAttributesOfCode_12 : decode b_Reader_behindAttributesOfCode 12 = .ok (.istore_n 3, 1) := by decide +kernel
theorem d_Reader_behindAttributesOfCode_13 : decode b_Reader_behindAttributesOfCode 13 = .ok (.iconst 0, 1) := by decide +kernel
theorem d_Reader_behindAttributesOfCode_14 : decode b_Reader_behindAttributesOfCode 14 = .ok (.istore 4, 2) := by decide +kernel
theorem d_Reader_behindAttributesOfCode_16 : decode b_Reader_behindAttributesOfCode 16 = .ok (.iload 4, 2) := by decide +kernel
theorem d_Reader_behindAttributesOfCode_18 : decode b_Reader_behindAttributesOfCode 18 = .ok (.iload_n 2, 1) := by decide +kernel
theorem d_Reader_behindAttributesOfCode_19 : decode b_Reader_behindAttributesOfCode 19 = .ok (.if_icmp .ge 107, 3) := by decide +kernel
theorem d_Reader_behindAttributesOfCode_22 : decode b_Reader_behindAttributesOfCode 22 = .ok (.iload_n 3, 1) := by decide +kernel
theorem d_Reader_behindAttributesOfCode_23 : decode b_Reader_behindAttributesOfCode 23 = .ok (.iconst 2, 1) := by decide +kernel
theorem d_Reader_behindAttributesOfCode_24 : decode b_Reader_behindAttributesOfCode 24 = .ok (.iadd, 1) := by decide +kernel
theorem d_Reader_behindAttributesOfCode_25 : decode b_Reader_behindAttributesOfCode 25 = .ok (.aload_n 0, 1) := by decide +kernel
theorem d_Reader_behindAttributesOfCode_26 : decode b_Reader_behindAttributesOfCode 26 = .ok (.getfield 26, 3) := by decide +kernel
theorem d_Reader_behindAttributesOfCode_29 : decode b_Reader_behindAttributesOfCode 29 = .ok (.if_icmp .le 5, 3) := by decide +kernel
theorem d_Reader_behindAttributesOfCode_32 : decode b_Reader_behindAttributesOfCode 32 = .ok (.iconst (-1), 1) := by decide +kernel
theorem d_Reader_behindAttributesOfCode_33 : decode b_Reader_behindAttributesOfCode 33 = .ok (.ireturn, 1) := by decide +kernel
theorem d_Reader_behindAttributesOfCode_34 : decode b_Reader_behindAttributesOfCode 34 = .ok (.aload_n 0, 1) := by decide +kernel
theorem d_Reader_behindAttributesOfCode_35 : decode b_Reader_behindAttributesOfCode 35 = .ok (.getfield 9, 3) := by decide +kernel
theorem d_Reader_behindAttributesOfCode_38 : decode b_Reader_behindAttributesOfCode 38 = .ok (.aload_n 0, 1) := by decide +kernel
theorem d_Reader_behindAttributesOfCode_39 : decode b_Reader_behindAttributesOfCode 39 = .ok (.getfield 21, 3) := by decide +kernel
theorem d_Reader_behindAttributesOfCode_42 : decode b_Reader_behindAttributesOfCode 42 = .ok (.iload_n 3, 1) := by decide +kernel
theorem d_Reader_behindAttributesOfCode_43 : decode b_Reader_behindAttributesOfCode 43 = .ok (.invokevirtual 78, 3) := by decide +kernel
theorem d_Reader_behindAttributesOfCode_46 : decode b_Reader_behindAttributesOfCode 46 = .ok (.invokevirtual 125, 3) := by decide +kernel
theorem d_Reader_behindAttributesOfCode_49 : decode b_Reader_behindAttributesOfCode 49 = .ok (.iconst 1, 1) := by decide +kernel
theorem d_Reader_behindAttributesOfCode_50 : decode b_Reader_behindAttributesOfCode 50 = .ok (.if_icmp .eq 16, 3) := by decide +kernel
theorem d_Reader_behindAttributesOfCode_53 : decode b_Reader_behindAttributesOfCode 53 = .ok (.aload_n 0, 1) := by decide +kernel
theorem d_Reader_behindAttributesOfCode_54 : decode b_Reader_behindAttributesOfCode 54 = .ok (.getfield 22, 3) := by decide +kernel
theorem d_Reader_behindAttributesOfCode_57 : decode b_Reader_behindAttributesOfCode 57 = .ok (.bipush 6, 2) := by decide +kernel
theorem d_Reader_behindAttributesOfCode_59 : decode b_Reader_behindAttributesOfCode 59 = .ok (.iload_n 3, 1) := by decide +kernel
theorem d_Reader_behindAttributesOfCode_60 : decode b_Reader_behindAttributesOfCode 60 = .ok (.invokevirtual 53, 3) := by decide +kernel
theorem d_Reader_behindAttributesOfCode_63 : decode b_Reader_behindAttributesOfCode 63 = .ok (.pop, 1) := by decide +kernel
theorem d_Reader_behindAttributesOfCode_64 : decode b_Reader_behindAttributesOfCode 64 = .ok (.iconst (-1), 1) := by decide +kernel
theorem d_Reader_behindAttributesOfCode_65 : decode b_Reader_behindAttributesOfCode 65 = .ok (.ireturn, 1) := by decide +kernel
theorem d_Reader_behindAttributesOfCode_66 : decode b_Reader_behindAttributesOfCode 66 = .ok (.iload_n 3, 1) := by decide +kernel
theorem d_Reader_behindAttributesOfCode_67 : decode b_Reader_behindAttributesOfCode 67 = .ok (.bipush 6, 2) := by decide +kernel
theorem d_Reader_behindAttributesOfCode_69 : decode b_Reader_behindAttributesOfCode 69 = .ok (.iadd, 1) := by decide +kernel
theorem d_Reader_behindAttributesOfCode_70 : decode b_Reader_behindAttributesOfCode 70 = .ok (.aload_n 0, 1) := by decide +kernel
theorem d_Reader_behindAttributesOfCode_71 : decode b_Reader_behindAttributesOfCode 71 = .ok (.getfield 26, 3) := by decide +kernel
theorem d_Reader_behindAttributesOfCode_74 : decode b_Reader_behindAttributesOfCode 74 = .ok (.if_icmp .gt 27, 3) := by decide +kernel
theorem d_Reader_behindAttributesOfCode_77 : decode b_Reader_behindAttributesOfCode 77 = .ok (.aload_n 0, 1) := by decide +kernel
theorem d_Reader_behindAttributesOfCode_78 : decode b_Reader_behindAttributesOfCode 78 = .ok (.getfield 21, 3) := by decide +kernel
theorem d_Reader_behindAttributesOfCode_81 : decode b_Reader_behindAttributesOfCode 81 = .ok (.iload_n 3, 1) := by decide +kernel
theorem d_Reader_behindAttributesOfCode_82 : decode b_Reader_behindAttributesOfCode 82 = .ok (.iconst 2, 1) := by decide +kernel
theorem d_Reader_behindAttributesOfCode_83 : decode b_Reader_behindAttributesOfCode 83 = .ok (.iadd, 1) := by decide +kernel
theorem d_Reader_behindAttributesOfCode_84 : decode b_Reader_behindAttributesOfCode 84 = .ok (.invokevirtual 69, 3) := by decide +kernel
theorem d_Reader_behindAttributesOfCode_87 : decode b_Reader_behindAttributesOfCode 87 = .ok (.aload_n 0, 1) := by decide +kernel
theorem d_Reader_behindAttributesOfCode_88 : decode b_Reader_behindAttributesOfCode 88 = .ok (.getfield 26, 3) := by decide +kernel
theorem d_Reader_behindAttributesOfCode_91 : decode b_Reader_behindAttributesOfCode 91 = .ok (.iload_n 3, 1) := by decide +kernel
theorem d_Reader_behindAttributesOfCode_92 : decode b_Reader_behindAttributesOfCode 92 = .ok (.isub, 1) := by decide +kernel
theorem d_Reader_behindAttributesOfCode_93 : decode b_Reader_behindAttributesOfCode 93 = .ok (.bipush 6, 2) := by decide +kernel
theorem d_Reader_behindAttributesOfCode_95 : decode b_Reader_behindAttributesOfCode 95 = .ok (.isub, 1) := by decide +kernel
theorem d_Reader_behindAttributesOfCode_96 : decode b_Reader_behindAttributesOfCode 96 = .ok (.i2l, 1) := by decide +kernel
theorem d_Reader_behindAttributesOfCode_97 : decode b_Reader_behindAttributesOfCode 97 = .ok (.lcmp, 1) := by decide +kernel
theorem d_Reader_behindAttributesOfCode_98 : decode b_Reader_behindAttributesOfCode 98 = .ok (.ifCond .le 5, 3) := by decide +kernel
theorem d_Reader_behindAttributesOfCode_101 : decode b_Reader_behindAttributesOfCode 101 = .ok (.iconst (-1), 1) := by decide +kernel
theorem d_Reader_behindAttributesOfCode_102 : decode b_Reader_behindAttributesOfCode 102 = .ok (.ireturn, 1) := by decide +kernel
theorem d_Reader_behindAttributesOfCode_103 : decode b_Reader_behindAttributesOfCode 103 = .ok (.iload_n 3, 1) := by decide +kernel
theorem d_Reader_behindAttributesOfCode_104 : decode b_Reader_behindAttributesOfCode 104 = .ok (.bipush 6, 2) := by decide +kernel
theorem d_Reader_behindAttributesOfCode_106 : decode b_Reader_behindAttributesOfCode 106 = .ok (.aload_n 0, 1) := by decide +kernel
theorem d_Reader_behindAttributesOfCode_107 : decode b_Reader_behindAttributesOfCode 107 = .ok (.getfield 21, 3) := by decide +kernel
theorem d_Reader_behindAttributesOfCode_110 : decode b_Reader_behindAttributesOfCode 110 = .ok (.iload_n 3, 1) := by decide +kernel
theorem d_Reader_behindAttributesOfCode_111 : decode b_Reader_behindAttributesOfCode 111 = .ok (.iconst 2, 1) := by decide +kernel
theorem d_Reader_behindAttributesOfCode_112 : decode b_Reader_behindAttributesOfCode 112 = .ok (.iadd, 1) := by decide +kernel
theorem d_Reader_behindAttributesOfCode_113 : decode b_Reader_behindAttributesOfCode 113 = .ok (.invokevirtual 69, 3) := by decide +kernel
theorem d_Reader_behindAttributesOfCode_116 : decode b_Reader_behindAttributesOfCode 116 = .ok (.l2i, 1) := by decide +kernel
theorem d_Reader_behindAttributesOfCode_117 : decode b_Reader_behindAttributesOfCode 117 = .ok (.iadd, 1) := by decide +kernel
theorem d_Reader_behindAttributesOfCode_118 : decode b_Reader_behindAttributesOfCode 118 = .ok (.iadd, 1) := by decide +kernel
theorem d_Reader_behindAttributesOfCode_119 : decode b_Reader_behindAttributesOfCode 119 = .ok (.istore_n 3, 1) := by decide +kernel
theorem d_Reader_behindAttributesOfCode_120 : decode b_Reader_behindAttributesOfCode 120 = .ok (.iinc 4 1, 3) := by decide +kernel
theorem d_Reader_behindAttributesOfCode_123 : decode b_Reader_behindAttributesOfCode 123 = .ok (.goto (-107), 3) := by decide +kernel
theorem d_Reader_behindAttributesOfCode_126 : decode b_Reader_behindAttributesOfCode 126 = .ok (.iload_n 3, 1) := by decide +kernel
theorem d_Reader_behindAttributesOfCode_127 : decode b_Reader_behindAttributesOfCode 127 = .ok (.ireturn, 1) := by decide +kernel
theorem d_Reader_readAttribute_0 : decode b_Reader_readAttribute 0 = .ok (.aload_n 0, 1) := by decide +kernel
theorem d_Reader_readAttribute_1 : decode b_Reader_readAttribute 1 = .ok (.getfield 26, 3) := by decide +kernel
theorem d_Reader_readAttribute_4 : decode b_Reader_readAttribute 4 = .ok (.istore_n 1, 1) := by decide +kernel
theorem d_Reader_readAttribute_5 : decode b_Reader_readAttribute 5 = .ok (.aload_n 0, 1) := by decide +kernel
theorem d_Reader_readAttribute_6 : decode b_Reader_readAttribute 6 = .ok (.ldc2_w 85, 3) := by decide +kernel
theorem d_Reader_readAttribute_9 : decode b_Reader_readAttribute 9 = .ok (.invokevirtual 63, 3) := by decide +kernel
theorem d_Reader_readAttribute_12 : decode b_Reader_readAttribute 12 = .ok (.ifCond .ne 5, 3) := by decide +kernel
theorem d_Reader_readAttribute_15 : decode b_Reader_readAttribute 15 = .ok (.iconst 0, 1) := by decide +kernel
theorem d_Reader_readAttribute_16 : decode b_Reader_readAttribute 16 = .ok (.ireturn, 1) := by decide +kernel
theorem d_Reader_readAttribute_17 : decode b_Reader_readAttribute 17 = .ok (.aload_n 0, 1) := by decide +kernel
theorem d_Reader_readAttribute_18 : decode b_Reader_readAttribute 18 = .ok (.getfield 9, 3) := by decide +kernel
theorem d_Reader_readAttribute_21 : decode b_Reader_readAttribute 21 = .ok (.aload_n 0, 1) := by decide +kernel
theorem d_Reader_readAttribute_22 : decode b_Reader_readAttribute 22 = .ok (.getfield 21, 3) := by decide +kernel
theorem d_Reader_readAttribute_25 : decode b_Reader_readAttribute 25 = .ok (.iload_n 1, 1) := by decide +kernel
theorem d_Reader_readAttribute_26 : decode b_Reader_readAttribute 26 = .ok (.invokevirtual 78, 3) := by decide +kernel
theorem d_Reader_readAttribute_29 : decode b_Reader_readAttribute 29 = .ok (.invokevirtual 125, 3) := by decide +kernel
theorem d_Reader_readAttribute_32 : decode b_Reader_readAttribute 32 = .ok (.iconst 1, 1) := by decide +kernel
theorem d_Reader_readAttribute_33 : decode b_Reader_readAttribute 33 = .ok (.if_icmp .eq 14, 3) := by decide +kernel
theorem d_Reader_readAttribute_36 : decode b_Reader_readAttribute 36 = .ok (.aload_n 0, 1) := by decide +kernel
theorem d_Reader_readAttribute_37 : decode b_Reader_readAttribute 37 = .ok (.getfield 22, 3) := by decide +kernel
theorem d_Reader_readAttribute_40 : decode b_Reader_readAttribute 40 = .ok (.bipush 6, 2) := by decide +kernel
theorem d_Reader_readAttribute_42 : decode b_Reader_readAttribute 42 = .ok (.iload_n 1, 1) := by decide +kernel
theorem d_Reader_readAttribute_43 : decode b_Reader_readAttribute 43 = .ok (.invokevirtual 53, 3) := by decide +kernel
theorem d_Reader_readAttribute_46 : decode b_Reader_readAttribute 46 = .ok (.ireturn, 1) := by decide +kernel
theorem d_Reader_readAttribute_47 : decode b_Reader_readAttribute 47 = .ok (.aload_n 0, 1) := by decide +kernel
theorem d_Reader_readAttribute_48 : decode b_Reader_readAttribute 48 = .ok (.ldc2_w 67, 3) := by decide +kernel
theorem d_Reader_readAttribute_51 : decode b_Reader_readAttribute 51 = .ok (.invokevirtual 63, 3) := by decide +kernel
theorem d_Reader_readAttribute_54 : decode b_Reader_readAttribute 54 = .ok (.ifCond .eq 24, 3) := by decide +kernel
theorem d_Reader_readAttribute_57 : decode b_Reader_readAttribute 57 = .ok (.aload_n 0, 1) := by decide +kernel
theorem d_Reader_readAttribute_58 : decode b_Reader_readAttribute 58 = .ok (.aload_n 0, 1) := by decide +kernel
theorem d_Reader_readAttribute_59 : decode b_Reader_readAttribute 59 = .ok (.getfield 21, 3) := by decide +kernel
theorem d_Reader_readAttribute_62 : decode b_Reader_readAttribute 62 = .ok (.iload_n 1, 1) := by decide +kernel
theorem d_Reader_readAttribute_63 : decode b_Reader_readAttribute 63 = .ok (.iconst 2, 1) := by decide +kernel
theorem d_Reader_readAttribute_64 : decode b_Reader_readAttribute 64 = .ok (.iadd, 1) := by decide +kernel
theorem d_Reader_readAttribute_65 : decode b_Reader_readAttribute 65 = .ok (.invokevirtual 69, 3) := by decide +kernel
theorem d_Reader_readAttribute_68 : decode b_Reader_readAttribute 68 = .ok (.invokevirtual 63, 3) := by decide +kernel
theorem d_Reader_readAttribute_71 : decode b_Reader_readAttribute 71 = .ok (.ifCond .eq 7, 3) := by decide +kernel
theorem d_Reader_readAttribute_74 : decode b_Reader_readAttribute 74 = .ok (.iconst 1, 1) := by decide +kernel
theorem d_Reader_readAttribute_75 : decode b_Reader_readAttribute 75 = .ok (.goto 4, 3) := by decide +kernel
theorem d_Reader_readAttribute_78 : decode b_Reader_readAttribute 78 = .ok (.iconst 0, 1) := by decide +kernel
theorem d_Reader_readAttribute_79 : decode b_Reader_readAttribute 79 = .ok (.ireturn, 1) := by decide +kernel
theorem d_Reader_readConstant_0 : decode b_Reader_readConstant 0 = .ok (.iload_n 1, 1) := by decide +kernel
theorem d_Reader_readConstant_1 : decode b_Reader_readConstant 1 = .ok (.tableswitch 98 1 12 #[63, 98, 68, 98, 76, 98, 83, 83, 91, 91, 98, 91], 63) := by decide +kernel
theorem d_Reader_readConstant_64 : decode b_Reader_readConstant 64 = .ok (.aload_n 0, 1) := by decide +kernel
theorem d_Reader_readConstant_65 : decode b_Reader_readConstant 65 = .ok (.invokevirtual 97, 3) := by decide +kernel
theorem d_Reader_readConstant_68 : decode b_Reader_readConstant 68 = .ok (.ireturn, 1) := by decide +kernel
theorem d_Reader_readConstant_69 : decode b_Reader_readConstant 69 = .ok (.aload_n 0, 1) := by decide +kernel
theorem d_Reader_readConstant_70 : decode b_Reader_readConstant 70 = .ok (.ldc2_w 67, 3) := by decide +kernel
theorem d_Reader_readConstant_73 : decode b_Reader_readConstant 73 = .ok (.invokevirtual 63, 3) := by decide +kernel
theorem d_Reader_readConstant_76 : decode b_Reader_readConstant 76 = .ok (.ireturn, 1) := by decide +kernel
theorem d_Reader_readConstant_77 : decode b_Reader_readConstant 77 = .ok (.aload_n 0, 1) := by decide +kernel
theorem d_Reader_readConstant_78 : decode b_Reader_readConstant 78 = .ok (.iconst 2, 1) := by decide +kernel
theorem d_Reader_readConstant_79 : decode b_Reader_readConstant 79 = .ok (.iconst 4, 1) := by decide +kernel
theorem d_Reader_readConstant_80 : decode b_Reader_readConstant 80 = .ok (.invokevirtual 75, 3) := by decide +kernel
theorem d_Reader_readConstant_83 : decode b_Reader_readConstant 83 = .ok (.ireturn, 1) := by decide +kernel
theorem d_Reader_readConstant_84 : decode b_Reader_readConstant 84 = .ok (.aload_n 0, 1) := by decide +kernel
theorem d_Reader_readConstant_85 : decode b_Reader_readConstant 85 = .ok (.ldc2_w 85, 3) := by decide +kernel
theorem d_Reader_readConstant_88 : decode b_Reader_readConstant 88 = .ok (.invokevirtual 63, 3) := by decide +kernel
theorem d_Reader_readConstant_91 : decode b_Reader_readConstant 91 = .ok (.ireturn, 1) := by decide +kernel
theorem d_Reader_readConstant_92 : decode b_Reader_readConstant 92 = .ok (.aload_n 0, 1) := by decide +kernel
theorem d_Reader_readConstant_93 : decode b_Reader_readConstant 93 = .ok (.iconst 2, 1) := by decide +kernel
theorem d_Reader_readConstant_94 : decode b_Reader_readConstant 94 = .ok (.iconst 2, 1) := by decide +kernel
theorem d_Reader_readConstant_95 : decode b_Reader_readConstant 95 = .ok (.invokevirtual 75, 3) := by decide +kernel
theorem d_Reader_readConstant_98 : decode b_Reader_readConstant 98 = .ok (.ireturn, 1) := by decide +kernel
theorem d_Reader_readConstant_99 : decode b_Reader_readConstant 99 = .ok (.aload_n 0, 1) := by decide +kernel
theorem d_Reader_readConstant_100 : decode b_Reader_readConstant 100 = .ok (.getfield 22, 3) := by decide +kernel
theorem d_Reader_readConstant_103 : decode b_Reader_readConstant 103 = .ok (.iconst 4, 1) := by decide +kernel
theorem d_Reader_readConstant_104 : decode b_Reader_readConstant 104 = .ok (.aload_n 0, 1) := by decide +kernel
theorem d_Reader_readConstant_105 : decode b_Reader_readConstant 105 = .ok (.getfield 26, 3) := by decide +kernel
theorem d_Reader_readConstant_108 : decode b_Reader_readConstant 108 = .ok (.iconst 1, 1) := by decide +kernel
theorem d_Reader_readConstant_109 : decode b_Reader_readConstant 109 = .ok (.isub, 1) := by decide +kernel
theorem d_Reader_readConstant_110 : decode b_Reader_readConstant 110 = .ok (.invokevirtual 53, 3) := by decide +kernel
theorem d_Reader_readConstant_113 : decode b_Reader_readConstant 113 = .ok (.ireturn, 1) := by decide +kernel
theorem d_Reader_readHead_12 : decode b_Reader_readHead 12 = .ok (.aload_n 0, 1) := by decide +kernel
theorem d_Reader_readHead_13 : decode b_Reader_readHead 13 = .ok (.getfield 21, 3) := by decide +kernel
theorem d_Reader_readHead_16 : decode b_Reader_readHead 16 = .ok (.iconst 0, 1) := by decide +kernel
theorem d_Reader_readHead_17 : decode b_Reader_readHead 17 = .ok (.invokevirtual 69, 3) := by decide +kernel
theorem d_Reader_readHead_20 : decode b_Reader_readHead 20 = .ok (.ldc2_w 73, 3) := by decide +kernel
theorem d_Reader_readHead_23 : decode b_Reader_readHead 23 = .ok (.lcmp, 1) := by decide +kernel
theorem d_Reader_readHead_24 : decode b_Reader_readHead 24 = .ok (.ifCond .eq 13, 3) := by decide +kernel
theorem d_Reader_readHead_27 : decode b_Reader_readHead 27 = .ok (.aload_n 0, 1) := by decide +kernel
theorem d_Reader_readHead_28 : decode b_Reader_readHead 28 = .ok (.getfield 22, 3) := by decide +kernel
theorem d_Reader_readHead_31 : decode b_Reader_readHead 31 = .ok (.iconst 2, 1) := by decide +kernel
theorem d_Reader_readHead_32 : decode b_Reader_readHead 32 = .ok (.iconst 0, 1) := by decide +kernel
theorem d_Reader_readHead_33 : decode b_Reader_readHead 33 = .ok (.invokevirtual 53, 3) := by decide +kernel
theorem d_Reader_readHead_36 : decode b_Reader_readHead 36 = .ok (.ireturn, 1) := by decide +kernel
theorem d_Reader_readHead_37 : decode b_Reader_readHead 37 = .ok (.aload_n 0, 1) := by decide +kernel
theorem d_Reader_readHead_38 : decode b_Reader_readHead 38 = .ok (.iconst 2, 1) := by decide +kernel
theorem d_Reader_readHead_39 : decode b_Reader_readHead 39 = .ok (.iconst 2, 1) := by decide +kernel
theorem d_Reader_readHead_40 : decode b_Reader_readHead 40 = .ok (.invokevirtual 75, 3) := by decide +kernel
theorem d_Reader_readHead_43 : decode b_Reader_readHead 43 = .ok (.ifCond .ne 5, 3) := by decide +kernel
theorem d_Reader_readHead_46 : decode b_Reader_readHead 46 = .ok (.iconst 0, 1) := by decide +kernel
theorem d_Reader_readHead_47 : decode b_Reader_readHead 47 = .ok (.ireturn, 1) := by decide +kernel
theorem d_Reader_readHead_48 : decode b_Reader_readHead 48 = .ok (.aload_n 0, 1) := by decide +kernel
theorem d_Reader_readHead_49 : decode b_Reader_readHead 49 = .ok (.getfield 21, 3) := by decide +kernel
theorem d_Reader_readHead_52 : decode b_Reader_readHead 52 = .ok (.bipush 6, 2) := by decide +kernel
theorem d_Reader_readHead_54 : decode b_Reader_readHead 54 = .ok (.invokevirtual 78, 3) := by decide +kernel
theorem d_Reader_readHead_57 : decode b_Reader_readHead 57 = .ok (.istore_n 1, 1) := by decide +kernel
theorem d_Reader_readHead_58 : decode b_Reader_readHead 58 = .ok (.iload_n 1, 1) := by decide +kernel
theorem d_Reader_readHead_59 : decode b_Reader_readHead 59 = .ok (.bipush 45, 2) := by decide +kernel
theorem d_Reader_readHead_61 : decode b_Reader_readHead 61 = .ok (.if_icmp .lt 9, 3) := by decide +kernel
theorem d_Reader_readHead_64 : decode b_Reader_readHead 64 = .ok (.iload_n 1, 1) := by decide +kernel
theorem d_Reader_readHead_65 : decode b_Reader_readHead 65 = .ok (.bipush 65, 2) := by decide +kernel
theorem d_Reader_readHead_67 : decode b_Reader_readHead 67 = .ok (.if_icmp .le 14, 3) := by decide +kernel
theorem d_Reader_readHead_70 : decode b_Reader_readHead 70 = .ok (.aload_n 0, 1) := by decide +kernel
theorem d_Reader_readHead_71 : decode b_Reader_readHead 71 = .ok (.getfield 22, 3) := by decide +kernel
theorem d_Reader_readHead_74 : decode b_Reader_readHead 74 = .ok (.iconst 3, 1) := by decide +kernel
theorem d_Reader_readHead_75 : decode b_Reader_readHead 75 = .ok (.bipush 6, 2) := by decide +kernel
theorem d_Reader_readHead_77 : decode b_Reader_readHead 77 = .ok (.invokevirtual 53, 3) := by decide +kernel
theorem d_Reader_readHead_80 : decode b_Reader_readHead 80 = .ok (.ireturn, 1) := by decide +kernel
theorem d_Reader_readHead_81 : decode b_Reader_readHead 81 = .ok (.aload_n 0, 1) := by decide +kernel
theorem d_Reader_readHead_82 : decode b_Reader_readHead 82 = .ok (.getfield 9, 3) := by decide +kernel
theorem d_Reader_readHead_85 : decode b_Reader_readHead 85 = .ok (.aload_n 0, 1) := by decide +kernel
theorem d_Reader_readHead_86 : decode b_Reader_readHead 86 = .ok (.getfield 21, 3) := by decide +kernel
theorem d_Reader_readHead_89 : decode b_Reader_readHead 89 = .ok (.bipush 8, 2) := by decide +kernel
theorem d_Reader_readHead_91 : decode b_Reader_readHead 91 = .ok (.invokevirtual 78, 3) := by decide +kernel
theorem d_Reader_readHead_94 : decode b_Reader_readHead 94 = .ok (.putfield 82, 3) := by decide +kernel
theorem d_Reader_readHead_97 : decode b_Reader_readHead 97 = .ok (.aload_n 0, 1) := by decide +kernel
theorem d_Reader_readHead_98 : decode b_Reader_readHead 98 = .ok (.ldc2_w 85, 3) := by decide +kernel
theorem d_Reader_readHead_101 : decode b_Reader_readHead 101 = .ok (.invokevirtual 63, 3) := by decide +kernel
theorem d_Reader_readHead_104 : decode b_Reader_readHead 104 = .ok (.ireturn, 1) := by decide +kernel
theorem d_Reader_readText_0 : decode b_Reader_readText 0 = .ok (.aload_n 0, 1) := by decide +kernel
theorem d_Reader_readText_1 : decode b_Reader_readText 1 = .ok (.getfield 21, 3) := by decide +kernel
theorem d_Reader_readText_4 : decode b_Reader_readText 4 = .ok (.aload_n 0, 1) := by decide +kernel
theorem d_Reader_readText_5 : decode b_Reader_readText 5 = .ok (.getfield 26, 3) := by decide +kernel
theorem d_Reader_readText_8 : decode b_Reader_readText 8 = .ok (.invokevirtual 78, 3) := by decide +kernel
theorem d_Reader_readText_11 : decode b_Reader_readText 11 = .ok (.istore_n 1, 1) := by decide +kernel
theorem d_Reader_readText_12 : decode b_Reader_readText 12 = .ok (.aload_n 0, 1) := by decide +kernel
theorem d_Reader_readText_13 : decode b_Reader_readText 13 = .ok (.ldc2_w 85, 3) := by decide +kernel
theorem d_Reader_readText_16 : decode b_Reader_readText 16 = .ok (.invokevirtual 63, 3) := by decide +kernel
theorem d_Reader_readText_19 : decode b_Reader_readText 19 = .ok (.ifCond .ne 5, 3) := by decide +kernel
theorem d_Reader_readText_22 : decode b_Reader_readText 22 = .ok (.iconst 0, 1) := by decide +kernel
theorem d_Reader_readText_23 : decode b_Reader_readText 23 = .ok (.ireturn, 1) := by decide +kernel
theorem d_Reader_readText_24 : decode b_Reader_readText 24 = .ok (.aload_n 0, 1) := by decide +kernel
theorem d_Reader_readText_25 : decode b_Reader_readText 25 = .ok (.getfield 26, 3) := by decide +kernel
theorem d_Reader_readText_28 : decode b_Reader_readText 28 = .ok (.istore_n 2, 1) := by decide +kernel
theorem d_Reader_readText_29 : decode b_Reader_readText 29 = .ok (.aload_n 0, 1) := by decide +kernel
theorem d_Reader_readText_30 : decode b_Reader_readText 30 = .ok (.iload_n 1, 1) := by decide +kernel
theorem d_Reader_readText_31 : decode b_Reader_readText 31 = .ok (.i2l, 1) := by decide +kernel
theorem d_Reader_readText_32 : decode b_Reader_readText 32 = .ok (.invokevirtual 63, 3) := by decide +kernel
theorem d_Reader_readText_35 : decode b_Reader_readText 35 = .ok (.ifCond .ne 5, 3) := by decide +kernel
theorem d_Reader_readText_38 : decode b_Reader_readText 38 = .ok (.iconst 0, 1) := by decide +kernel
theorem d_Reader_readText_39 : decode b_Reader_readText 39 = .ok (.ireturn, 1) := by decide +kernel
theorem d_Reader_readText_40 : decode b_Reader_readText 40 = .ok (.iload_n 2, 1) := by decide +kernel
theorem d_Reader_readText_41 : decode b_Reader_readText 41 = .ok (.istore_n 3, 1) := by decide +kernel
theorem d_Reader_readText_42 : decode b_Reader_readText 42 = .ok (.iload_n 3, 1) := by decide +kernel
theorem d_Reader_readText_43 : decode b_Reader_readText 43 = .ok (.aload_n 0, 1) := by decide +kernel
theorem d_Reader_readText_44 : decode b_Reader_readText 44 = .ok (.getfield 26, 3) := by decide +kernel
theorem d_Reader_readText_47 : decode b_Reader_readText 47 = .ok (.if_icmp .ge 42, 3) := by decide +kernel
theorem d_Reader_readText_50 : decode b_Reader_readText 50 = .ok (.aload_n 0, 1) := by decide +kernel
theorem d_Reader_readText_51 : decode b_Reader_readText 51 = .ok (.getfield 21, 3) := by decide +kernel
theorem d_Reader_readText_54 : decode b_Reader_readText 54 = .ok (.iload_n 3, 1) := by decide +kernel
theorem d_Reader_readText_55 : decode b_Reader_readText 55 = .ok (.invokevirtual 87, 3) := by decide +kernel
theorem d_Reader_readText_58 : decode b_Reader_readText 58 = .ok (.istore 4, 2) := by decide +kernel
theorem d_Reader_readText_60 : decode b_Reader_readText 60 = .ok (.iload 4, 2) := by decide +kernel
theorem d_Reader_readText_62 : decode b_Reader_readText 62 = .ok (.iconst 1, 1) := by decide +kernel
theorem d_Reader_readText_63 : decode b_Reader_readText 63 = .ok (.if_icmp .lt 10, 3) := by decide +kernel
theorem d_Reader_readText_66 : decode b_Reader_readText 66 = .ok (.iload 4, 2) := by decide +kernel
theorem d_Reader_readText_68 : decode b_Reader_readText 68 = .ok (.bipush 127, 2) := by decide +kernel
theorem d_Reader_readText_70 : decode b_Reader_readText 70 = .ok (.if_icmp .le 13, 3) := by decide +kernel
theorem d_Reader_readText_73 : decode b_Reader_readText 73 = .ok (.aload_n 0, 1) := by decide +kernel
theorem d_Reader_readText_74 : decode b_Reader_readText 74 = .ok (.getfield 22, 3) := by decide +kernel
theorem d_Reader_readText_77 : decode b_Reader_readText 77 = .ok (.iconst 5, 1) := by decide +kernel
theorem d_Reader_readText_78 : decode b_Reader_readText 78 = .ok (.iload_n 3, 1) := by decide +kernel
theorem d_Reader_readText_79 : decode b_Reader_readText 79 = .ok (.invokevirtual 53, 3) := by decide +kernel
theorem d_Reader_readText_82 : decode b_Reader_readText 82 = .ok (.ireturn, 1) := by decide +kernel
theorem d_Reader_readText_83 : decode b_Reader_readText 83 = .ok (.iinc 3 1, 3) := by decide +kernel
theorem d_Reader_readText_86 : decode b_Reader_readText 86 = .ok (.goto (-44), 3) := by decide +kernel
theorem d_Reader_readText_89 : decode b_Reader_readText 89 = .ok (.iconst 1, 1) := by decide +kernel
theorem d_Reader_readText_90 : decode b_Reader_readText 90 = .ok (.ireturn, 1) := by decide +kernel
