theorem d_Mod_checkHandlers_0 : decode b_Mod_checkHandlers 0 = .ok (.aload_n 0, 1) := by decide +kernel
theorem d_Mod_checkHandlers_1 : decode b_Mod_checkHandlers 1 = .ok (.getfield 77, 3) := by decide +kernel
theorem d_Mod_checkHandlers_4 : decode b_Mod_checkHandlers 4 = .ok (.iload_n 1, 1) := by decide +kernel
theorem d_Mod_checkHandlers_5 : decode b_Mod_checkHandlers 5 = .ok (.iaload, 1) := by decide +kernel
theorem d_Mod_checkHandlers_6 : decode b_Mod_checkHandlers 6 = .ok (.istore_n 2, 1) := by decide +kernel
theorem d_Mod_checkHandlers_7 : decode b_Mod_checkHandlers 7 = .ok (.iload_n 2, 1) := by decide +kernel
theorem d_Mod_checkHandlers_8 : decode b_Mod_checkHandlers 8 = .ok (.aload_n 0, 1) := by decide +kernel
theorem d_Mod_checkHandlers_9 : decode b_Mod_checkHandlers 9 = .ok (.getfield 80, 3) := by decide +kernel
theorem d_Mod_checkHandlers_12 : decode b_Mod_checkHandlers 12 = .ok (.iload_n 1, 1) := by decide +kernel
theorem d_Mod_checkHandlers_13 : decode b_Mod_checkHandlers 13 = .ok (.iaload, 1) := by decide +kernel
theorem d_Mod_checkHandlers_14 : decode b_Mod_checkHandlers 14 = .ok (.if_icmp .ge 137, 3) := by decide +kernel
theorem d_Mod_checkHandlers_17 : decode b_Mod_checkHandlers 17 = .ok (.aload_n 0, 1) := by decide +kernel
theorem d_Mod_checkHandlers_18 : decode b_Mod_checkHandlers 18 = .ok (.getfield 147, 3) := by decide +kernel
theorem d_Mod_checkHandlers_21 : decode b_Mod_checkHandlers 21 = .ok (.ifCond .ne 130, 3) := by decide +kernel
theorem d_Mod_checkHandlers_24 : decode b_Mod_checkHandlers 24 = .ok (.aload_n 0, 1) := by decide +kernel
theorem d_Mod_checkHandlers_25 : decode b_Mod_checkHandlers 25 = .ok (.getfield 83, 3) := by decide +kernel
theorem d_Mod_checkHandlers_28 : decode b_Mod_checkHandlers 28 = .ok (.iload_n 2, 1) := by decide +kernel
theorem d_Mod_checkHandlers_29 : decode b_Mod_checkHandlers 29 = .ok (.iaload, 1) := by decide +kernel
theorem d_Mod_checkHandlers_30 : decode b_Mod_checkHandlers 30 = .ok (.istore_n 3, 1) := by decide +kernel
theorem d_Mod_checkHandlers_31 : decode b_Mod_checkHandlers 31 = .ok (.aload_n 0, 1) := by decide +kernel
theorem d_Mod_checkHandlers_32 : decode b_Mod_checkHandlers 32 = .ok (.iload_n 3, 1) := by decide +kernel
theorem d_Mod_checkHandlers_33 : decode b_Mod_checkHandlers 33 = .ok (.invokevirtual 294, 3) := by decide +kernel
theorem d_Mod_checkHandlers_36 : decode b_Mod_checkHandlers 36 = .ok (.istore 4, 2) := by decide +kernel
theorem d_Mod_checkHandlers_38 : decode b_Mod_checkHandlers 38 = .ok (.aload_n 0, 1) := by decide +kernel
theorem d_Mod_checkHandlers_39 : decode b_Mod_checkHandlers 39 = .ok (.iload_n 3, 1) := by decide +kernel
theorem d_Mod_checkHandlers_40 : decode b_Mod_checkHandlers 40 = .ok (.iconst 2, 1) := by decide +kernel
theorem d_Mod_checkHandlers_41 : decode b_Mod_checkHandlers 41 = .ok (.iadd, 1) := by decide +kernel
theorem d_Mod_checkHandlers_42 : decode b_Mod_checkHandlers 42 = .ok (.invokevirtual 294, 3) := by decide +kernel
theorem d_Mod_checkHandlers_45 : decode b_Mod_checkHandlers 45 = .ok (.istore 5, 2) := by decide +kernel
theorem d_Mod_checkHandlers_47 : decode b_Mod_checkHandlers 47 = .ok (.iload 4, 2) := by decide +kernel
theorem d_Mod_checkHandlers_49 : decode b_Mod_checkHandlers 49 = .ok (.iload 5, 2) := by decide +kernel
theorem d_Mod_checkHandlers_51 : decode b_Mod_checkHandlers 51 = .ok (.if_icmp .ge 53, 3) := by decide +kernel
theorem d_Mod_checkHandlers_54 : decode b_Mod_checkHandlers 54 = .ok (.aload_n 0, 1) := by decide +kernel
theorem d_Mod_checkHandlers_55 : decode b_Mod_checkHandlers 55 = .ok (.iload_n 1, 1) := by decide +kernel
theorem d_Mod_checkHandlers_56 : decode b_Mod_checkHandlers 56 = .ok (.iload 4, 2) := by decide +kernel
theorem d_Mod_checkHandlers_58 : decode b_Mod_checkHandlers 58 = .ok (.invokevirtual 297, 3) := by decide +kernel
theorem d_Mod_checkHandlers_61 : decode b_Mod_checkHandlers 61 = .ok (.ifCond .eq 43, 3) := by decide +kernel
theorem d_Mod_checkHandlers_64 : decode b_Mod_checkHandlers 64 = .ok (.aload_n 0, 1) := by decide +kernel
theorem d_Mod_checkHandlers_65 : decode b_Mod_checkHandlers 65 = .ok (.iload_n 1, 1) := by decide +kernel
theorem d_Mod_checkHandlers_66 : decode b_Mod_checkHandlers 66 = .ok (.aload_n 0, 1) := by decide +kernel
theorem d_Mod_checkHandlers_67 : decode b_Mod_checkHandlers 67 = .ok (.iload_n 3, 1) := by decide +kernel
theorem d_Mod_checkHandlers_68 : decode b_Mod_checkHandlers 68 = .ok (.iconst 4, 1) := by decide +kernel
theorem d_Mod_checkHandlers_69 : decode b_Mod_checkHandlers 69 = .ok (.iadd, 1) := by decide +kernel
theorem d_Mod_checkHandlers_70 : decode b_Mod_checkHandlers 70 = .ok (.invokevirtual 294, 3) := by decide +kernel
theorem d_Mod_checkHandlers_73 : decode b_Mod_checkHandlers 73 = .ok (.invokevirtual 297, 3) := by decide +kernel
theorem d_Mod_checkHandlers_76 : decode b_Mod_checkHandlers 76 = .ok (.ifCond .eq 28, 3) := by decide +kernel
theorem d_Mod_checkHandlers_79 : decode b_Mod_checkHandlers 79 = .ok (.iload 5, 2) := by decide +kernel
theorem d_Mod_checkHandlers_81 : decode b_Mod_checkHandlers 81 = .ok (.aload_n 0, 1) := by decide +kernel
theorem d_Mod_checkHandlers_82 : decode b_Mod_checkHandlers 82 = .ok (.getfield 74, 3) := by decide +kernel
theorem d_Mod_checkHandlers_85 : decode b_Mod_checkHandlers 85 = .ok (.iload_n 1, 1) := by decide +kernel
theorem d_Mod_checkHandlers_86 : decode b_Mod_checkHandlers 86 = .ok (.iaload, 1) := by decide +kernel
theorem d_Mod_checkHandlers_87 : decode b_Mod_checkHandlers 87 = .ok (.if_icmp .eq 13, 3) := by decide +kernel
theorem d_Mod_checkHandlers_90 : decode b_Mod_checkHandlers 90 = .ok (.aload_n 0, 1) := by decide +kernel
theorem d_Mod_checkHandlers_91 : decode b_Mod_checkHandlers 91 = .ok (.iload_n 1, 1) := by decide +kernel
theorem d_Mod_checkHandlers_92 : decode b_Mod_checkHandlers 92 = .ok (.iload 5, 2) := by decide +kernel
theorem d_Mod_checkHandlers_94 : decode b_Mod_checkHandlers 94 = .ok (.invokevirtual 297, 3) := by decide +kernel
theorem d_Mod_checkHandlers_97 : decode b_Mod_checkHandlers 97 = .ok (.ifCond .eq 7, 3) := by decide +kernel
theorem d_Mod_checkHandlers_100 : decode b_Mod_checkHandlers 100 = .ok (.iconst 1, 1) := by decide +kernel
theorem d_Mod_checkHandlers_101 : decode b_Mod_checkHandlers 101 = .ok (.goto 4, 3) := by decide +kernel
theorem d_Mod_checkHandlers_104 : decode b_Mod_checkHandlers 104 = .ok (.iconst 0, 1) := by decide +kernel
theorem d_Mod_checkHandlers_105 : decode b_Mod_checkHandlers 105 = .ok (.istore 6, 2) := by decide +kernel
theorem d_Mod_checkHandlers_107 : decode b_Mod_checkHandlers 107 = .ok (.aload_n 0, 1) := by decide +kernel
theorem d_Mod_checkHandlers_108 : decode b_Mod_checkHandlers 108 = .ok (.iload_n 3, 1) := by decide +kernel
theorem d_Mod_checkHandlers_109 : decode b_Mod_checkHandlers 109 = .ok (.bipush 6, 2) := by decide +kernel
theorem d_Mod_checkHandlers_111 : decode b_Mod_checkHandlers 111 = .ok (.iadd, 1) := by decide +kernel
theorem d_Mod_checkHandlers_112 : decode b_Mod_checkHandlers 112 = .ok (.invokevirtual 294, 3) := by decide +kernel
theorem d_Mod_checkHandlers_115 : decode b_Mod_checkHandlers 115 = .ok (.istore 7, 2) := by decide +kernel
theorem d_Mod_checkHandlers_117 : decode b_Mod_checkHandlers 117 = .ok (.iload 6, 2) := by decide +kernel
theorem d_Mod_checkHandlers_119 : decode b_Mod_checkHandlers 119 = .ok (.ifCond .eq 19, 3) := by decide +kernel
theorem d_Mod_checkHandlers_122 : decode b_Mod_checkHandlers 122 = .ok (.iload 7, 2) := by decide +kernel
theorem d_Mod_checkHandlers_124 : decode b_Mod_checkHandlers 124 = .ok (.ifCond .eq 21, 3) := by decide +kernel
theorem d_Mod_checkHandlers_127 : decode b_Mod_checkHandlers 127 = .ok (.aload_n 0, 1) := by decide +kernel
theorem d_Mod_checkHandlers_128 : decode b_Mod_checkHandlers 128 = .ok (.iload 7, 2) := by decide +kernel
theorem d_Mod_checkHandlers_130 : decode b_Mod_checkHandlers 130 = .ok (.bipush 7, 2) := by decide +kernel
theorem d_Mod_checkHandlers_132 : decode b_Mod_checkHandlers 132 = .ok (.invokevirtual 184, 3) := by decide +kernel
theorem d_Mod_checkHandlers_135 : decode b_Mod_checkHandlers 135 = .ok (.ifCond .ne 10, 3) := by decide +kernel
theorem d_Mod_checkHandlers_138 : decode b_Mod_checkHandlers 138 = .ok (.aload_n 0, 1) := by decide +kernel
theorem d_Mod_checkHandlers_139 : decode b_Mod_checkHandlers 139 = .ok (.bipush 20, 2) := by decide +kernel
theorem d_Mod_checkHandlers_141 : decode b_Mod_checkHandlers 141 = .ok (.iload_n 3, 1) := by decide +kernel
theorem d_Mod_checkHandlers_142 : decode b_Mod_checkHandlers 142 = .ok (.invokevirtual 159, 3) := by decide +kernel
theorem d_Mod_checkHandlers_145 : decode b_Mod_checkHandlers 145 = .ok (.iinc 2 1, 3) := by decide +kernel
theorem d_Mod_checkHandlers_148 : decode b_Mod_checkHandlers 148 = .ok (.goto (-141), 3) := by decide +kernel
theorem d_Mod_checkHandlers_151 : decode b_Mod_checkHandlers 151 = .ok (.return_, 1) := by decide +kernel
theorem d_Mod_readTypes_0 : decode b_Mod_readTypes 0 = .ok (.aload_n 0, 1) := by decide +kernel
theorem d_Mod_readTypes_1 : decode b_Mod_readTypes 1 = .ok (.iconst 0, 1) := by decide +kernel
theorem d_Mod_readTypes_2 : decode b_Mod_readTypes 2 = .ok (.putfield 300, 3) := by decide +kernel
theorem d_Mod_readTypes_5 : decode b_Mod_readTypes 5 = .ok (.aload_n 0, 1) := by decide +kernel
theorem d_Mod_readTypes_6 : decode b_Mod_readTypes 6 = .ok (.iload_n 1, 1) := by decide +kernel
theorem d_Mod_readTypes_7 : decode b_Mod_readTypes 7 = .ok (.invokevirtual 254, 3) := by decide +kernel
theorem d_Mod_readTypes_10 : decode b_Mod_readTypes 10 = .ok (.istore_n 2, 1) := by decide +kernel
theorem d_Mod_readTypes_11 : decode b_Mod_readTypes 11 = .ok (.aload_n 0, 1) := by decide +kernel
theorem d_Mod_readTypes_12 : decode b_Mod_readTypes 12 = .ok (.getfield 38, 3) := by decide +kernel
theorem d_Mod_readTypes_15 : decode b_Mod_readTypes 15 = .ok (.iload_n 1, 1) := by decide +kernel
theorem d_Mod_readTypes_16 : decode b_Mod_readTypes 16 = .ok (.iaload, 1) := by decide +kernel
theorem d_Mod_readTypes_17 : decode b_Mod_readTypes 17 = .ok (.iconst 1, 1) := by decide +kernel
theorem d_Mod_readTypes_18 : decode b_Mod_readTypes 18 = .ok (.iadd, 1) := by decide +kernel
theorem d_Mod_readTypes_19 : decode b_Mod_readTypes 19 = .ok (.istore_n 3, 1) := by decide +kernel
theorem d_Mod_readTypes_20 : decode b_Mod_readTypes 20 = .ok (.aload_n 0, 1) := by decide +kernel
theorem d_Mod_readTypes_21 : decode b_Mod_readTypes 21 = .ok (.getfield 7, 3) := by decide +kernel
theorem d_Mod_readTypes_24 : decode b_Mod_readTypes 24 = .ok (.iload_n 3, 1) := by decide +kernel
theorem d_Mod_readTypes_25 : decode b_Mod_readTypes 25 = .ok (.iaload, 1) := by decide +kernel
theorem d_Mod_readTypes_26 : decode b_Mod_readTypes 26 = .ok (.bipush 41, 2) := by decide +kernel
theorem d_Mod_readTypes_28 : decode b_Mod_readTypes 28 = .ok (.if_icmp .eq 37, 3) := by decide +kernel
theorem d_Mod_readTypes_31 : decode b_Mod_readTypes 31 = .ok (.aload_n 0, 1) := by decide +kernel
theorem d_Mod_readTypes_32 : decode b_Mod_readTypes 32 = .ok (.getfield 106, 3) := by decide +kernel
theorem d_Mod_readTypes_35 : decode b_Mod_readTypes 35 = .ok (.aload_n 0, 1) := by decide +kernel
theorem d_Mod_readTypes_36 : decode b_Mod_readTypes 36 = .ok (.getfield 300, 3) := by decide +kernel
theorem d_Mod_readTypes_39 : decode b_Mod_readTypes 39 = .ok (.aload_n 0, 1) := by decide +kernel
theorem d_Mod_readTypes_40 : decode b_Mod_readTypes 40 = .ok (.iload_n 3, 1) := by decide +kernel
theorem d_Mod_readTypes_41 : decode b_Mod_readTypes 41 = .ok (.invokevirtual 303, 3) := by decide +kernel
theorem d_Mod_readTypes_44 : decode b_Mod_readTypes 44 = .ok (.iastore, 1) := by decide +kernel
theorem d_Mod_readTypes_45 : decode b_Mod_readTypes 45 = .ok (.aload_n 0, 1) := by decide +kernel
theorem d_Mod_readTypes_46 : decode b_Mod_readTypes 46 = .ok (.dup, 1) := by decide +kernel
theorem d_Mod_readTypes_47 : decode b_Mod_readTypes 47 = .ok (.getfield 300, 3) := by decide +kernel
theorem d_Mod_readTypes_50 : decode b_Mod_readTypes 50 = .ok (.iconst 1, 1) := by decide +kernel
theorem d_Mod_readTypes_51 : decode b_Mod_readTypes 51 = .ok (.iadd, 1) := by decide +kernel
theorem d_Mod_readTypes_52 : decode b_Mod_readTypes 52 = .ok (.putfield 300, 3) := by decide +kernel
theorem d_Mod_readTypes_55 : decode b_Mod_readTypes 55 = .ok (.aload_n 0, 1) := by decide +kernel
theorem d_Mod_readTypes_56 : decode b_Mod_readTypes 56 = .ok (.iload_n 3, 1) := by decide +kernel
theorem d_Mod_readTypes_57 : decode b_Mod_readTypes 57 = .ok (.iload_n 2, 1) := by decide +kernel
theorem d_Mod_readTypes_58 : decode b_Mod_readTypes 58 = .ok (.invokevirtual 247, 3) := by decide +kernel
theorem d_Mod_readTypes_61 : decode b_Mod_readTypes 61 = .ok (.istore_n 3, 1) := by decide +kernel
theorem d_Mod_readTypes_62 : decode b_Mod_readTypes 62 = .ok (.goto (-42), 3) := by decide +kernel
theorem d_Mod_readTypes_65 : decode b_Mod_readTypes 65 = .ok (.aload_n 0, 1) := by decide +kernel
theorem d_Mod_readTypes_66 : decode b_Mod_readTypes 66 = .ok (.aload_n 0, 1) := by decide +kernel
theorem d_Mod_readTypes_67 : decode b_Mod_readTypes 67 = .ok (.iload_n 3, 1) := by decide +kernel
theorem d_Mod_readTypes_68 : decode b_Mod_readTypes 68 = .ok (.iconst 1, 1) := by decide +kernel
theorem d_Mod_readTypes_69 : decode b_Mod_readTypes 69 = .ok (.iadd, 1) := by decide +kernel
theorem d_Mod_readTypes_70 : decode b_Mod_readTypes 70 = .ok (.invokevirtual 303, 3) := by decide +kernel
theorem d_Mod_readTypes_73 : decode b_Mod_readTypes 73 = .ok (.putfield 306, 3) := by decide +kernel
theorem d_Mod_readTypes_76 : decode b_Mod_readTypes 76 = .ok (.return_, 1) := by decide +kernel
