theorem d_Mod_endOf_0 : decode b_Mod_endOf 0 = .ok (.aload_n 0, 1) := by decide +kernel
theorem d_Mod_endOf_1 : decode b_Mod_endOf 1 = .ok (.getfield 38, 3) := by decide +kernel
theorem d_Mod_endOf_4 : decode b_Mod_endOf 4 = .ok (.iload_n 1, 1) := by decide +kernel
theorem d_Mod_endOf_5 : decode b_Mod_endOf 5 = .ok (.iaload, 1) := by decide +kernel
theorem d_Mod_endOf_6 : decode b_Mod_endOf 6 = .ok (.aload_n 0, 1) := by decide +kernel
theorem d_Mod_endOf_7 : decode b_Mod_endOf 7 = .ok (.getfield 41, 3) := by decide +kernel
theorem d_Mod_endOf_10 : decode b_Mod_endOf 10 = .ok (.iload_n 1, 1) := by decide +kernel
theorem d_Mod_endOf_11 : decode b_Mod_endOf 11 = .ok (.iaload, 1) := by decide +kernel
theorem d_Mod_endOf_12 : decode b_Mod_endOf 12 = .ok (.iadd, 1) := by decide +kernel
theorem d_Mod_endOf_13 : decode b_Mod_endOf 13 = .ok (.ireturn, 1) := by decide +kernel
theorem d_Mod_isClassInit_0 : decode b_Mod_isClassInit 0 = .ok (.aload_n 0, 1) := by decide +kernel
theorem d_Mod_isClassInit_1 : decode b_Mod_isClassInit 1 = .ok (.getfield 38, 3) := by decide +kernel
theorem d_Mod_isClassInit_4 : decode b_Mod_isClassInit 4 = .ok (.iload_n 1, 1) := by decide +kernel
theorem d_Mod_isClassInit_5 : decode b_Mod_isClassInit 5 = .ok (.iaload, 1) := by decide +kernel
theorem d_Mod_isClassInit_6 : decode b_Mod_isClassInit 6 = .ok (.istore_n 2, 1) := by decide +kernel
theorem d_Mod_isClassInit_7 : decode b_Mod_isClassInit 7 = .ok (.aload_n 0, 1) := by decide +kernel
theorem d_Mod_isClassInit_8 : decode b_Mod_isClassInit 8 = .ok (.getfield 41, 3) := by decide +kernel
theorem d_Mod_isClassInit_11 : decode b_Mod_isClassInit 11 = .ok (.iload_n 1, 1) := by decide +kernel
theorem d_Mod_isClassInit_12 : decode b_Mod_isClassInit 12 = .ok (.iaload, 1) := by decide +kernel
theorem d_Mod_isClassInit_13 : decode b_Mod_isClassInit 13 = .ok (.bipush 8, 2) := by decide +kernel
theorem d_Mod_isClassInit_15 : decode b_Mod_isClassInit 15 = .ok (.if_icmp .ne 111, 3) := by decide +kernel
theorem d_Mod_isClassInit_18 : decode b_Mod_isClassInit 18 = .ok (.aload_n 0, 1) := by decide +kernel
theorem d_Mod_isClassInit_19 : decode b_Mod_isClassInit 19 = .ok (.getfield 7, 3) := by decide +kernel
theorem d_Mod_isClassInit_22 : decode b_Mod_isClassInit 22 = .ok (.iload_n 2, 1) := by decide +kernel
theorem d_Mod_isClassInit_23 : decode b_Mod_isClassInit 23 = .ok (.iaload, 1) := by decide +kernel
theorem d_Mod_isClassInit_24 : decode b_Mod_isClassInit 24 = .ok (.bipush 60, 2) := by decide +kernel
theorem d_Mod_isClassInit_26 : decode b_Mod_isClassInit 26 = .ok (.if_icmp .ne 100, 3) := by decide +kernel
theorem d_Mod_isClassInit_29 : decode b_Mod_isClassInit 29 = .ok (.aload_n 0, 1) := by decide +kernel
theorem d_Mod_isClassInit_30 : decode b_Mod_isClassInit 30 = .ok (.getfield 7, 3) := by decide +kernel
theorem d_Mod_isClassInit_33 : decode b_Mod_isClassInit 33 = .ok (.iload_n 2, 1) := by decide +kernel
theorem d_Mod_isClassInit_34 : decode b_Mod_isClassInit 34 = .ok (.iconst 1, 1) := by decide +kernel
theorem d_Mod_isClassInit_35 : decode b_Mod_isClassInit 35 = .ok (.iadd, 1) := by decide +kernel
theorem d_Mod_isClassInit_36 : decode b_Mod_isClassInit 36 = .ok (.iaload, 1) := by decide +kernel
theorem d_Mod_isClassInit_37 : decode b_Mod_isClassInit 37 = .ok (.bipush 99, 2) := by decide +kernel
theorem d_Mod_isClassInit_39 : decode b_Mod_isClassInit 39 = .ok (.if_icmp .ne 87, 3) := by decide +kernel
theorem d_Mod_isClassInit_42 : decode b_Mod_isClassInit 42 = .ok (.aload_n 0, 1) := by decide +kernel
theorem d_Mod_isClassInit_43 : decode b_Mod_isClassInit 43 = .ok (.getfield 7, 3) := by decide +kernel
theorem d_Mod_isClassInit_46 : decode b_Mod_isClassInit 46 = .ok (.iload_n 2, 1) := by decide +kernel
theorem d_Mod_isClassInit_47 : decode b_Mod_isClassInit 47 = .ok (.iconst 2, 1) := by decide +kernel
theorem d_Mod_isClassInit_48 : decode b_Mod_isClassInit 48 = .ok (.iadd, 1) := by decide +kernel
theorem d_Mod_isClassInit_49 : decode b_Mod_isClassInit 49 = .ok (.iaload, 1) := by decide +kernel
theorem d_Mod_isClassInit_50 : decode b_Mod_isClassInit 50 = .ok (.bipush 108, 2) := by decide +kernel
theorem d_Mod_isClassInit_52 : decode b_Mod_isClassInit 52 = .ok (.if_icmp .ne 74, 3) := by decide +kernel
theorem d_Mod_isClassInit_55 : decode b_Mod_isClassInit 55 = .ok (.aload_n 0, 1) := by decide +kernel
theorem d_Mod_isClassInit_56 : decode b_Mod_isClassInit 56 = .ok (.getfield 7, 3) := by decide +kernel
theorem d_Mod_isClassInit_59 : decode b_Mod_isClassInit 59 = .ok (.iload_n 2, 1) := by decide +kernel
theorem d_Mod_isClassInit_60 : decode b_Mod_isClassInit 60 = .ok (.iconst 3, 1) := by decide +kernel
theorem d_Mod_isClassInit_61 : decode b_Mod_isClassInit 61 = .ok (.iadd, 1) := by decide +kernel
theorem d_Mod_isClassInit_62 : decode b_Mod_isClassInit 62 = .ok (.iaload, 1) := by decide +kernel
theorem d_Mod_isClassInit_63 : decode b_Mod_isClassInit 63 = .ok (.bipush 105, 2) := by decide +kernel
theorem d_Mod_isClassInit_65 : decode b_Mod_isClassInit 65 = .ok (.if_icmp .ne 61, 3) := by decide +kernel
theorem d_Mod_isClassInit_68 : decode b_Mod_isClassInit 68 = .ok (.aload_n 0, 1) := by decide +kernel
theorem d_Mod_isClassInit_69 : decode b_Mod_isClassInit 69 = .ok (.getfield 7, 3) := by decide +kernel
theorem d_Mod_isClassInit_72 : decode b_Mod_isClassInit 72 = .ok (.iload_n 2, 1) := by decide +kernel
theorem d_Mod_isClassInit_73 : decode b_Mod_isClassInit 73 = .ok (.iconst 4, 1) := by decide +kernel
theorem d_Mod_isClassInit_74 : decode b_Mod_isClassInit 74 = .ok (.iadd, 1) := by decide +kernel
theorem d_Mod_isClassInit_75 : decode b_Mod_isClassInit 75 = .ok (.iaload, 1) := by decide +kernel
theorem d_Mod_isClassInit_76 : decode b_Mod_isClassInit 76 = .ok (.bipush 110, 2) := by decide +kernel
theorem d_Mod_isClassInit_78 : decode b_Mod_isClassInit 78 = .ok (.if_icmp .ne 48, 3) := by decide +kernel
theorem d_Mod_isClassInit_81 : decode b_Mod_isClassInit 81 = .ok (.aload_n 0, 1) := by decide +kernel
theorem d_Mod_isClassInit_82 : decode b_Mod_isClassInit 82 = .ok (.getfield 7, 3) := by decide +kernel
theorem d_Mod_isClassInit_85 : decode b_Mod_isClassInit 85 = .ok (.iload_n 2, 1) := by decide +kernel
theorem d_Mod_isClassInit_86 : decode b_Mod_isClassInit 86 = .ok (.iconst 5, 1) := by decide +kernel
theorem d_Mod_isClassInit_87 : decode b_Mod_isClassInit 87 = .ok (.iadd, 1) := by decide +kernel
theorem d_Mod_isClassInit_88 : decode b_Mod_isClassInit 88 = .ok (.iaload, 1) := by decide +kernel
theorem d_Mod_isClassInit_89 : decode b_Mod_isClassInit 89 = .ok (.bipush 105, 2) := by decide +kernel
theorem d_Mod_isClassInit_91 : decode b_Mod_isClassInit 91 = .ok (.if_icmp .ne 35, 3) := by decide +kernel
theorem d_Mod_isClassInit_94 : decode b_Mod_isClassInit 94 = .ok (.aload_n 0, 1) := by decide +kernel
theorem d_Mod_isClassInit_95 : decode b_Mod_isClassInit 95 = .ok (.getfield 7, 3) := by decide +kernel
theorem d_Mod_isClassInit_98 : decode b_Mod_isClassInit 98 = .ok (.iload_n 2, 1) := by decide +kernel
theorem d_Mod_isClassInit_99 : decode b_Mod_isClassInit 99 = .ok (.bipush 6, 2) := by decide +kernel
theorem d_Mod_isClassInit_101 : decode b_Mod_isClassInit 101 = .ok (.iadd, 1) := by decide +kernel
theorem d_Mod_isClassInit_102 : decode b_Mod_isClassInit 102 = .ok (.iaload, 1) := by decide +kernel
theorem d_Mod_isClassInit_103 : decode b_Mod_isClassInit 103 = .ok (.bipush 116, 2) := by decide +kernel
theorem d_Mod_isClassInit_105 : decode b_Mod_isClassInit 105 = .ok (.if_icmp .ne 21, 3) := by decide +kernel
theorem d_Mod_isClassInit_108 : decode b_Mod_isClassInit 108 = .ok (.aload_n 0, 1) := by decide +kernel
theorem d_Mod_isClassInit_109 : decode b_Mod_isClassInit 109 = .ok (.getfield 7, 3) := by decide +kernel
theorem d_Mod_isClassInit_112 : decode b_Mod_isClassInit 112 = .ok (.iload_n 2, 1) := by decide +kernel
theorem d_Mod_isClassInit_113 : decode b_Mod_isClassInit 113 = .ok (.bipush 7, 2) := by decide +kernel
theorem d_Mod_isClassInit_115 : decode b_Mod_isClassInit 115 = .ok (.iadd, 1) := by decide +kernel
theorem d_Mod_isClassInit_116 : decode b_Mod_isClassInit 116 = .ok (.iaload, 1) := by decide +kernel
theorem d_Mod_isClassInit_117 : decode b_Mod_isClassInit 117 = .ok (.bipush 62, 2) := by decide +kernel
theorem d_Mod_isClassInit_119 : decode b_Mod_isClassInit 119 = .ok (.if_icmp .ne 7, 3) := by decide +kernel
theorem d_Mod_isClassInit_122 : decode b_Mod_isClassInit 122 = .ok (.iconst 1, 1) := by decide +kernel
theorem d_Mod_isClassInit_123 : decode b_Mod_isClassInit 123 = .ok (.goto 4, 3) := by decide +kernel
theorem d_Mod_isClassInit_126 : decode b_Mod_isClassInit 126 = .ok (.iconst 0, 1) := by decide +kernel
theorem d_Mod_isClassInit_127 : decode b_Mod_isClassInit 127 = .ok (.ireturn, 1) := by decide +kernel
theorem d_Mod_isInit_0 : decode b_Mod_isInit 0 = .ok (.aload_n 0, 1) := by decide +kernel
theorem d_Mod_isInit_1 : decode b_Mod_isInit 1 = .ok (.getfield 38, 3) := by decide +kernel
theorem d_Mod_isInit_4 : decode b_Mod_isInit 4 = .ok (.iload_n 1, 1) := by decide +kernel
theorem d_Mod_isInit_5 : decode b_Mod_isInit 5 = .ok (.iaload, 1) := by decide +kernel
theorem d_Mod_isInit_6 : decode b_Mod_isInit 6 = .ok (.istore_n 2, 1) := by decide +kernel
theorem d_Mod_isInit_7 : decode b_Mod_isInit 7 = .ok (.aload_n 0, 1) := by decide +kernel
theorem d_Mod_isInit_8 : decode b_Mod_isInit 8 = .ok (.getfield 41, 3) := by decide +kernel
theorem d_Mod_isInit_11 : decode b_Mod_isInit 11 = .ok (.iload_n 1, 1) := by decide +kernel
theorem d_Mod_isInit_12 : decode b_Mod_isInit 12 = .ok (.iaload, 1) := by decide +kernel
theorem d_Mod_isInit_13 : decode b_Mod_isInit 13 = .ok (.bipush 6, 2) := by decide +kernel
theorem d_Mod_isInit_15 : decode b_Mod_isInit 15 = .ok (.if_icmp .ne 83, 3) := by decide +kernel
theorem d_Mod_isInit_18 : decode b_Mod_isInit 18 = .ok (.aload_n 0, 1) := by decide +kernel
theorem d_Mod_isInit_19 : decode b_Mod_isInit 19 = .ok (.getfield 7, 3) := by decide +kernel
theorem d_Mod_isInit_22 : decode b_Mod_isInit 22 = .ok (.iload_n 2, 1) := by decide +kernel
theorem d_Mod_isInit_23 : decode b_Mod_isInit 23 = .ok (.iaload, 1) := by decide +kernel
theorem d_Mod_isInit_24 : decode b_Mod_isInit 24 = .ok (.bipush 60, 2) := by decide +kernel
theorem d_Mod_isInit_26 : decode b_Mod_isInit 26 = .ok (.if_icmp .ne 72, 3) := by decide +kernel
theorem d_Mod_isInit_29 : decode b_Mod_isInit 29 = .ok (.aload_n 0, 1) := by decide +kernel
theorem d_Mod_isInit_30 : decode b_Mod_isInit 30 = .ok (.getfield 7, 3) := by decide +kernel
theorem d_Mod_isInit_33 : decode b_Mod_isInit 33 = .ok (.iload_n 2, 1) := by decide +kernel
theorem d_Mod_isInit_34 : decode b_Mod_isInit 34 = .ok (.iconst 1, 1) := by decide +kernel
theorem d_Mod_isInit_35 : decode b_Mod_isInit 35 = .ok (.iadd, 1) := by decide +kernel
theorem d_Mod_isInit_36 : decode b_Mod_isInit 36 = .ok (.iaload, 1) := by decide +kernel
theorem d_Mod_isInit_37 : decode b_Mod_isInit 37 = .ok (.bipush 105, 2) := by decide +kernel
theorem d_Mod_isInit_39 : decode b_Mod_isInit 39 = .ok (.if_icmp .ne 59, 3) := by decide +kernel
theorem d_Mod_isInit_42 : decode b_Mod_isInit 42 = .ok (.aload_n 0, 1) := by decide +kernel
theorem d_Mod_isInit_43 : decode b_Mod_isInit 43 = .ok (.getfield 7, 3) := by decide +kernel
theorem d_Mod_isInit_46 : decode b_Mod_isInit 46 = .ok (.iload_n 2, 1) := by decide +kernel
theorem d_Mod_isInit_47 : decode b_Mod_isInit 47 = .ok (.iconst 2, 1) := by decide +kernel
theorem d_Mod_isInit_48 : decode b_Mod_isInit 48 = .ok (.iadd, 1) := by decide +kernel
theorem d_Mod_isInit_49 : decode b_Mod_isInit 49 = .ok (.iaload, 1) := by decide +kernel
theorem d_Mod_isInit_50 : decode b_Mod_isInit 50 = .ok (.bipush 110, 2) := by decide +kernel
theorem d_Mod_isInit_52 : decode b_Mod_isInit 52 = .ok (.if_icmp .ne 46, 3) := by decide +kernel
theorem d_Mod_isInit_55 : decode b_Mod_isInit 55 = .ok (.aload_n 0, 1) := by decide +kernel
theorem d_Mod_isInit_56 : decode b_Mod_isInit 56 = .ok (.getfield 7, 3) := by decide +kernel
theorem d_Mod_isInit_59 : decode b_Mod_isInit 59 = .ok (.iload_n 2, 1) := by decide +kernel
theorem d_Mod_isInit_60 : decode b_Mod_isInit 60 = .ok (.iconst 3, 1) := by decide +kernel
theorem d_Mod_isInit_61 : decode b_Mod_isInit 61 = .ok (.iadd, 1) := by decide +kernel
theorem d_Mod_isInit_62 : decode b_Mod_isInit 62 = .ok (.iaload, 1) := by decide +kernel
theorem d_Mod_isInit_63 : decode b_Mod_isInit 63 = .ok (.bipush 105, 2) := by decide +kernel
theorem d_Mod_isInit_65 : decode b_Mod_isInit 65 = .ok (.if_icmp .ne 33, 3) := by decide +kernel
theorem d_Mod_isInit_68 : decode b_Mod_isInit 68 = .ok (.aload_n 0, 1) := by decide +kernel
theorem d_Mod_isInit_69 : decode b_Mod_isInit 69 = .ok (.getfield 7, 3) := by decide +kernel
theorem d_Mod_isInit_72 : decode b_Mod_isInit 72 = .ok (.iload_n 2, 1) := by decide +kernel
theorem d_Mod_isInit_73 : decode b_Mod_isInit 73 = .ok (.iconst 4, 1) := by decide +kernel
theorem d_Mod_isInit_74 : decode b_Mod_isInit 74 = .ok (.iadd, 1) := by decide +kernel
theorem d_Mod_isInit_75 : decode b_Mod_isInit 75 = .ok (.iaload, 1) := by decide +kernel
theorem d_Mod_isInit_76 : decode b_Mod_isInit 76 = .ok (.bipush 116, 2) := by decide +kernel
theorem d_Mod_isInit_78 : decode b_Mod_isInit 78 = .ok (.if_icmp .ne 20, 3) := by decide +kernel
theorem d_Mod_isInit_81 : decode b_Mod_isInit 81 = .ok (.aload_n 0, 1) := by decide +kernel
theorem d_Mod_isInit_82 : decode b_Mod_isInit 82 = .ok (.getfield 7, 3) := by decide +kernel
theorem d_Mod_isInit_85 : decode b_Mod_isInit 85 = .ok (.iload_n 2, 1) := by decide +kernel
theorem d_Mod_isInit_86 : decode b_Mod_isInit 86 = .ok (.iconst 5, 1) := by decide +kernel
theorem d_Mod_isInit_87 : decode b_Mod_isInit 87 = .ok (.iadd, 1) := by decide +kernel
theorem d_Mod_isInit_88 : decode b_Mod_isInit 88 = .ok (.iaload, 1) := by decide +kernel
theorem d_Mod_isInit_89 : decode b_Mod_isInit 89 = .ok (.bipush 62, 2) := by decide +kernel
theorem d_Mod_isInit_91 : decode b_Mod_isInit 91 = .ok (.if_icmp .ne 7, 3) := by decide +kernel
theorem d_Mod_isInit_94 : decode b_Mod_isInit 94 = .ok (.iconst 1, 1) := by decide +kernel
theorem d_Mod_isInit_95 : decode b_Mod_isInit 95 = .ok (.goto 4, 3) := by decide +kernel
theorem d_Mod_isInit_98 : decode b_Mod_isInit 98 = .ok (.iconst 0, 1) := by decide +kernel
theorem d_Mod_isInit_99 : decode b_Mod_isInit 99 = .ok (.ireturn, 1) := by decide +kernel
theorem d_Mod_sameTexts_0 : decode b_Mod_sameTexts 0 = .ok (.aload_n 0, 1) := by decide +kernel
theorem d_Mod_sameTexts_1 : decode b_Mod_sameTexts 1 = .ok (.getfield 41, 3) := by decide +kernel
theorem d_Mod_sameTexts_4 : decode b_Mod_sameTexts 4 = .ok (.iload_n 1, 1) := by decide +kernel
theorem d_Mod_sameTexts_5 : decode b_Mod_sameTexts 5 = .ok (.iaload, 1) := by decide +kernel
theorem d_Mod_sameTexts_6 : decode b_Mod_sameTexts 6 = .ok (.aload_n 0, 1) := by decide +kernel
theorem d_Mod_sameTexts_7 : decode b_Mod_sameTexts 7 = .ok (.getfield 41, 3) := by decide +kernel
theorem d_Mod_sameTexts_10 : decode b_Mod_sameTexts 10 = .ok (.iload_n 2, 1) := by decide +kernel
theorem d_Mod_sameTexts_11 : decode b_Mod_sameTexts 11 = .ok (.iaload, 1) := by decide +kernel
theorem d_Mod_sameTexts_12 : decode b_Mod_sameTexts 12 = .ok (.if_icmp .ne 7, 3) := by decide +kernel
theorem d_Mod_sameTexts_15 : decode b_Mod_sameTexts 15 = .ok (.iconst 1, 1) := by decide +kernel
theorem d_Mod_sameTexts_16 : decode b_Mod_sameTexts 16 = .ok (.goto 4, 3) := by decide +kernel
theorem d_Mod_sameTexts_19 : decode b_Mod_sameTexts 19 = .ok (.iconst 0, 1) := by decide +kernel
theorem d_Mod_sameTexts_20 : decode b_Mod_sameTexts 20 = .ok (.istore_n 3, 1) := by decide +kernel
theorem d_Mod_sameTexts_21 : decode b_Mod_sameTexts 21 = .ok (.iconst 0, 1) := by decide +kernel
theorem d_Mod_sameTexts_22 : decode b_Mod_sameTexts 22 = .ok (.istore 4, 2) := by decide +kernel
theorem d_Mod_sameTexts_24 : decode b_Mod_sameTexts 24 = .ok (.iload_n 3, 1) := by decide +kernel
theorem d_Mod_sameTexts_25 : decode b_Mod_sameTexts 25 = .ok (.ifCond .eq 57, 3) := by decide +kernel
theorem d_Mod_sameTexts_28 : decode b_Mod_sameTexts 28 = .ok (.iload 4, 2) := by decide +kernel
theorem d_Mod_sameTexts_30 : decode b_Mod_sameTexts 30 = .ok (.aload_n 0, 1) := by decide +kernel
theorem d_Mod_sameTexts_31 : decode b_Mod_sameTexts 31 = .ok (.getfield 41, 3) := by decide +kernel
theorem d_Mod_sameTexts_34 : decode b_Mod_sameTexts 34 = .ok (.iload_n 1, 1) := by decide +kernel
theorem d_Mod_sameTexts_35 : decode b_Mod_sameTexts 35 = .ok (.iaload, 1) := by decide +kernel
theorem d_Mod_sameTexts_36 : decode b_Mod_sameTexts 36 = .ok (.if_icmp .ge 46, 3) := by decide +kernel
theorem d_Mod_sameTexts_39 : decode b_Mod_sameTexts 39 = .ok (.aload_n 0, 1) := by decide +kernel
theorem d_Mod_sameTexts_40 : decode b_Mod_sameTexts 40 = .ok (.getfield 7, 3) := by decide +kernel
theorem d_Mod_sameTexts_43 : decode b_Mod_sameTexts 43 = .ok (.aload_n 0, 1) := by decide +kernel
theorem d_Mod_sameTexts_44 : decode b_Mod_sameTexts 44 = .ok (.getfield 38, 3) := by decide +kernel
theorem d_Mod_sameTexts_47 : decode b_Mod_sameTexts 47 = .ok (.iload_n 1, 1) := by decide +kernel
theorem d_Mod_sameTexts_48 : decode b_Mod_sameTexts 48 = .ok (.iaload, 1) := by decide +kernel
theorem d_Mod_sameTexts_49 : decode b_Mod_sameTexts 49 = .ok (.iload 4, 2) := by decide +kernel
theorem d_Mod_sameTexts_51 : decode b_Mod_sameTexts 51 = .ok (.iadd, 1) := by decide +kernel
theorem d_Mod_sameTexts_52 : decode b_Mod_sameTexts 52 = .ok (.iaload, 1) := by decide +kernel
theorem d_Mod_sameTexts_53 : decode b_Mod_sameTexts 53 = .ok (.aload_n 0, 1) := by decide +kernel
theorem d_Mod_sameTexts_54 : decode b_Mod_sameTexts 54 = .ok (.getfield 7, 3) := by decide +kernel
theorem d_Mod_sameTexts_57 : decode b_Mod_sameTexts 57 = .ok (.aload_n 0, 1) := by decide +kernel
theorem d_Mod_sameTexts_58 : decode b_Mod_sameTexts 58 = .ok (.getfield 38, 3) := by decide +kernel
theorem d_Mod_sameTexts_61 : decode b_Mod_sameTexts 61 = .ok (.iload_n 2, 1) := by decide +kernel
theorem d_Mod_sameTexts_62 : decode b_Mod_sameTexts 62 = .ok (.iaload, 1) := by decide +kernel
theorem d_Mod_sameTexts_63 : decode b_Mod_sameTexts 63 = .ok (.iload 4, 2) := by decide +kernel
theorem d_Mod_sameTexts_65 : decode b_Mod_sameTexts 65 = .ok (.iadd, 1) := by decide +kernel
theorem d_Mod_sameTexts_66 : decode b_Mod_sameTexts 66 = .ok (.iaload, 1) := by decide +kernel
theorem d_Mod_sameTexts_67 : decode b_Mod_sameTexts 67 = .ok (.if_icmp .ne 7, 3) := by decide +kernel
theorem d_Mod_sameTexts_70 : decode b_Mod_sameTexts 70 = .ok (.iconst 1, 1) := by decide +kernel
theorem d_Mod_sameTexts_71 : decode b_Mod_sameTexts 71 = .ok (.goto 4, 3) := by decide +kernel
theorem d_Mod_sameTexts_74 : decode b_Mod_sameTexts 74 = .ok (.iconst 0, 1) := by decide +kernel
theorem d_Mod_sameTexts_75 : decode b_Mod_sameTexts 75 = .ok (.istore_n 3, 1) := by decide +kernel
theorem d_Mod_sameTexts_76 : decode b_Mod_sameTexts 76 = .ok (.iinc 4 1, 3) := by decide +kernel
theorem d_Mod_sameTexts_79 : decode b_Mod_sameTexts 79 = .ok (.goto (-55), 3) := by decide +kernel
theorem d_Mod_sameTexts_82 : decode b_Mod_sameTexts 82 = .ok (.iload_n 3, 1) := by decide +kernel
theorem d_Mod_sameTexts_83 : decode b_Mod_sameTexts 83 = .ok (.ireturn, 1) := by decide +kernel
