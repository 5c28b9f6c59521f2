theorem d_Mod_isClassName_0 : decode b_Mod_isClassName 0 = .ok (.iconst 1, 1) := by decide +kernel
theorem d_Mod_isClassName_1 : decode b_Mod_isClassName 1 = .ok (.istore_n 3, 1) := by decide +kernel
theorem d_Mod_isClassName_2 : decode b_Mod_isClassName 2 = .ok (.iload_n 1, 1) := by decide +kernel
theorem d_Mod_isClassName_3 : decode b_Mod_isClassName 3 = .ok (.istore 4, 2) := by decide +kernel
theorem d_Mod_isClassName_5 : decode b_Mod_isClassName 5 = .ok (.iload_n 1, 1) := by decide +kernel
theorem d_Mod_isClassName_6 : decode b_Mod_isClassName 6 = .ok (.istore 5, 2) := by decide +kernel
theorem d_Mod_isClassName_8 : decode b_Mod_isClassName 8 = .ok (.iload 5, 2) := by decide +kernel
theorem d_Mod_isClassName_10 : decode b_Mod_isClassName 10 = .ok (.iload_n 2, 1) := by decide +kernel
theorem d_Mod_isClassName_11 : decode b_Mod_isClassName 11 = .ok (.if_icmp .gt 54, 3) := by decide +kernel
theorem d_Mod_isClassName_14 : decode b_Mod_isClassName 14 = .ok (.iload 5, 2) := by decide +kernel
theorem d_Mod_isClassName_16 : decode b_Mod_isClassName 16 = .ok (.iload_n 2, 1) := by decide +kernel
theorem d_Mod_isClassName_17 : decode b_Mod_isClassName 17 = .ok (.if_icmp .eq 15, 3) := by decide +kernel
theorem d_Mod_isClassName_20 : decode b_Mod_isClassName 20 = .ok (.aload_n 0, 1) := by decide +kernel
theorem d_Mod_isClassName_21 : decode b_Mod_isClassName 21 = .ok (.getfield 7, 3) := by decide +kernel
theorem d_Mod_isClassName_24 : decode b_Mod_isClassName 24 = .ok (.iload 5, 2) := by decide +kernel
theorem d_Mod_isClassName_26 : decode b_Mod_isClassName 26 = .ok (.iaload, 1) := by decide +kernel
theorem d_Mod_isClassName_27 : decode b_Mod_isClassName 27 = .ok (.bipush 47, 2) := by decide +kernel
theorem d_Mod_isClassName_29 : decode b_Mod_isClassName 29 = .ok (.if_icmp .ne 30, 3) := by decide +kernel
theorem d_Mod_isClassName_32 : decode b_Mod_isClassName 32 = .ok (.iload_n 3, 1) := by decide +kernel
theorem d_Mod_isClassName_33 : decode b_Mod_isClassName 33 = .ok (.ifCond .eq 18, 3) := by decide +kernel
theorem d_Mod_isClassName_36 : decode b_Mod_isClassName 36 = .ok (.aload_n 0, 1) := by decide +kernel
theorem d_Mod_isClassName_37 : decode b_Mod_isClassName 37 = .ok (.iload 4, 2) := by decide +kernel
theorem d_Mod_isClassName_39 : decode b_Mod_isClassName 39 = .ok (.iload 5, 2) := by decide +kernel
theorem d_Mod_isClassName_41 : decode b_Mod_isClassName 41 = .ok (.invokevirtual 241, 3) := by decide +kernel
theorem d_Mod_isClassName_44 : decode b_Mod_isClassName 44 = .ok (.ifCond .eq 7, 3) := by decide +kernel
theorem d_Mod_isClassName_47 : decode b_Mod_isClassName 47 = .ok (.iconst 1, 1) := by decide +kernel
theorem d_Mod_isClassName_48 : decode b_Mod_isClassName 48 = .ok (.goto 4, 3) := by decide +kernel
theorem d_Mod_isClassName_51 : decode b_Mod_isClassName 51 = .ok (.iconst 0, 1) := by decide +kernel
theorem d_Mod_isClassName_52 : decode b_Mod_isClassName 52 = .ok (.istore_n 3, 1) := by decide +kernel
theorem d_Mod_isClassName_53 : decode b_Mod_isClassName 53 = .ok (.iload 5, 2) := by decide +kernel
theorem d_Mod_isClassName_55 : decode b_Mod_isClassName 55 = .ok (.iconst 1, 1) := by decide +kernel
theorem d_Mod_isClassName_56 : decode b_Mod_isClassName 56 = .ok (.iadd, 1) := by decide +kernel
theorem d_Mod_isClassName_57 : decode b_Mod_isClassName 57 = .ok (.istore 4, 2) := by decide +kernel
theorem d_Mod_isClassName_59 : decode b_Mod_isClassName 59 = .ok (.iinc 5 1, 3) := by decide +kernel
theorem d_Mod_isClassName_62 : decode b_Mod_isClassName 62 = .ok (.goto (-54), 3) := by decide +kernel
theorem d_Mod_isClassName_65 : decode b_Mod_isClassName 65 = .ok (.iload_n 3, 1) := by decide +kernel
theorem d_Mod_isClassName_66 : decode b_Mod_isClassName 66 = .ok (.ireturn, 1) := by decide +kernel
theorem d_Mod_isMethodType_0 : decode b_Mod_isMethodType 0 = .ok (.iload_n 1, 1) := by decide +kernel
theorem d_Mod_isMethodType_1 : decode b_Mod_isMethodType 1 = .ok (.iload_n 2, 1) := by decide +kernel
theorem d_Mod_isMethodType_2 : decode b_Mod_isMethodType 2 = .ok (.if_icmp .eq 14, 3) := by decide +kernel
theorem d_Mod_isMethodType_5 : decode b_Mod_isMethodType 5 = .ok (.aload_n 0, 1) := by decide +kernel
theorem d_Mod_isMethodType_6 : decode b_Mod_isMethodType 6 = .ok (.getfield 7, 3) := by decide +kernel
theorem d_Mod_isMethodType_9 : decode b_Mod_isMethodType 9 = .ok (.iload_n 1, 1) := by decide +kernel
theorem d_Mod_isMethodType_10 : decode b_Mod_isMethodType 10 = .ok (.iaload, 1) := by decide +kernel
theorem d_Mod_isMethodType_11 : decode b_Mod_isMethodType 11 = .ok (.bipush 40, 2) := by decide +kernel
theorem d_Mod_isMethodType_13 : decode b_Mod_isMethodType 13 = .ok (.if_icmp .eq 5, 3) := by decide +kernel
theorem d_Mod_isMethodType_16 : decode b_Mod_isMethodType 16 = .ok (.iconst 0, 1) := by decide +kernel
theorem d_Mod_isMethodType_17 : decode b_Mod_isMethodType 17 = .ok (.ireturn, 1) := by decide +kernel
theorem d_Mod_isMethodType_18 : decode b_Mod_isMethodType 18 = .ok (.iload_n 1, 1) := by decide +kernel
theorem d_Mod_isMethodType_19 : decode b_Mod_isMethodType 19 = .ok (.iconst 1, 1) := by decide +kernel
theorem d_Mod_isMethodType_20 : decode b_Mod_isMethodType 20 = .ok (.iadd, 1) := by decide +kernel
theorem d_Mod_isMethodType_21 : decode b_Mod_isMethodType 21 = .ok (.istore_n 3, 1) := by decide +kernel
theorem d_Mod_isMethodType_22 : decode b_Mod_isMethodType 22 = .ok (.iload_n 3, 1) := by decide +kernel
theorem d_Mod_isMethodType_23 : decode b_Mod_isMethodType 23 = .ok (.ifCond .lt 29, 3) := by decide +kernel
theorem d_Mod_isMethodType_26 : decode b_Mod_isMethodType 26 = .ok (.iload_n 3, 1) := by decide +kernel
theorem d_Mod_isMethodType_27 : decode b_Mod_isMethodType 27 = .ok (.iload_n 2, 1) := by decide +kernel
theorem d_Mod_isMethodType_28 : decode b_Mod_isMethodType 28 = .ok (.if_icmp .ge 24, 3) := by decide +kernel
theorem d_Mod_isMethodType_31 : decode b_Mod_isMethodType 31 = .ok (.aload_n 0, 1) := by decide +kernel
theorem d_Mod_isMethodType_32 : decode b_Mod_isMethodType 32 = .ok (.getfield 7, 3) := by decide +kernel
theorem d_Mod_isMethodType_35 : decode b_Mod_isMethodType 35 = .ok (.iload_n 3, 1) := by decide +kernel
theorem d_Mod_isMethodType_36 : decode b_Mod_isMethodType 36 = .ok (.iaload, 1) := by decide +kernel
theorem d_Mod_isMethodType_37 : decode b_Mod_isMethodType 37 = .ok (.bipush 41, 2) := by decide +kernel
theorem d_Mod_isMethodType_39 : decode b_Mod_isMethodType 39 = .ok (.if_icmp .eq 13, 3) := by decide +kernel
theorem d_Mod_isMethodType_42 : decode b_Mod_isMethodType 42 = .ok (.aload_n 0, 1) := by decide +kernel
theorem d_Mod_isMethodType_43 : decode b_Mod_isMethodType 43 = .ok (.iload_n 3, 1) := by decide +kernel
theorem d_Mod_isMethodType_44 : decode b_Mod_isMethodType 44 = .ok (.iload_n 2, 1) := by decide +kernel
theorem d_Mod_isMethodType_45 : decode b_Mod_isMethodType 45 = .ok (.invokevirtual 247, 3) := by decide +kernel
theorem d_Mod_isMethodType_48 : decode b_Mod_isMethodType 48 = .ok (.istore_n 3, 1) := by decide +kernel
theorem d_Mod_isMethodType_49 : decode b_Mod_isMethodType 49 = .ok (.goto (-27), 3) := by decide +kernel
theorem d_Mod_isMethodType_52 : decode b_Mod_isMethodType 52 = .ok (.iload_n 3, 1) := by decide +kernel
theorem d_Mod_isMethodType_53 : decode b_Mod_isMethodType 53 = .ok (.ifCond .lt 8, 3) := by decide +kernel
theorem d_Mod_isMethodType_56 : decode b_Mod_isMethodType 56 = .ok (.iload_n 3, 1) := by decide +kernel
theorem d_Mod_isMethodType_57 : decode b_Mod_isMethodType 57 = .ok (.iload_n 2, 1) := by decide +kernel
theorem d_Mod_isMethodType_58 : decode b_Mod_isMethodType 58 = .ok (.if_icmp .lt 5, 3) := by decide +kernel
theorem d_Mod_isMethodType_61 : decode b_Mod_isMethodType 61 = .ok (.iconst 0, 1) := by decide +kernel
theorem d_Mod_isMethodType_62 : decode b_Mod_isMethodType 62 = .ok (.ireturn, 1) := by decide +kernel
theorem d_Mod_isMethodType_63 : decode b_Mod_isMethodType 63 = .ok (.aload_n 0, 1) := by decide +kernel
theorem d_Mod_isMethodType_64 : decode b_Mod_isMethodType 64 = .ok (.iload_n 3, 1) := by decide +kernel
theorem d_Mod_isMethodType_65 : decode b_Mod_isMethodType 65 = .ok (.iconst 1, 1) := by decide +kernel
theorem d_Mod_isMethodType_66 : decode b_Mod_isMethodType 66 = .ok (.iadd, 1) := by decide +kernel
theorem d_Mod_isMethodType_67 : decode b_Mod_isMethodType 67 = .ok (.iload_n 2, 1) := by decide +kernel
theorem d_Mod_isMethodType_68 : decode b_Mod_isMethodType 68 = .ok (.invokevirtual 251, 3) := by decide +kernel
theorem d_Mod_isMethodType_71 : decode b_Mod_isMethodType 71 = .ok (.ifCond .ne 23, 3) := by decide +kernel
theorem d_Mod_isMethodType_74 : decode b_Mod_isMethodType 74 = .ok (.iload_n 3, 1) := by decide +kernel
theorem d_Mod_isMethodType_75 : decode b_Mod_isMethodType 75 = .ok (.iconst 2, 1) := by decide +kernel
theorem d_Mod_isMethodType_76 : decode b_Mod_isMethodType 76 = .ok (.iadd, 1) := by decide +kernel
theorem d_Mod_isMethodType_77 : decode b_Mod_isMethodType 77 = .ok (.iload_n 2, 1) := by decide +kernel
theorem d_Mod_isMethodType_78 : decode b_Mod_isMethodType 78 = .ok (.if_icmp .ne 20, 3) := by decide +kernel
theorem d_Mod_isMethodType_81 : decode b_Mod_isMethodType 81 = .ok (.aload_n 0, 1) := by decide +kernel
theorem d_Mod_isMethodType_82 : decode b_Mod_isMethodType 82 = .ok (.getfield 7, 3) := by decide +kernel
theorem d_Mod_isMethodType_85 : decode b_Mod_isMethodType 85 = .ok (.iload_n 3, 1) := by decide +kernel
theorem d_Mod_isMethodType_86 : decode b_Mod_isMethodType 86 = .ok (.iconst 1, 1) := by decide +kernel
theorem d_Mod_isMethodType_87 : decode b_Mod_isMethodType 87 = .ok (.iadd, 1) := by decide +kernel
theorem d_Mod_isMethodType_88 : decode b_Mod_isMethodType 88 = .ok (.iaload, 1) := by decide +kernel
theorem d_Mod_isMethodType_89 : decode b_Mod_isMethodType 89 = .ok (.bipush 86, 2) := by decide +kernel
theorem d_Mod_isMethodType_91 : decode b_Mod_isMethodType 91 = .ok (.if_icmp .ne 7, 3) := by decide +kernel
theorem d_Mod_isMethodType_94 : decode b_Mod_isMethodType 94 = .ok (.iconst 1, 1) := by decide +kernel
theorem d_Mod_isMethodType_95 : decode b_Mod_isMethodType 95 = .ok (.goto 4, 3) := by decide +kernel
theorem d_Mod_isMethodType_98 : decode b_Mod_isMethodType 98 = .ok (.iconst 0, 1) := by decide +kernel
theorem d_Mod_isMethodType_99 : decode b_Mod_isMethodType 99 = .ok (.ireturn, 1) := by decide +kernel
theorem d_Mod_isName_0 : decode b_Mod_isName 0 = .ok (.iload_n 1, 1) := by decide +kernel
theorem d_Mod_isName_1 : decode b_Mod_isName 1 = .ok (.iload_n 2, 1) := by decide +kernel
theorem d_Mod_isName_2 : decode b_Mod_isName 2 = .ok (.if_icmp .ge 7, 3) := by decide +kernel
theorem d_Mod_isName_5 : decode b_Mod_isName 5 = .ok (.iconst 1, 1) := by decide +kernel
theorem d_Mod_isName_6 : decode b_Mod_isName 6 = .ok (.goto 4, 3) := by decide +kernel
theorem d_Mod_isName_9 : decode b_Mod_isName 9 = .ok (.iconst 0, 1) := by decide +kernel
theorem d_Mod_isName_10 : decode b_Mod_isName 10 = .ok (.istore_n 3, 1) := by decide +kernel
theorem d_Mod_isName_11 : decode b_Mod_isName 11 = .ok (.iload_n 1, 1) := by decide +kernel
theorem d_Mod_isName_12 : decode b_Mod_isName 12 = .ok (.istore 4, 2) := by decide +kernel
theorem d_Mod_isName_14 : decode b_Mod_isName 14 = .ok (.iload 4, 2) := by decide +kernel
theorem d_Mod_isName_16 : decode b_Mod_isName 16 = .ok (.iload_n 2, 1) := by decide +kernel
theorem d_Mod_isName_17 : decode b_Mod_isName 17 = .ok (.if_icmp .ge 32, 3) := by decide +kernel
theorem d_Mod_isName_20 : decode b_Mod_isName 20 = .ok (.iload_n 3, 1) := by decide +kernel
theorem d_Mod_isName_21 : decode b_Mod_isName 21 = .ok (.ifCond .eq 20, 3) := by decide +kernel
theorem d_Mod_isName_24 : decode b_Mod_isName 24 = .ok (.aload_n 0, 1) := by decide +kernel
theorem d_Mod_isName_25 : decode b_Mod_isName 25 = .ok (.getfield 7, 3) := by decide +kernel
theorem d_Mod_isName_28 : decode b_Mod_isName 28 = .ok (.iload 4, 2) := by decide +kernel
theorem d_Mod_isName_30 : decode b_Mod_isName 30 = .ok (.iaload, 1) := by decide +kernel
theorem d_Mod_isName_31 : decode b_Mod_isName 31 = .ok (.invokestatic 238, 3) := by decide +kernel
theorem d_Mod_isName_34 : decode b_Mod_isName 34 = .ok (.ifCond .eq 7, 3) := by decide +kernel
theorem d_Mod_isName_37 : decode b_Mod_isName 37 = .ok (.iconst 1, 1) := by decide +kernel
theorem d_Mod_isName_38 : decode b_Mod_isName 38 = .ok (.goto 4, 3) := by decide +kernel
theorem d_Mod_isName_41 : decode b_Mod_isName 41 = .ok (.iconst 0, 1) := by decide +kernel
theorem d_Mod_isName_42 : decode b_Mod_isName 42 = .ok (.istore_n 3, 1) := by decide +kernel
theorem d_Mod_isName_43 : decode b_Mod_isName 43 = .ok (.iinc 4 1, 3) := by decide +kernel
theorem d_Mod_isName_46 : decode b_Mod_isName 46 = .ok (.goto (-32), 3) := by decide +kernel
theorem d_Mod_isName_49 : decode b_Mod_isName 49 = .ok (.iload_n 3, 1) := by decide +kernel
theorem d_Mod_isName_50 : decode b_Mod_isName 50 = .ok (.ireturn, 1) := by decide +kernel
theorem d_Mod_isSign_0 : decode b_Mod_isSign 0 = .ok (.iload_n 0, 1) := by decide +kernel
theorem d_Mod_isSign_1 : decode b_Mod_isSign 1 = .ok (.bipush 32, 2) := by decide +kernel
theorem d_Mod_isSign_3 : decode b_Mod_isSign 3 = .ok (.if_icmp .le 43, 3) := by decide +kernel
theorem d_Mod_isSign_6 : decode b_Mod_isSign 6 = .ok (.iload_n 0, 1) := by decide +kernel
theorem d_Mod_isSign_7 : decode b_Mod_isSign 7 = .ok (.bipush 46, 2) := by decide +kernel
theorem d_Mod_isSign_9 : decode b_Mod_isSign 9 = .ok (.if_icmp .eq 37, 3) := by decide +kernel
theorem d_Mod_isSign_12 : decode b_Mod_isSign 12 = .ok (.iload_n 0, 1) := by decide +kernel
theorem d_Mod_isSign_13 : decode b_Mod_isSign 13 = .ok (.bipush 59, 2) := by decide +kernel
theorem d_Mod_isSign_15 : decode b_Mod_isSign 15 = .ok (.if_icmp .eq 31, 3) := by decide +kernel
theorem d_Mod_isSign_18 : decode b_Mod_isSign 18 = .ok (.iload_n 0, 1) := by decide +kernel
theorem d_Mod_isSign_19 : decode b_Mod_isSign 19 = .ok (.bipush 91, 2) := by decide +kernel
theorem d_Mod_isSign_21 : decode b_Mod_isSign 21 = .ok (.if_icmp .eq 25, 3) := by decide +kernel
theorem d_Mod_isSign_24 : decode b_Mod_isSign 24 = .ok (.iload_n 0, 1) := by decide +kernel
theorem d_Mod_isSign_25 : decode b_Mod_isSign 25 = .ok (.bipush 47, 2) := by decide +kernel
theorem d_Mod_isSign_27 : decode b_Mod_isSign 27 = .ok (.if_icmp .eq 19, 3) := by decide +kernel
theorem d_Mod_isSign_30 : decode b_Mod_isSign 30 = .ok (.iload_n 0, 1) := by decide +kernel
theorem d_Mod_isSign_31 : decode b_Mod_isSign 31 = .ok (.bipush 60, 2) := by decide +kernel
theorem d_Mod_isSign_33 : decode b_Mod_isSign 33 = .ok (.if_icmp .eq 13, 3) := by decide +kernel
theorem d_Mod_isSign_36 : decode b_Mod_isSign 36 = .ok (.iload_n 0, 1) := by decide +kernel
theorem d_Mod_isSign_37 : decode b_Mod_isSign 37 = .ok (.bipush 62, 2) := by decide +kernel
theorem d_Mod_isSign_39 : decode b_Mod_isSign 39 = .ok (.if_icmp .eq 7, 3) := by decide +kernel
theorem d_Mod_isSign_42 : decode b_Mod_isSign 42 = .ok (.iconst 1, 1) := by decide +kernel
theorem d_Mod_isSign_43 : decode b_Mod_isSign 43 = .ok (.goto 4, 3) := by decide +kernel
theorem d_Mod_isSign_46 : decode b_Mod_isSign 46 = .ok (.iconst 0, 1) := by decide +kernel
theorem d_Mod_isSign_47 : decode b_Mod_isSign 47 = .ok (.ireturn, 1) := by decide +kernel
theorem d_Mod_isType_0 : decode b_Mod_isType 0 = .ok (.aload_n 0, 1) := by decide +kernel
theorem d_Mod_isType_1 : decode b_Mod_isType 1 = .ok (.iload_n 1, 1) := by decide +kernel
theorem d_Mod_isType_2 : decode b_Mod_isType 2 = .ok (.iload_n 2, 1) := by decide +kernel
theorem d_Mod_isType_3 : decode b_Mod_isType 3 = .ok (.invokevirtual 247, 3) := by decide +kernel
theorem d_Mod_isType_6 : decode b_Mod_isType 6 = .ok (.iload_n 2, 1) := by decide +kernel
theorem d_Mod_isType_7 : decode b_Mod_isType 7 = .ok (.if_icmp .ne 7, 3) := by decide +kernel
theorem d_Mod_isType_10 : decode b_Mod_isType 10 = .ok (.iconst 1, 1) := by decide +kernel
theorem d_Mod_isType_11 : decode b_Mod_isType 11 = .ok (.goto 4, 3) := by decide +kernel
theorem d_Mod_isType_14 : decode b_Mod_isType 14 = .ok (.iconst 0, 1) := by decide +kernel
theorem d_Mod_isType_15 : decode b_Mod_isType 15 = .ok (.ireturn, 1) := by decide +kernel
theorem d_Mod_typeEnd_0 : decode b_Mod_typeEnd 0 = .ok (.iload_n 1, 1) := by decide +kernel
theorem d_Mod_typeEnd_1 : decode b_Mod_typeEnd 1 = .ok (.istore_n 3, 1) := by decide +kernel
theorem d_Mod_typeEnd_2 : decode b_Mod_typeEnd 2 = .ok (.iload_n 3, 1) := by decide +kernel
theorem d_Mod_typeEnd_3 : decode b_Mod_typeEnd 3 = .ok (.iload_n 2, 1) := by decide +kernel
theorem d_Mod_typeEnd_4 : decode b_Mod_typeEnd 4 = .ok (.if_icmp .ge 20, 3) := by decide +kernel
theorem d_Mod_typeEnd_7 : decode b_Mod_typeEnd 7 = .ok (.aload_n 0, 1) := by decide +kernel
theorem d_Mod_typeEnd_8 : decode b_Mod_typeEnd 8 = .ok (.getfield 7, 3) := by decide +kernel
theorem d_Mod_typeEnd_11 : decode b_Mod_typeEnd 11 = .ok (.iload_n 3, 1) := by decide +kernel
theorem d_Mod_typeEnd_12 : decode b_Mod_typeEnd 12 = .ok (.iaload, 1) := by decide +kernel
theorem d_Mod_typeEnd_13 : decode b_Mod_typeEnd 13 = .ok (.bipush 91, 2) := by decide +kernel
theorem d_Mod_typeEnd_15 : decode b_Mod_typeEnd 15 = .ok (.if_icmp .ne 9, 3) := by decide +kernel
theorem d_Mod_typeEnd_18 : decode b_Mod_typeEnd 18 = .ok (.iinc 3 1, 3) := by decide +kernel
theorem d_Mod_typeEnd_21 : decode b_Mod_typeEnd 21 = .ok (.goto (-19), 3) := by decide +kernel
theorem d_Mod_typeEnd_24 : decode b_Mod_typeEnd 24 = .ok (.iload_n 3, 1) := by decide +kernel
theorem d_Mod_typeEnd_25 : decode b_Mod_typeEnd 25 = .ok (.iload_n 2, 1) := by decide +kernel
theorem d_Mod_typeEnd_26 : decode b_Mod_typeEnd 26 = .ok (.if_icmp .ne 5, 3) := by decide +kernel
theorem d_Mod_typeEnd_29 : decode b_Mod_typeEnd 29 = .ok (.iconst (-1), 1) := by decide +kernel
theorem d_Mod_typeEnd_30 : decode b_Mod_typeEnd 30 = .ok (.ireturn, 1) := by decide +kernel
theorem d_Mod_typeEnd_31 : decode b_Mod_typeEnd 31 = .ok (.aload_n 0, 1) := by decide +kernel
theorem d_Mod_typeEnd_32 : decode b_Mod_typeEnd 32 = .ok (.getfield 7, 3) := by decide +kernel
theorem d_Mod_typeEnd_35 : decode b_Mod_typeEnd 35 = .ok (.iload_n 3, 1) := by decide +kernel
theorem d_Mod_typeEnd_36 : decode b_Mod_typeEnd 36 = .ok (.iaload, 1) := by decide +kernel
theorem d_Mod_typeEnd_37 : decode b_Mod_typeEnd 37 = .ok (.istore 4, 2) := by decide +kernel
theorem d_Mod_typeEnd_39 : decode b_Mod_typeEnd 39 = .ok (.iload 4, 2) := by decide +kernel
theorem d_Mod_typeEnd_41 : decode b_Mod_typeEnd 41 = .ok (.bipush 76, 2) := by decide +kernel
theorem d_Mod_typeEnd_43 : decode b_Mod_typeEnd 43 = .ok (.if_icmp .ne 59, 3) := by decide +kernel
theorem d_Mod_typeEnd_46 : decode b_Mod_typeEnd 46 = .ok (.iload_n 3, 1) := by decide +kernel
theorem d_Mod_typeEnd_47 : decode b_Mod_typeEnd 47 = .ok (.iconst 1, 1) := by decide +kernel
theorem d_Mod_typeEnd_48 : decode b_Mod_typeEnd 48 = .ok (.iadd, 1) := by decide +kernel
theorem d_Mod_typeEnd_49 : decode b_Mod_typeEnd 49 = .ok (.istore 5, 2) := by decide +kernel
theorem d_Mod_typeEnd_51 : decode b_Mod_typeEnd 51 = .ok (.iload 5, 2) := by decide +kernel
theorem d_Mod_typeEnd_53 : decode b_Mod_typeEnd 53 = .ok (.iload_n 2, 1) := by decide +kernel
theorem d_Mod_typeEnd_54 : decode b_Mod_typeEnd 54 = .ok (.if_icmp .ge 21, 3) := by decide +kernel
theorem d_Mod_typeEnd_57 : decode b_Mod_typeEnd 57 = .ok (.aload_n 0, 1) := by decide +kernel
theorem d_Mod_typeEnd_58 : decode b_Mod_typeEnd 58 = .ok (.getfield 7, 3) := by decide +kernel
theorem d_Mod_typeEnd_61 : decode b_Mod_typeEnd 61 = .ok (.iload 5, 2) := by decide +kernel
theorem d_Mod_typeEnd_63 : decode b_Mod_typeEnd 63 = .ok (.iaload, 1) := by decide +kernel
theorem d_Mod_typeEnd_64 : decode b_Mod_typeEnd 64 = .ok (.bipush 59, 2) := by decide +kernel
theorem d_Mod_typeEnd_66 : decode b_Mod_typeEnd 66 = .ok (.if_icmp .eq 9, 3) := by decide +kernel
theorem d_Mod_typeEnd_69 : decode b_Mod_typeEnd 69 = .ok (.iinc 5 1, 3) := by decide +kernel
theorem d_Mod_typeEnd_72 : decode b_Mod_typeEnd 72 = .ok (.goto (-21), 3) := by decide +kernel
theorem d_Mod_typeEnd_75 : decode b_Mod_typeEnd 75 = .ok (.iload 5, 2) := by decide +kernel
theorem d_Mod_typeEnd_77 : decode b_Mod_typeEnd 77 = .ok (.iload_n 2, 1) := by decide +kernel
theorem d_Mod_typeEnd_78 : decode b_Mod_typeEnd 78 = .ok (.if_icmp .ge 22, 3) := by decide +kernel
theorem d_Mod_typeEnd_81 : decode b_Mod_typeEnd 81 = .ok (.aload_n 0, 1) := by decide +kernel
theorem d_Mod_typeEnd_82 : decode b_Mod_typeEnd 82 = .ok (.iload_n 3, 1) := by decide +kernel
theorem d_Mod_typeEnd_83 : decode b_Mod_typeEnd 83 = .ok (.iconst 1, 1) := by decide +kernel
theorem d_Mod_typeEnd_84 : decode b_Mod_typeEnd 84 = .ok (.iadd, 1) := by decide +kernel
theorem d_Mod_typeEnd_85 : decode b_Mod_typeEnd 85 = .ok (.iload 5, 2) := by decide +kernel
theorem d_Mod_typeEnd_87 : decode b_Mod_typeEnd 87 = .ok (.invokevirtual 244, 3) := by decide +kernel
theorem d_Mod_typeEnd_90 : decode b_Mod_typeEnd 90 = .ok (.ifCond .eq 10, 3) := by decide +kernel
theorem d_Mod_typeEnd_93 : decode b_Mod_typeEnd 93 = .ok (.iload 5, 2) := by decide +kernel
theorem d_Mod_typeEnd_95 : decode b_Mod_typeEnd 95 = .ok (.iconst 1, 1) := by decide +kernel
theorem d_Mod_typeEnd_96 : decode b_Mod_typeEnd 96 = .ok (.iadd, 1) := by decide +kernel
theorem d_Mod_typeEnd_97 : decode b_Mod_typeEnd 97 = .ok (.goto 4, 3) := by decide +kernel
theorem d_Mod_typeEnd_100 : decode b_Mod_typeEnd 100 = .ok (.iconst (-1), 1) := by decide +kernel
theorem d_Mod_typeEnd_101 : decode b_Mod_typeEnd 101 = .ok (.ireturn, 1) := by decide +kernel
theorem d_Mod_typeEnd_102 : decode b_Mod_typeEnd 102 = .ok (.iload 4, 2) := by decide +kernel
theorem d_Mod_typeEnd_104 : decode b_Mod_typeEnd 104 = .ok (.bipush 66, 2) := by decide +kernel
theorem d_Mod_typeEnd_106 : decode b_Mod_typeEnd 106 = .ok (.if_icmp .eq 52, 3) := by decide +kernel
theorem d_Mod_typeEnd_109 : decode b_Mod_typeEnd 109 = .ok (.iload 4, 2) := by decide +kernel
theorem d_Mod_typeEnd_111 : decode b_Mod_typeEnd 111 = .ok (.bipush 67, 2) := by decide +kernel
theorem d_Mod_typeEnd_113 : decode b_Mod_typeEnd 113 = .ok (.if_icmp .eq 45, 3) := by decide +kernel
theorem d_Mod_typeEnd_116 : decode b_Mod_typeEnd 116 = .ok (.iload 4, 2) := by decide +kernel
theorem d_Mod_typeEnd_118 : decode b_Mod_typeEnd 118 = .ok (.bipush 68, 2) := by decide +kernel
theorem d_Mod_typeEnd_120 : decode b_Mod_typeEnd 120 = .ok (.if_icmp .eq 38, 3) := by decide +kernel
theorem d_Mod_typeEnd_123 : decode b_Mod_typeEnd 123 = .ok (.iload 4, 2) := by decide +kernel
theorem d_Mod_typeEnd_125 : decode b_Mod_typeEnd 125 = .ok (.bipush 70, 2) := by decide +kernel
theorem d_Mod_typeEnd_127 : decode b_Mod_typeEnd 127 = .ok (.if_icmp .eq 31, 3) := by decide +kernel
theorem d_Mod_typeEnd_130 : decode b_Mod_typeEnd 130 = .ok (.iload 4, 2) := by decide +kernel
theorem d_Mod_typeEnd_132 : decode b_Mod_typeEnd 132 = .ok (.bipush 73, 2) := by decide +kernel
theorem d_Mod_typeEnd_134 : decode b_Mod_typeEnd 134 = .ok (.if_icmp .eq 24, 3) := by decide +kernel
theorem d_Mod_typeEnd_137 : decode b_Mod_typeEnd 137 = .ok (.iload 4, 2) := by decide +kernel
theorem d_Mod_typeEnd_139 : decode b_Mod_typeEnd 139 = .ok (.bipush 74, 2) := by decide +kernel
theorem d_Mod_typeEnd_141 : decode b_Mod_typeEnd 141 = .ok (.if_icmp .eq 17, 3) := by decide +kernel
theorem d_Mod_typeEnd_144 : decode b_Mod_typeEnd 144 = .ok (.iload 4, 2) := by decide +kernel
theorem d_Mod_typeEnd_146 : decode b_Mod_typeEnd 146 = .ok (.bipush 83, 2) := by decide +kernel
theorem d_Mod_typeEnd_148 : decode b_Mod_typeEnd 148 = .ok (.if_icmp .eq 10, 3) := by decide +kernel
theorem d_Mod_typeEnd_151 : decode b_Mod_typeEnd 151 = .ok (.iload 4, 2) := by decide +kernel
theorem d_Mod_typeEnd_153 : decode b_Mod_typeEnd 153 = .ok (.bipush 90, 2) := by decide +kernel
theorem d_Mod_typeEnd_155 : decode b_Mod_typeEnd 155 = .ok (.if_icmp .ne 9, 3) := by decide +kernel
theorem d_Mod_typeEnd_158 : decode b_Mod_typeEnd 158 = .ok (.iload_n 3, 1) := by decide +kernel
theorem d_Mod_typeEnd_159 : decode b_Mod_typeEnd 159 = .ok (.iconst 1, 1) := by decide +kernel
theorem d_Mod_typeEnd_160 : decode b_Mod_typeEnd 160 = .ok (.iadd, 1) := by decide +kernel
theorem d_Mod_typeEnd_161 : decode b_Mod_typeEnd 161 = .ok (.goto 4, 3) := by decide +kernel
theorem d_Mod_typeEnd_164 : decode b_Mod_typeEnd 164 = .ok (.iconst (-1), 1) := by decide +kernel
theorem d_Mod_typeEnd_165 : decode b_Mod_typeEnd 165 = .ok (.ireturn, 1) := by decide +kernel
