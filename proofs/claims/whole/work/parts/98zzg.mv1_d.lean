theorem d_Mod_fetch_0 : decode b_Mod_fetch 0 = .ok (.aload_n 0, 1) := by decide +kernel
theorem d_Mod_fetch_1 : decode b_Mod_fetch 1 = .ok (.iload_n 1, 1) := by decide +kernel
theorem d_Mod_fetch_2 : decode b_Mod_fetch 2 = .ok (.iload_n 2, 1) := by decide +kernel
theorem d_Mod_fetch_3 : decode b_Mod_fetch 3 = .ok (.invokevirtual 318, 3) := by decide +kernel
theorem d_Mod_fetch_6 : decode b_Mod_fetch 6 = .ok (.aload_n 0, 1) := by decide +kernel
theorem d_Mod_fetch_7 : decode b_Mod_fetch 7 = .ok (.getfield 147, 3) := by decide +kernel
theorem d_Mod_fetch_10 : decode b_Mod_fetch 10 = .ok (.ifCond .ne 23, 3) := by decide +kernel
theorem d_Mod_fetch_13 : decode b_Mod_fetch 13 = .ok (.aload_n 0, 1) := by decide +kernel
theorem d_Mod_fetch_14 : decode b_Mod_fetch 14 = .ok (.getfield 100, 3) := by decide +kernel
theorem d_Mod_fetch_17 : decode b_Mod_fetch 17 = .ok (.iload_n 1, 1) := by decide +kernel
theorem d_Mod_fetch_18 : decode b_Mod_fetch 18 = .ok (.iaload, 1) := by decide +kernel
theorem d_Mod_fetch_19 : decode b_Mod_fetch 19 = .ok (.iload_n 2, 1) := by decide +kernel
theorem d_Mod_fetch_20 : decode b_Mod_fetch 20 = .ok (.if_icmp .eq 13, 3) := by decide +kernel
theorem d_Mod_fetch_23 : decode b_Mod_fetch 23 = .ok (.aload_n 0, 1) := by decide +kernel
theorem d_Mod_fetch_24 : decode b_Mod_fetch 24 = .ok (.bipush 23, 2) := by decide +kernel
theorem d_Mod_fetch_26 : decode b_Mod_fetch 26 = .ok (.aload_n 0, 1) := by decide +kernel
theorem d_Mod_fetch_27 : decode b_Mod_fetch 27 = .ok (.getfield 309, 3) := by decide +kernel
theorem d_Mod_fetch_30 : decode b_Mod_fetch 30 = .ok (.invokevirtual 159, 3) := by decide +kernel
theorem d_Mod_fetch_33 : decode b_Mod_fetch 33 = .ok (.aload_n 0, 1) := by decide +kernel
theorem d_Mod_fetch_34 : decode b_Mod_fetch 34 = .ok (.iload_n 2, 1) := by decide +kernel
theorem d_Mod_fetch_35 : decode b_Mod_fetch 35 = .ok (.invokevirtual 321, 3) := by decide +kernel
theorem d_Mod_fetch_38 : decode b_Mod_fetch 38 = .ok (.return_, 1) := by decide +kernel
theorem d_Mod_give_0 : decode b_Mod_give 0 = .ok (.aload_n 0, 1) := by decide +kernel
theorem d_Mod_give_1 : decode b_Mod_give 1 = .ok (.getfield 147, 3) := by decide +kernel
theorem d_Mod_give_4 : decode b_Mod_give 4 = .ok (.ifCond .eq 4, 3) := by decide +kernel
theorem d_Mod_give_7 : decode b_Mod_give 7 = .ok (.return_, 1) := by decide +kernel
theorem d_Mod_give_8 : decode b_Mod_give 8 = .ok (.iload_n 1, 1) := by decide +kernel
theorem d_Mod_give_9 : decode b_Mod_give 9 = .ok (.iconst 2, 1) := by decide +kernel
theorem d_Mod_give_10 : decode b_Mod_give 10 = .ok (.if_icmp .ne 7, 3) := by decide +kernel
theorem d_Mod_give_13 : decode b_Mod_give 13 = .ok (.iconst 2, 1) := by decide +kernel
theorem d_Mod_give_14 : decode b_Mod_give 14 = .ok (.goto 4, 3) := by decide +kernel
theorem d_Mod_give_17 : decode b_Mod_give 17 = .ok (.iconst 1, 1) := by decide +kernel
theorem d_Mod_give_18 : decode b_Mod_give 18 = .ok (.istore_n 2, 1) := by decide +kernel
theorem d_Mod_give_19 : decode b_Mod_give 19 = .ok (.iload_n 1, 1) := by decide +kernel
theorem d_Mod_give_20 : decode b_Mod_give 20 = .ok (.bipush 9, 2) := by decide +kernel
theorem d_Mod_give_22 : decode b_Mod_give 22 = .ok (.if_icmp .lt 16, 3) := by decide +kernel
theorem d_Mod_give_25 : decode b_Mod_give 25 = .ok (.aload_n 0, 1) := by decide +kernel
theorem d_Mod_give_26 : decode b_Mod_give 26 = .ok (.bipush 23, 2) := by decide +kernel
theorem d_Mod_give_28 : decode b_Mod_give 28 = .ok (.aload_n 0, 1) := by decide +kernel
theorem d_Mod_give_29 : decode b_Mod_give 29 = .ok (.getfield 309, 3) := by decide +kernel
theorem d_Mod_give_32 : decode b_Mod_give 32 = .ok (.invokevirtual 159, 3) := by decide +kernel
theorem d_Mod_give_35 : decode b_Mod_give 35 = .ok (.goto 77, 3) := by decide +kernel
theorem d_Mod_give_38 : decode b_Mod_give 38 = .ok (.aload_n 0, 1) := by decide +kernel
theorem d_Mod_give_39 : decode b_Mod_give 39 = .ok (.getfield 312, 3) := by decide +kernel
theorem d_Mod_give_42 : decode b_Mod_give 42 = .ok (.iload_n 2, 1) := by decide +kernel
theorem d_Mod_give_43 : decode b_Mod_give 43 = .ok (.iadd, 1) := by decide +kernel
theorem d_Mod_give_44 : decode b_Mod_give 44 = .ok (.aload_n 0, 1) := by decide +kernel
theorem d_Mod_give_45 : decode b_Mod_give 45 = .ok (.getfield 65, 3) := by decide +kernel
theorem d_Mod_give_48 : decode b_Mod_give 48 = .ok (.aload_n 0, 1) := by decide +kernel
theorem d_Mod_give_49 : decode b_Mod_give 49 = .ok (.getfield 315, 3) := by decide +kernel
theorem d_Mod_give_52 : decode b_Mod_give 52 = .ok (.iaload, 1) := by decide +kernel
theorem d_Mod_give_53 : decode b_Mod_give 53 = .ok (.if_icmp .le 16, 3) := by decide +kernel
theorem d_Mod_give_56 : decode b_Mod_give 56 = .ok (.aload_n 0, 1) := by decide +kernel
theorem d_Mod_give_57 : decode b_Mod_give 57 = .ok (.bipush 22, 2) := by decide +kernel
theorem d_Mod_give_59 : decode b_Mod_give 59 = .ok (.aload_n 0, 1) := by decide +kernel
theorem d_Mod_give_60 : decode b_Mod_give 60 = .ok (.getfield 309, 3) := by decide +kernel
theorem d_Mod_give_63 : decode b_Mod_give 63 = .ok (.invokevirtual 159, 3) := by decide +kernel
theorem d_Mod_give_66 : decode b_Mod_give 66 = .ok (.goto 46, 3) := by decide +kernel
theorem d_Mod_give_69 : decode b_Mod_give 69 = .ok (.aload_n 0, 1) := by decide +kernel
theorem d_Mod_give_70 : decode b_Mod_give 70 = .ok (.getfield 100, 3) := by decide +kernel
theorem d_Mod_give_73 : decode b_Mod_give 73 = .ok (.bipush 64, 2) := by decide +kernel
theorem d_Mod_give_75 : decode b_Mod_give 75 = .ok (.aload_n 0, 1) := by decide +kernel
theorem d_Mod_give_76 : decode b_Mod_give 76 = .ok (.getfield 312, 3) := by decide +kernel
theorem d_Mod_give_79 : decode b_Mod_give 79 = .ok (.iadd, 1) := by decide +kernel
theorem d_Mod_give_80 : decode b_Mod_give 80 = .ok (.iload_n 1, 1) := by decide +kernel
theorem d_Mod_give_81 : decode b_Mod_give 81 = .ok (.iastore, 1) := by decide +kernel
theorem d_Mod_give_82 : decode b_Mod_give 82 = .ok (.iload_n 1, 1) := by decide +kernel
theorem d_Mod_give_83 : decode b_Mod_give 83 = .ok (.iconst 2, 1) := by decide +kernel
theorem d_Mod_give_84 : decode b_Mod_give 84 = .ok (.if_icmp .ne 18, 3) := by decide +kernel
theorem d_Mod_give_87 : decode b_Mod_give 87 = .ok (.aload_n 0, 1) := by decide +kernel
theorem d_Mod_give_88 : decode b_Mod_give 88 = .ok (.getfield 100, 3) := by decide +kernel
theorem d_Mod_give_91 : decode b_Mod_give 91 = .ok (.bipush 64, 2) := by decide +kernel
theorem d_Mod_give_93 : decode b_Mod_give 93 = .ok (.aload_n 0, 1) := by decide +kernel
theorem d_Mod_give_94 : decode b_Mod_give 94 = .ok (.getfield 312, 3) := by decide +kernel
theorem d_Mod_give_97 : decode b_Mod_give 97 = .ok (.iadd, 1) := by decide +kernel
theorem d_Mod_give_98 : decode b_Mod_give 98 = .ok (.iconst 1, 1) := by decide +kernel
theorem d_Mod_give_99 : decode b_Mod_give 99 = .ok (.iadd, 1) := by decide +kernel
theorem d_Mod_give_100 : decode b_Mod_give 100 = .ok (.iconst 3, 1) := by decide +kernel
theorem d_Mod_give_101 : decode b_Mod_give 101 = .ok (.iastore, 1) := by decide +kernel
theorem d_Mod_give_102 : decode b_Mod_give 102 = .ok (.aload_n 0, 1) := by decide +kernel
theorem d_Mod_give_103 : decode b_Mod_give 103 = .ok (.aload_n 0, 1) := by decide +kernel
theorem d_Mod_give_104 : decode b_Mod_give 104 = .ok (.getfield 312, 3) := by decide +kernel
theorem d_Mod_give_107 : decode b_Mod_give 107 = .ok (.iload_n 2, 1) := by decide +kernel
theorem d_Mod_give_108 : decode b_Mod_give 108 = .ok (.iadd, 1) := by decide +kernel
theorem d_Mod_give_109 : decode b_Mod_give 109 = .ok (.putfield 312, 3) := by decide +kernel
theorem d_Mod_give_112 : decode b_Mod_give 112 = .ok (.return_, 1) := by decide +kernel
theorem d_Mod_giveAnswer_0 : decode b_Mod_giveAnswer 0 = .ok (.iload_n 1, 1) := by decide +kernel
theorem d_Mod_giveAnswer_1 : decode b_Mod_giveAnswer 1 = .ok (.ifCond .eq 8, 3) := by decide +kernel
theorem d_Mod_giveAnswer_4 : decode b_Mod_giveAnswer 4 = .ok (.aload_n 0, 1) := by decide +kernel
theorem d_Mod_giveAnswer_5 : decode b_Mod_giveAnswer 5 = .ok (.iload_n 1, 1) := by decide +kernel
theorem d_Mod_giveAnswer_6 : decode b_Mod_giveAnswer 6 = .ok (.invokevirtual 321, 3) := by decide +kernel
theorem d_Mod_giveAnswer_9 : decode b_Mod_giveAnswer 9 = .ok (.return_, 1) := by decide +kernel
theorem d_Mod_needLocal_0 : decode b_Mod_needLocal 0 = .ok (.iload_n 1, 1) := by decide +kernel
theorem d_Mod_needLocal_1 : decode b_Mod_needLocal 1 = .ok (.aload_n 0, 1) := by decide +kernel
theorem d_Mod_needLocal_2 : decode b_Mod_needLocal 2 = .ok (.getfield 68, 3) := by decide +kernel
theorem d_Mod_needLocal_5 : decode b_Mod_needLocal 5 = .ok (.aload_n 0, 1) := by decide +kernel
theorem d_Mod_needLocal_6 : decode b_Mod_needLocal 6 = .ok (.getfield 315, 3) := by decide +kernel
theorem d_Mod_needLocal_9 : decode b_Mod_needLocal 9 = .ok (.iaload, 1) := by decide +kernel
theorem d_Mod_needLocal_10 : decode b_Mod_needLocal 10 = .ok (.if_icmp .ge 23, 3) := by decide +kernel
theorem d_Mod_needLocal_13 : decode b_Mod_needLocal 13 = .ok (.iload_n 2, 1) := by decide +kernel
theorem d_Mod_needLocal_14 : decode b_Mod_needLocal 14 = .ok (.iconst 2, 1) := by decide +kernel
theorem d_Mod_needLocal_15 : decode b_Mod_needLocal 15 = .ok (.if_icmp .ne 28, 3) := by decide +kernel
theorem d_Mod_needLocal_18 : decode b_Mod_needLocal 18 = .ok (.iload_n 1, 1) := by decide +kernel
theorem d_Mod_needLocal_19 : decode b_Mod_needLocal 19 = .ok (.iconst 1, 1) := by decide +kernel
theorem d_Mod_needLocal_20 : decode b_Mod_needLocal 20 = .ok (.iadd, 1) := by decide +kernel
theorem d_Mod_needLocal_21 : decode b_Mod_needLocal 21 = .ok (.aload_n 0, 1) := by decide +kernel
theorem d_Mod_needLocal_22 : decode b_Mod_needLocal 22 = .ok (.getfield 68, 3) := by decide +kernel
theorem d_Mod_needLocal_25 : decode b_Mod_needLocal 25 = .ok (.aload_n 0, 1) := by decide +kernel
theorem d_Mod_needLocal_26 : decode b_Mod_needLocal 26 = .ok (.getfield 315, 3) := by decide +kernel
theorem d_Mod_needLocal_29 : decode b_Mod_needLocal 29 = .ok (.iaload, 1) := by decide +kernel
theorem d_Mod_needLocal_30 : decode b_Mod_needLocal 30 = .ok (.if_icmp .lt 13, 3) := by decide +kernel
theorem d_Mod_needLocal_33 : decode b_Mod_needLocal 33 = .ok (.aload_n 0, 1) := by decide +kernel
theorem d_Mod_needLocal_34 : decode b_Mod_needLocal 34 = .ok (.bipush 21, 2) := by decide +kernel
theorem d_Mod_needLocal_36 : decode b_Mod_needLocal 36 = .ok (.aload_n 0, 1) := by decide +kernel
theorem d_Mod_needLocal_37 : decode b_Mod_needLocal 37 = .ok (.getfield 309, 3) := by decide +kernel
theorem d_Mod_needLocal_40 : decode b_Mod_needLocal 40 = .ok (.invokevirtual 159, 3) := by decide +kernel
theorem d_Mod_needLocal_43 : decode b_Mod_needLocal 43 = .ok (.return_, 1) := by decide +kernel
theorem d_Mod_refer_0 : decode b_Mod_refer 0 = .ok (.iload_n 1, 1) := by decide +kernel
theorem d_Mod_refer_1 : decode b_Mod_refer 1 = .ok (.ifCond .ne 13, 3) := by decide +kernel
theorem d_Mod_refer_4 : decode b_Mod_refer 4 = .ok (.aload_n 0, 1) := by decide +kernel
theorem d_Mod_refer_5 : decode b_Mod_refer 5 = .ok (.bipush 6, 2) := by decide +kernel
theorem d_Mod_refer_7 : decode b_Mod_refer 7 = .ok (.aload_n 0, 1) := by decide +kernel
theorem d_Mod_refer_8 : decode b_Mod_refer 8 = .ok (.getfield 309, 3) := by decide +kernel
theorem d_Mod_refer_11 : decode b_Mod_refer 11 = .ok (.invokevirtual 159, 3) := by decide +kernel
theorem d_Mod_refer_14 : decode b_Mod_refer 14 = .ok (.return_, 1) := by decide +kernel
theorem d_Mod_spoil_0 : decode b_Mod_spoil 0 = .ok (.aload_n 0, 1) := by decide +kernel
theorem d_Mod_spoil_1 : decode b_Mod_spoil 1 = .ok (.getfield 100, 3) := by decide +kernel
theorem d_Mod_spoil_4 : decode b_Mod_spoil 4 = .ok (.iload_n 1, 1) := by decide +kernel
theorem d_Mod_spoil_5 : decode b_Mod_spoil 5 = .ok (.iaload, 1) := by decide +kernel
theorem d_Mod_spoil_6 : decode b_Mod_spoil 6 = .ok (.iconst 2, 1) := by decide +kernel
theorem d_Mod_spoil_7 : decode b_Mod_spoil 7 = .ok (.if_icmp .ne 15, 3) := by decide +kernel
theorem d_Mod_spoil_10 : decode b_Mod_spoil 10 = .ok (.aload_n 0, 1) := by decide +kernel
theorem d_Mod_spoil_11 : decode b_Mod_spoil 11 = .ok (.getfield 100, 3) := by decide +kernel
theorem d_Mod_spoil_14 : decode b_Mod_spoil 14 = .ok (.iload_n 1, 1) := by decide +kernel
theorem d_Mod_spoil_15 : decode b_Mod_spoil 15 = .ok (.iconst 1, 1) := by decide +kernel
theorem d_Mod_spoil_16 : decode b_Mod_spoil 16 = .ok (.iadd, 1) := by decide +kernel
theorem d_Mod_spoil_17 : decode b_Mod_spoil 17 = .ok (.iconst 0, 1) := by decide +kernel
theorem d_Mod_spoil_18 : decode b_Mod_spoil 18 = .ok (.iastore, 1) := by decide +kernel
theorem d_Mod_spoil_19 : decode b_Mod_spoil 19 = .ok (.goto 22, 3) := by decide +kernel
theorem d_Mod_spoil_22 : decode b_Mod_spoil 22 = .ok (.aload_n 0, 1) := by decide +kernel
theorem d_Mod_spoil_23 : decode b_Mod_spoil 23 = .ok (.getfield 100, 3) := by decide +kernel
theorem d_Mod_spoil_26 : decode b_Mod_spoil 26 = .ok (.iload_n 1, 1) := by decide +kernel
theorem d_Mod_spoil_27 : decode b_Mod_spoil 27 = .ok (.iaload, 1) := by decide +kernel
theorem d_Mod_spoil_28 : decode b_Mod_spoil 28 = .ok (.iconst 3, 1) := by decide +kernel
theorem d_Mod_spoil_29 : decode b_Mod_spoil 29 = .ok (.if_icmp .ne 12, 3) := by decide +kernel
theorem d_Mod_spoil_32 : decode b_Mod_spoil 32 = .ok (.aload_n 0, 1) := by decide +kernel
theorem d_Mod_spoil_33 : decode b_Mod_spoil 33 = .ok (.getfield 100, 3) := by decide +kernel
theorem d_Mod_spoil_36 : decode b_Mod_spoil 36 = .ok (.iload_n 1, 1) := by decide +kernel
theorem d_Mod_spoil_37 : decode b_Mod_spoil 37 = .ok (.iconst 1, 1) := by decide +kernel
theorem d_Mod_spoil_38 : decode b_Mod_spoil 38 = .ok (.isub, 1) := by decide +kernel
theorem d_Mod_spoil_39 : decode b_Mod_spoil 39 = .ok (.iconst 0, 1) := by decide +kernel
theorem d_Mod_spoil_40 : decode b_Mod_spoil 40 = .ok (.iastore, 1) := by decide +kernel
theorem d_Mod_spoil_41 : decode b_Mod_spoil 41 = .ok (.return_, 1) := by decide +kernel
theorem d_Mod_store_0 : decode b_Mod_store 0 = .ok (.aload_n 0, 1) := by decide +kernel
theorem d_Mod_store_1 : decode b_Mod_store 1 = .ok (.iload_n 1, 1) := by decide +kernel
theorem d_Mod_store_2 : decode b_Mod_store 2 = .ok (.iload_n 2, 1) := by decide +kernel
theorem d_Mod_store_3 : decode b_Mod_store 3 = .ok (.invokevirtual 318, 3) := by decide +kernel
theorem d_Mod_store_6 : decode b_Mod_store 6 = .ok (.aload_n 0, 1) := by decide +kernel
theorem d_Mod_store_7 : decode b_Mod_store 7 = .ok (.iload_n 2, 1) := by decide +kernel
theorem d_Mod_store_8 : decode b_Mod_store 8 = .ok (.invokevirtual 324, 3) := by decide +kernel
theorem d_Mod_store_11 : decode b_Mod_store 11 = .ok (.aload_n 0, 1) := by decide +kernel
theorem d_Mod_store_12 : decode b_Mod_store 12 = .ok (.getfield 147, 3) := by decide +kernel
theorem d_Mod_store_15 : decode b_Mod_store 15 = .ok (.ifCond .eq 4, 3) := by decide +kernel
theorem d_Mod_store_18 : decode b_Mod_store 18 = .ok (.return_, 1) := by decide +kernel
theorem d_Mod_store_19 : decode b_Mod_store 19 = .ok (.aload_n 0, 1) := by decide +kernel
theorem d_Mod_store_20 : decode b_Mod_store 20 = .ok (.iload_n 1, 1) := by decide +kernel
theorem d_Mod_store_21 : decode b_Mod_store 21 = .ok (.invokevirtual 327, 3) := by decide +kernel
theorem d_Mod_store_24 : decode b_Mod_store 24 = .ok (.aload_n 0, 1) := by decide +kernel
theorem d_Mod_store_25 : decode b_Mod_store 25 = .ok (.getfield 100, 3) := by decide +kernel
theorem d_Mod_store_28 : decode b_Mod_store 28 = .ok (.iload_n 1, 1) := by decide +kernel
theorem d_Mod_store_29 : decode b_Mod_store 29 = .ok (.iload_n 2, 1) := by decide +kernel
theorem d_Mod_store_30 : decode b_Mod_store 30 = .ok (.iastore, 1) := by decide +kernel
theorem d_Mod_store_31 : decode b_Mod_store 31 = .ok (.iload_n 2, 1) := by decide +kernel
theorem d_Mod_store_32 : decode b_Mod_store 32 = .ok (.iconst 2, 1) := by decide +kernel
theorem d_Mod_store_33 : decode b_Mod_store 33 = .ok (.if_icmp .ne 33, 3) := by decide +kernel
theorem d_Mod_store_36 : decode b_Mod_store 36 = .ok (.aload_n 0, 1) := by decide +kernel
theorem d_Mod_store_37 : decode b_Mod_store 37 = .ok (.getfield 100, 3) := by decide +kernel
theorem d_Mod_store_40 : decode b_Mod_store 40 = .ok (.iload_n 1, 1) := by decide +kernel
theorem d_Mod_store_41 : decode b_Mod_store 41 = .ok (.iconst 1, 1) := by decide +kernel
theorem d_Mod_store_42 : decode b_Mod_store 42 = .ok (.iadd, 1) := by decide +kernel
theorem d_Mod_store_43 : decode b_Mod_store 43 = .ok (.iaload, 1) := by decide +kernel
theorem d_Mod_store_44 : decode b_Mod_store 44 = .ok (.iconst 2, 1) := by decide +kernel
theorem d_Mod_store_45 : decode b_Mod_store 45 = .ok (.if_icmp .ne 12, 3) := by decide +kernel
theorem d_Mod_store_48 : decode b_Mod_store 48 = .ok (.aload_n 0, 1) := by decide +kernel
theorem d_Mod_store_49 : decode b_Mod_store 49 = .ok (.getfield 100, 3) := by decide +kernel
theorem d_Mod_store_52 : decode b_Mod_store 52 = .ok (.iload_n 1, 1) := by decide +kernel
theorem d_Mod_store_53 : decode b_Mod_store 53 = .ok (.iconst 2, 1) := by decide +kernel
theorem d_Mod_store_54 : decode b_Mod_store 54 = .ok (.iadd, 1) := by decide +kernel
theorem d_Mod_store_55 : decode b_Mod_store 55 = .ok (.iconst 0, 1) := by decide +kernel
theorem d_Mod_store_56 : decode b_Mod_store 56 = .ok (.iastore, 1) := by decide +kernel
theorem d_Mod_store_57 : decode b_Mod_store 57 = .ok (.aload_n 0, 1) := by decide +kernel
theorem d_Mod_store_58 : decode b_Mod_store 58 = .ok (.getfield 100, 3) := by decide +kernel
theorem d_Mod_store_61 : decode b_Mod_store 61 = .ok (.iload_n 1, 1) := by decide +kernel
theorem d_Mod_store_62 : decode b_Mod_store 62 = .ok (.iconst 1, 1) := by decide +kernel
theorem d_Mod_store_63 : decode b_Mod_store 63 = .ok (.iadd, 1) := by decide +kernel
theorem d_Mod_store_64 : decode b_Mod_store 64 = .ok (.iconst 3, 1) := by decide +kernel
theorem d_Mod_store_65 : decode b_Mod_store 65 = .ok (.iastore, 1) := by decide +kernel
theorem d_Mod_store_66 : decode b_Mod_store 66 = .ok (.return_, 1) := by decide +kernel
theorem d_Mod_take_0 : decode b_Mod_take 0 = .ok (.aload_n 0, 1) := by decide +kernel
theorem d_Mod_take_1 : decode b_Mod_take 1 = .ok (.getfield 147, 3) := by decide +kernel
theorem d_Mod_take_4 : decode b_Mod_take 4 = .ok (.ifCond .eq 4, 3) := by decide +kernel
theorem d_Mod_take_7 : decode b_Mod_take 7 = .ok (.return_, 1) := by decide +kernel
theorem d_Mod_take_8 : decode b_Mod_take 8 = .ok (.iload_n 1, 1) := by decide +kernel
theorem d_Mod_take_9 : decode b_Mod_take 9 = .ok (.bipush 9, 2) := by decide +kernel
theorem d_Mod_take_11 : decode b_Mod_take 11 = .ok (.if_icmp .lt 16, 3) := by decide +kernel
theorem d_Mod_take_14 : decode b_Mod_take 14 = .ok (.aload_n 0, 1) := by decide +kernel
theorem d_Mod_take_15 : decode b_Mod_take 15 = .ok (.bipush 23, 2) := by decide +kernel
theorem d_Mod_take_17 : decode b_Mod_take 17 = .ok (.aload_n 0, 1) := by decide +kernel
theorem d_Mod_take_18 : decode b_Mod_take 18 = .ok (.getfield 309, 3) := by decide +kernel
theorem d_Mod_take_21 : decode b_Mod_take 21 = .ok (.invokevirtual 159, 3) := by decide +kernel
theorem d_Mod_take_24 : decode b_Mod_take 24 = .ok (.goto 87, 3) := by decide +kernel
theorem d_Mod_take_27 : decode b_Mod_take 27 = .ok (.aload_n 0, 1) := by decide +kernel
theorem d_Mod_take_28 : decode b_Mod_take 28 = .ok (.getfield 312, 3) := by decide +kernel
theorem d_Mod_take_31 : decode b_Mod_take 31 = .ok (.ifCond .ne 16, 3) := by decide +kernel
theorem d_Mod_take_34 : decode b_Mod_take 34 = .ok (.aload_n 0, 1) := by decide +kernel
theorem d_Mod_take_35 : decode b_Mod_take 35 = .ok (.bipush 22, 2) := by decide +kernel
theorem d_Mod_take_37 : decode b_Mod_take 37 = .ok (.aload_n 0, 1) := by decide +kernel
theorem d_Mod_take_38 : decode b_Mod_take 38 = .ok (.getfield 309, 3) := by decide +kernel
theorem d_Mod_take_41 : decode b_Mod_take 41 = .ok (.invokevirtual 159, 3) := by decide +kernel
theorem d_Mod_take_44 : decode b_Mod_take 44 = .ok (.goto 67, 3) := by decide +kernel
theorem d_Mod_take_47 : decode b_Mod_take 47 = .ok (.aload_n 0, 1) := by decide +kernel
theorem d_Mod_take_48 : decode b_Mod_take 48 = .ok (.getfield 100, 3) := by decide +kernel
theorem d_Mod_take_51 : decode b_Mod_take 51 = .ok (.bipush 64, 2) := by decide +kernel
theorem d_Mod_take_53 : decode b_Mod_take 53 = .ok (.aload_n 0, 1) := by decide +kernel
theorem d_Mod_take_54 : decode b_Mod_take 54 = .ok (.getfield 312, 3) := by decide +kernel
theorem d_Mod_take_57 : decode b_Mod_take 57 = .ok (.iadd, 1) := by decide +kernel
theorem d_Mod_take_58 : decode b_Mod_take 58 = .ok (.iconst 1, 1) := by decide +kernel
theorem d_Mod_take_59 : decode b_Mod_take 59 = .ok (.isub, 1) := by decide +kernel
theorem d_Mod_take_60 : decode b_Mod_take 60 = .ok (.iaload, 1) := by decide +kernel
theorem d_Mod_take_61 : decode b_Mod_take 61 = .ok (.iload_n 1, 1) := by decide +kernel
theorem d_Mod_take_62 : decode b_Mod_take 62 = .ok (.iconst 2, 1) := by decide +kernel
theorem d_Mod_take_63 : decode b_Mod_take 63 = .ok (.if_icmp .ne 7, 3) := by decide +kernel
theorem d_Mod_take_66 : decode b_Mod_take 66 = .ok (.iconst 3, 1) := by decide +kernel
theorem d_Mod_take_67 : decode b_Mod_take 67 = .ok (.goto 4, 3) := by decide +kernel
theorem d_Mod_take_70 : decode b_Mod_take 70 = .ok (.iload_n 1, 1) := by decide +kernel
theorem d_Mod_take_71 : decode b_Mod_take 71 = .ok (.if_icmp .eq 16, 3) := by decide +kernel
theorem d_Mod_take_74 : decode b_Mod_take 74 = .ok (.aload_n 0, 1) := by decide +kernel
theorem d_Mod_take_75 : decode b_Mod_take 75 = .ok (.bipush 23, 2) := by decide +kernel
theorem d_Mod_take_77 : decode b_Mod_take 77 = .ok (.aload_n 0, 1) := by decide +kernel
theorem d_Mod_take_78 : decode b_Mod_take 78 = .ok (.getfield 309, 3) := by decide +kernel
theorem d_Mod_take_81 : decode b_Mod_take 81 = .ok (.invokevirtual 159, 3) := by decide +kernel
theorem d_Mod_take_84 : decode b_Mod_take 84 = .ok (.goto 27, 3) := by decide +kernel
theorem d_Mod_take_87 : decode b_Mod_take 87 = .ok (.aload_n 0, 1) := by decide +kernel
theorem d_Mod_take_88 : decode b_Mod_take 88 = .ok (.iload_n 1, 1) := by decide +kernel
theorem d_Mod_take_89 : decode b_Mod_take 89 = .ok (.iconst 2, 1) := by decide +kernel
theorem d_Mod_take_90 : decode b_Mod_take 90 = .ok (.if_icmp .ne 12, 3) := by decide +kernel
theorem d_Mod_take_93 : decode b_Mod_take 93 = .ok (.aload_n 0, 1) := by decide +kernel
theorem d_Mod_take_94 : decode b_Mod_take 94 = .ok (.getfield 312, 3) := by decide +kernel
theorem d_Mod_take_97 : decode b_Mod_take 97 = .ok (.iconst 2, 1) := by decide +kernel
theorem d_Mod_take_98 : decode b_Mod_take 98 = .ok (.isub, 1) := by decide +kernel
theorem d_Mod_take_99 : decode b_Mod_take 99 = .ok (.goto 9, 3) := by decide +kernel
theorem d_Mod_take_102 : decode b_Mod_take 102 = .ok (.aload_n 0, 1) := by decide +kernel
theorem d_Mod_take_103 : decode b_Mod_take 103 = .ok (.getfield 312, 3) := by decide +kernel
theorem d_Mod_take_106 : decode b_Mod_take 106 = .ok (.iconst 1, 1) := by decide +kernel
theorem d_Mod_take_107 : decode b_Mod_take 107 = .ok (.isub, 1) := by decide +kernel
theorem d_Mod_take_108 : decode b_Mod_take 108 = .ok (.putfield 312, 3) := by decide +kernel
theorem d_Mod_take_111 : decode b_Mod_take 111 = .ok (.return_, 1) := by decide +kernel
theorem d_Mod_takeSingle_0 : decode b_Mod_takeSingle 0 = .ok (.aload_n 0, 1) := by decide +kernel
theorem d_Mod_takeSingle_1 : decode b_Mod_takeSingle 1 = .ok (.getfield 147, 3) := by decide +kernel
theorem d_Mod_takeSingle_4 : decode b_Mod_takeSingle 4 = .ok (.ifCond .ne 20, 3) := by decide +kernel
theorem d_Mod_takeSingle_7 : decode b_Mod_takeSingle 7 = .ok (.aload_n 0, 1) := by decide +kernel
theorem d_Mod_takeSingle_8 : decode b_Mod_takeSingle 8 = .ok (.getfield 312, 3) := by decide +kernel
theorem d_Mod_takeSingle_11 : decode b_Mod_takeSingle 11 = .ok (.ifCond .ne 13, 3) := by decide +kernel
theorem d_Mod_takeSingle_14 : decode b_Mod_takeSingle 14 = .ok (.aload_n 0, 1) := by decide +kernel
theorem d_Mod_takeSingle_15 : decode b_Mod_takeSingle 15 = .ok (.bipush 22, 2) := by decide +kernel
theorem d_Mod_takeSingle_17 : decode b_Mod_takeSingle 17 = .ok (.aload_n 0, 1) := by decide +kernel
theorem d_Mod_takeSingle_18 : decode b_Mod_takeSingle 18 = .ok (.getfield 309, 3) := by decide +kernel
theorem d_Mod_takeSingle_21 : decode b_Mod_takeSingle 21 = .ok (.invokevirtual 159, 3) := by decide +kernel
theorem d_Mod_takeSingle_24 : decode b_Mod_takeSingle 24 = .ok (.aload_n 0, 1) := by decide +kernel
theorem d_Mod_takeSingle_25 : decode b_Mod_takeSingle 25 = .ok (.getfield 147, 3) := by decide +kernel
theorem d_Mod_takeSingle_28 : decode b_Mod_takeSingle 28 = .ok (.ifCond .ne 20, 3) := by decide +kernel
theorem d_Mod_takeSingle_31 : decode b_Mod_takeSingle 31 = .ok (.aload_n 0, 1) := by decide +kernel
theorem d_Mod_takeSingle_32 : decode b_Mod_takeSingle 32 = .ok (.getfield 100, 3) := by decide +kernel
theorem d_Mod_takeSingle_35 : decode b_Mod_takeSingle 35 = .ok (.bipush 64, 2) := by decide +kernel
theorem d_Mod_takeSingle_37 : decode b_Mod_takeSingle 37 = .ok (.aload_n 0, 1) := by decide +kernel
theorem d_Mod_takeSingle_38 : decode b_Mod_takeSingle 38 = .ok (.getfield 312, 3) := by decide +kernel
theorem d_Mod_takeSingle_41 : decode b_Mod_takeSingle 41 = .ok (.iadd, 1) := by decide +kernel
theorem d_Mod_takeSingle_42 : decode b_Mod_takeSingle 42 = .ok (.iconst 1, 1) := by decide +kernel
theorem d_Mod_takeSingle_43 : decode b_Mod_takeSingle 43 = .ok (.isub, 1) := by decide +kernel
theorem d_Mod_takeSingle_44 : decode b_Mod_takeSingle 44 = .ok (.iaload, 1) := by decide +kernel
theorem d_Mod_takeSingle_45 : decode b_Mod_takeSingle 45 = .ok (.goto 4, 3) := by decide +kernel
theorem d_Mod_takeSingle_48 : decode b_Mod_takeSingle 48 = .ok (.iconst 0, 1) := by decide +kernel
theorem d_Mod_takeSingle_49 : decode b_Mod_takeSingle 49 = .ok (.istore_n 1, 1) := by decide +kernel
theorem d_Mod_takeSingle_50 : decode b_Mod_takeSingle 50 = .ok (.aload_n 0, 1) := by decide +kernel
theorem d_Mod_takeSingle_51 : decode b_Mod_takeSingle 51 = .ok (.getfield 147, 3) := by decide +kernel
theorem d_Mod_takeSingle_54 : decode b_Mod_takeSingle 54 = .ok (.ifCond .ne 18, 3) := by decide +kernel
theorem d_Mod_takeSingle_57 : decode b_Mod_takeSingle 57 = .ok (.iload_n 1, 1) := by decide +kernel
theorem d_Mod_takeSingle_58 : decode b_Mod_takeSingle 58 = .ok (.iconst 3, 1) := by decide +kernel
theorem d_Mod_takeSingle_59 : decode b_Mod_takeSingle 59 = .ok (.if_icmp .ne 13, 3) := by decide +kernel
theorem d_Mod_takeSingle_62 : decode b_Mod_takeSingle 62 = .ok (.aload_n 0, 1) := by decide +kernel
theorem d_Mod_takeSingle_63 : decode b_Mod_takeSingle 63 = .ok (.bipush 23, 2) := by decide +kernel
theorem d_Mod_takeSingle_65 : decode b_Mod_takeSingle 65 = .ok (.aload_n 0, 1) := by decide +kernel
theorem d_Mod_takeSingle_66 : decode b_Mod_takeSingle 66 = .ok (.getfield 309, 3) := by decide +kernel
theorem d_Mod_takeSingle_69 : decode b_Mod_takeSingle 69 = .ok (.invokevirtual 159, 3) := by decide +kernel
theorem d_Mod_takeSingle_72 : decode b_Mod_takeSingle 72 = .ok (.aload_n 0, 1) := by decide +kernel
theorem d_Mod_takeSingle_73 : decode b_Mod_takeSingle 73 = .ok (.aload_n 0, 1) := by decide +kernel
theorem d_Mod_takeSingle_74 : decode b_Mod_takeSingle 74 = .ok (.getfield 147, 3) := by decide +kernel
theorem d_Mod_takeSingle_77 : decode b_Mod_takeSingle 77 = .ok (.ifCond .ne 12, 3) := by decide +kernel
theorem d_Mod_takeSingle_80 : decode b_Mod_takeSingle 80 = .ok (.aload_n 0, 1) := by decide +kernel
theorem d_Mod_takeSingle_81 : decode b_Mod_takeSingle 81 = .ok (.getfield 312, 3) := by decide +kernel
theorem d_Mod_takeSingle_84 : decode b_Mod_takeSingle 84 = .ok (.iconst 1, 1) := by decide +kernel
theorem d_Mod_takeSingle_85 : decode b_Mod_takeSingle 85 = .ok (.isub, 1) := by decide +kernel
theorem d_Mod_takeSingle_86 : decode b_Mod_takeSingle 86 = .ok (.goto 7, 3) := by decide +kernel
theorem d_Mod_takeSingle_89 : decode b_Mod_takeSingle 89 = .ok (.aload_n 0, 1) := by decide +kernel
theorem d_Mod_takeSingle_90 : decode b_Mod_takeSingle 90 = .ok (.getfield 312, 3) := by decide +kernel
theorem d_Mod_takeSingle_93 : decode b_Mod_takeSingle 93 = .ok (.putfield 312, 3) := by decide +kernel
theorem d_Mod_takeSingle_96 : decode b_Mod_takeSingle 96 = .ok (.iload_n 1, 1) := by decide +kernel
theorem d_Mod_takeSingle_97 : decode b_Mod_takeSingle 97 = .ok (.ireturn, 1) := by decide +kernel
