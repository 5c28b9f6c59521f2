theorem d_Image_add_0 : decode b_Image_add 0 = .ok (.aload_n 0, 1) := by decide +kernel
theorem d_Image_add_1 : decode b_Image_add 1 = .ok (.getfield 15, 3) := by decide +kernel
theorem d_Image_add_4 : decode b_Image_add 4 = .ok (.sipush 600, 3) := by decide +kernel
theorem d_Image_add_7 : decode b_Image_add 7 = .ok (.if_icmp .ge 24, 3) := by decide +kernel
theorem d_Image_add_10 : decode b_Image_add 10 = .ok (.aload_n 0, 1) := by decide +kernel
theorem d_Image_add_11 : decode b_Image_add 11 = .ok (.getfield 9, 3) := by decide +kernel
theorem d_Image_add_14 : decode b_Image_add 14 = .ok (.aload_n 0, 1) := by decide +kernel
theorem d_Image_add_15 : decode b_Image_add 15 = .ok (.getfield 15, 3) := by decide +kernel
theorem d_Image_add_18 : decode b_Image_add 18 = .ok (.iload_n 1, 1) := by decide +kernel
theorem d_Image_add_19 : decode b_Image_add 19 = .ok (.i2b, 1) := by decide +kernel
theorem d_Image_add_20 : decode b_Image_add 20 = .ok (.bastore, 1) := by decide +kernel
theorem d_Image_add_21 : decode b_Image_add 21 = .ok (.aload_n 0, 1) := by decide +kernel
theorem d_Image_add_22 : decode b_Image_add 22 = .ok (.dup, 1) := by decide +kernel
theorem d_Image_add_23 : decode b_Image_add 23 = .ok (.getfield 15, 3) := by decide +kernel
theorem d_Image_add_26 : decode b_Image_add 26 = .ok (.iconst 1, 1) := by decide +kernel
theorem d_Image_add_27 : decode b_Image_add 27 = .ok (.iadd, 1) := by decide +kernel
theorem d_Image_add_28 : decode b_Image_add 28 = .ok (.putfield 15, 3) := by decide +kernel
theorem d_Image_add_31 : decode b_Image_add 31 = .ok (.return_, 1) := by decide +kernel
theorem d_Image_change_0 : decode b_Image_change 0 = .ok (.iload_n 1, 1) := by decide +kernel
theorem d_Image_change_1 : decode b_Image_change 1 = .ok (.ifCond .lt 19, 3) := by decide +kernel
theorem d_Image_change_4 : decode b_Image_change 4 = .ok (.iload_n 1, 1) := by decide +kernel
theorem d_Image_change_5 : decode b_Image_change 5 = .ok (.aload_n 0, 1) := by decide +kernel
theorem d_Image_change_6 : decode b_Image_change 6 = .ok (.getfield 15, 3) := by decide +kernel
theorem d_Image_change_9 : decode b_Image_change 9 = .ok (.if_icmp .ge 11, 3) := by decide +kernel
theorem d_Image_change_12 : decode b_Image_change 12 = .ok (.aload_n 0, 1) := by decide +kernel
theorem d_Image_change_13 : decode b_Image_change 13 = .ok (.getfield 9, 3) := by decide +kernel
theorem d_Image_change_16 : decode b_Image_change 16 = .ok (.iload_n 1, 1) := by decide +kernel
theorem d_Image_change_17 : decode b_Image_change 17 = .ok (.iload_n 2, 1) := by decide +kernel
theorem d_Image_change_18 : decode b_Image_change 18 = .ok (.i2b, 1) := by decide +kernel
theorem d_Image_change_19 : decode b_Image_change 19 = .ok (.bastore, 1) := by decide +kernel
theorem d_Image_change_20 : decode b_Image_change 20 = .ok (.return_, 1) := by decide +kernel
theorem d_Image_oneAt_0 : decode b_Image_oneAt 0 = .ok (.iload_n 1, 1) := by decide +kernel
theorem d_Image_oneAt_1 : decode b_Image_oneAt 1 = .ok (.ifCond .lt 24, 3) := by decide +kernel
theorem d_Image_oneAt_4 : decode b_Image_oneAt 4 = .ok (.iload_n 1, 1) := by decide +kernel
theorem d_Image_oneAt_5 : decode b_Image_oneAt 5 = .ok (.aload_n 0, 1) := by decide +kernel
theorem d_Image_oneAt_6 : decode b_Image_oneAt 6 = .ok (.getfield 15, 3) := by decide +kernel
theorem d_Image_oneAt_9 : decode b_Image_oneAt 9 = .ok (.if_icmp .ge 16, 3) := by decide +kernel
theorem d_Image_oneAt_12 : decode b_Image_oneAt 12 = .ok (.aload_n 0, 1) := by decide +kernel
theorem d_Image_oneAt_13 : decode b_Image_oneAt 13 = .ok (.getfield 9, 3) := by decide +kernel
theorem d_Image_oneAt_16 : decode b_Image_oneAt 16 = .ok (.iload_n 1, 1) := by decide +kernel
theorem d_Image_oneAt_17 : decode b_Image_oneAt 17 = .ok (.baload, 1) := by decide +kernel
theorem d_Image_oneAt_18 : decode b_Image_oneAt 18 = .ok (.sipush 255, 3) := by decide +kernel
theorem d_Image_oneAt_21 : decode b_Image_oneAt 21 = .ok (.iand, 1) := by decide +kernel
theorem d_Image_oneAt_22 : decode b_Image_oneAt 22 = .ok (.goto 4, 3) := by decide +kernel
theorem d_Image_oneAt_25 : decode b_Image_oneAt 25 = .ok (.iconst 0, 1) := by decide +kernel
theorem d_Image_oneAt_26 : decode b_Image_oneAt 26 = .ok (.ireturn, 1) := by decide +kernel
theorem d_Ship_count_0 : decode b_Ship_count 0 = .ok (.aload_n 0, 1) := by decide +kernel
theorem d_Ship_count_1 : decode b_Ship_count 1 = .ok (.getfield 127, 3) := by decide +kernel
theorem d_Ship_count_4 : decode b_Ship_count 4 = .ok (.ifCond .ne 11, 3) := by decide +kernel
theorem d_Ship_count_7 : decode b_Ship_count 7 = .ok (.new 68, 3) := by decide +kernel
theorem d_Ship_count_10 : decode b_Ship_count 10 = .ok (.dup, 1) := by decide +kernel
theorem d_Ship_count_11 : decode b_Ship_count 11 = .ok (.invokespecial 70, 3) := by decide +kernel
theorem d_Ship_count_14 : decode b_Ship_count 14 = .ok (.athrow, 1) := by decide +kernel
theorem d_Ship_cut_0 : decode b_Ship_cut 0 = .ok (.iload_n 1, 1) := by decide +kernel
theorem d_Ship_cut_1 : decode b_Ship_cut 1 = .ok (.ifCond .lt 14, 3) := by decide +kernel
theorem d_Ship_cut_4 : decode b_Ship_cut 4 = .ok (.iload_n 1, 1) := by decide +kernel
theorem d_Ship_cut_5 : decode b_Ship_cut 5 = .ok (.aload_n 0, 1) := by decide +kernel
theorem d_Ship_cut_6 : decode b_Ship_cut 6 = .ok (.getfield 10, 3) := by decide +kernel
theorem d_Ship_cut_9 : decode b_Ship_cut 9 = .ok (.getfield 64, 3) := by decide +kernel
theorem d_Ship_cut_12 : decode b_Ship_cut 12 = .ok (.if_icmp .le 11, 3) := by decide +kernel
theorem d_Ship_cut_15 : decode b_Ship_cut 15 = .ok (.new 61, 3) := by decide +kernel
theorem d_Ship_cut_18 : decode b_Ship_cut 18 = .ok (.dup, 1) := by decide +kernel
theorem d_Ship_cut_19 : decode b_Ship_cut 19 = .ok (.invokespecial 63, 3) := by decide +kernel
theorem d_Ship_cut_22 : decode b_Ship_cut 22 = .ok (.athrow, 1) := by decide +kernel
theorem d_Ship_cut_23 : decode b_Ship_cut 23 = .ok (.aload_n 0, 1) := by decide +kernel
theorem d_Ship_cut_24 : decode b_Ship_cut 24 = .ok (.getfield 10, 3) := by decide +kernel
theorem d_Ship_cut_27 : decode b_Ship_cut 27 = .ok (.getfield 64, 3) := by decide +kernel
theorem d_Ship_cut_30 : decode b_Ship_cut 30 = .ok (.iload_n 1, 1) := by decide +kernel
theorem d_Ship_cut_31 : decode b_Ship_cut 31 = .ok (.isub, 1) := by decide +kernel
theorem d_Ship_cut_32 : decode b_Ship_cut 32 = .ok (.istore_n 2, 1) := by decide +kernel
theorem d_Ship_cut_33 : decode b_Ship_cut 33 = .ok (.aload_n 0, 1) := by decide +kernel
theorem d_Ship_cut_34 : decode b_Ship_cut 34 = .ok (.getfield 10, 3) := by decide +kernel
theorem d_Ship_cut_37 : decode b_Ship_cut 37 = .ok (.iload_n 1, 1) := by decide +kernel
theorem d_Ship_cut_38 : decode b_Ship_cut 38 = .ok (.putfield 64, 3) := by decide +kernel
theorem d_Ship_cut_41 : decode b_Ship_cut 41 = .ok (.iload_n 2, 1) := by decide +kernel
theorem d_Ship_cut_42 : decode b_Ship_cut 42 = .ok (.ireturn, 1) := by decide +kernel
theorem d_Ship_depth_0 : decode b_Ship_depth 0 = .ok (.aload_n 0, 1) := by decide +kernel
theorem d_Ship_depth_1 : decode b_Ship_depth 1 = .ok (.getfield 127, 3) := by decide +kernel
theorem d_Ship_depth_4 : decode b_Ship_depth 4 = .ok (.ifCond .ne 11, 3) := by decide +kernel
theorem d_Ship_depth_7 : decode b_Ship_depth 7 = .ok (.new 68, 3) := by decide +kernel
theorem d_Ship_depth_10 : decode b_Ship_depth 10 = .ok (.dup, 1) := by decide +kernel
theorem d_Ship_depth_11 : decode b_Ship_depth 11 = .ok (.invokespecial 70, 3) := by decide +kernel
theorem d_Ship_depth_14 : decode b_Ship_depth 14 = .ok (.athrow, 1) := by decide +kernel
theorem d_Ship_feed_0 : decode b_Ship_feed 0 = .ok (.iload_n 1, 1) := by decide +kernel
theorem d_Ship_feed_1 : decode b_Ship_feed 1 = .ok (.ifCond .lt 9, 3) := by decide +kernel
theorem d_Ship_feed_4 : decode b_Ship_feed 4 = .ok (.iload_n 1, 1) := by decide +kernel
theorem d_Ship_feed_5 : decode b_Ship_feed 5 = .ok (.bipush 16, 2) := by decide +kernel
theorem d_Ship_feed_7 : decode b_Ship_feed 7 = .ok (.if_icmp .le 11, 3) := by decide +kernel
theorem d_Ship_feed_10 : decode b_Ship_feed 10 = .ok (.new 61, 3) := by decide +kernel
theorem d_Ship_feed_13 : decode b_Ship_feed 13 = .ok (.dup, 1) := by decide +kernel
theorem d_Ship_feed_14 : decode b_Ship_feed 14 = .ok (.invokespecial 63, 3) := by decide +kernel
theorem d_Ship_feed_17 : decode b_Ship_feed 17 = .ok (.athrow, 1) := by decide +kernel
theorem d_Ship_feed_18 : decode b_Ship_feed 18 = .ok (.aload_n 0, 1) := by decide +kernel
theorem d_Ship_feed_19 : decode b_Ship_feed 19 = .ok (.getfield 10, 3) := by decide +kernel
theorem d_Ship_feed_22 : decode b_Ship_feed 22 = .ok (.getfield 64, 3) := by decide +kernel
theorem d_Ship_feed_25 : decode b_Ship_feed 25 = .ok (.iload_n 1, 1) := by decide +kernel
theorem d_Ship_feed_26 : decode b_Ship_feed 26 = .ok (.iadd, 1) := by decide +kernel
theorem d_Ship_feed_27 : decode b_Ship_feed 27 = .ok (.sipush 600, 3) := by decide +kernel
theorem d_Ship_feed_30 : decode b_Ship_feed 30 = .ok (.if_icmp .le 11, 3) := by decide +kernel
theorem d_Ship_feed_33 : decode b_Ship_feed 33 = .ok (.new 68, 3) := by decide +kernel
theorem d_Ship_feed_36 : decode b_Ship_feed 36 = .ok (.dup, 1) := by decide +kernel
theorem d_Ship_feed_37 : decode b_Ship_feed 37 = .ok (.invokespecial 70, 3) := by decide +kernel
theorem d_Ship_feed_40 : decode b_Ship_feed 40 = .ok (.athrow, 1) := by decide +kernel
theorem d_Ship_feed_41 : decode b_Ship_feed 41 = .ok (.iconst 0, 1) := by decide +kernel
theorem d_Ship_feed_42 : decode b_Ship_feed 42 = .ok (.istore 6, 2) := by decide +kernel
theorem d_Ship_feed_44 : decode b_Ship_feed 44 = .ok (.iload 6, 2) := by decide +kernel
theorem d_Ship_feed_46 : decode b_Ship_feed 46 = .ok (.iload_n 1, 1) := by decide +kernel
theorem d_Ship_feed_47 : decode b_Ship_feed 47 = .ok (.if_icmp .ge 66, 3) := by decide +kernel
theorem d_Ship_feed_50 : decode b_Ship_feed 50 = .ok (.iload 6, 2) := by decide +kernel
theorem d_Ship_feed_52 : decode b_Ship_feed 52 = .ok (.iconst 4, 1) := by decide +kernel
theorem d_Ship_feed_53 : decode b_Ship_feed 53 = .ok (.if_icmp .ge 7, 3) := by decide +kernel
theorem d_Ship_feed_56 : decode b_Ship_feed 56 = .ok (.iload_n 2, 1) := by decide +kernel
theorem d_Ship_feed_57 : decode b_Ship_feed 57 = .ok (.goto 28, 3) := by decide +kernel
theorem d_Ship_feed_60 : decode b_Ship_feed 60 = .ok (.iload 6, 2) := by decide +kernel
theorem d_Ship_feed_62 : decode b_Ship_feed 62 = .ok (.bipush 8, 2) := by decide +kernel
theorem d_Ship_feed_64 : decode b_Ship_feed 64 = .ok (.if_icmp .ge 7, 3) := by decide +kernel
theorem d_Ship_feed_67 : decode b_Ship_feed 67 = .ok (.iload_n 3, 1) := by decide +kernel
theorem d_Ship_feed_68 : decode b_Ship_feed 68 = .ok (.goto 17, 3) := by decide +kernel
theorem d_Ship_feed_71 : decode b_Ship_feed 71 = .ok (.iload 6, 2) := by decide +kernel
theorem d_Ship_feed_73 : decode b_Ship_feed 73 = .ok (.bipush 12, 2) := by decide +kernel
theorem d_Ship_feed_75 : decode b_Ship_feed 75 = .ok (.if_icmp .ge 8, 3) := by decide +kernel
theorem d_Ship_feed_78 : decode b_Ship_feed 78 = .ok (.iload 4, 2) := by decide +kernel
theorem d_Ship_feed_80 : decode b_Ship_feed 80 = .ok (.goto 5, 3) := by decide +kernel
theorem d_Ship_feed_83 : decode b_Ship_feed 83 = .ok (.iload 5, 2) := by decide +kernel
theorem d_Ship_feed_85 : decode b_Ship_feed 85 = .ok (.istore 7, 2) := by decide +kernel
theorem d_Ship_feed_87 : decode b_Ship_feed 87 = .ok (.aload_n 0, 1) := by decide +kernel
theorem d_Ship_feed_88 : decode b_Ship_feed 88 = .ok (.getfield 10, 3) := by decide +kernel
theorem d_Ship_feed_91 : decode b_Ship_feed 91 = .ok (.iload 7, 2) := by decide +kernel
theorem d_Ship_feed_93 : decode b_Ship_feed 93 = .ok (.bipush 24, 2) := by decide +kernel
theorem d_Ship_feed_95 : decode b_Ship_feed 95 = .ok (.bipush 8, 2) := by decide +kernel
theorem d_Ship_feed_97 : decode b_Ship_feed 97 = .ok (.iload 6, 2) := by decide +kernel
theorem d_Ship_feed_99 : decode b_Ship_feed 99 = .ok (.iconst 3, 1) := by decide +kernel
theorem d_Ship_feed_100 : decode b_Ship_feed 100 = .ok (.iand, 1) := by decide +kernel
theorem d_Ship_feed_101 : decode b_Ship_feed 101 = .ok (.imul, 1) := by decide +kernel
theorem d_Ship_feed_102 : decode b_Ship_feed 102 = .ok (.isub, 1) := by decide +kernel
theorem d_Ship_feed_103 : decode b_Ship_feed 103 = .ok (.iushr, 1) := by decide +kernel
theorem d_Ship_feed_104 : decode b_Ship_feed 104 = .ok (.invokevirtual 71, 3) := by decide +kernel
theorem d_Ship_feed_107 : decode b_Ship_feed 107 = .ok (.iinc 6 1, 3) := by decide +kernel
theorem d_Ship_feed_110 : decode b_Ship_feed 110 = .ok (.goto (-66), 3) := by decide +kernel
theorem d_Ship_feed_113 : decode b_Ship_feed 113 = .ok (.aload_n 0, 1) := by decide +kernel
theorem d_Ship_feed_114 : decode b_Ship_feed 114 = .ok (.getfield 10, 3) := by decide +kernel
theorem d_Ship_feed_117 : decode b_Ship_feed 117 = .ok (.getfield 64, 3) := by decide +kernel
theorem d_Ship_feed_120 : decode b_Ship_feed 120 = .ok (.ireturn, 1) := by decide +kernel
theorem d_Ship_kind_0 : decode b_Ship_kind 0 = .ok (.aload_n 0, 1) := by decide +kernel
theorem d_Ship_kind_1 : decode b_Ship_kind 1 = .ok (.getfield 127, 3) := by decide +kernel
theorem d_Ship_kind_4 : decode b_Ship_kind 4 = .ok (.ifCond .ne 11, 3) := by decide +kernel
theorem d_Ship_kind_7 : decode b_Ship_kind 7 = .ok (.new 68, 3) := by decide +kernel
theorem d_Ship_kind_10 : decode b_Ship_kind 10 = .ok (.dup, 1) := by decide +kernel
theorem d_Ship_kind_11 : decode b_Ship_kind 11 = .ok (.invokespecial 70, 3) := by decide +kernel
theorem d_Ship_kind_14 : decode b_Ship_kind 14 = .ok (.athrow, 1) := by decide +kernel
theorem d_Ship_limit_0 : decode b_Ship_limit 0 = .ok (.iload_n 1, 1) := by decide +kernel
theorem d_Ship_limit_1 : decode b_Ship_limit 1 = .ok (.ifCond .lt 19, 3) := by decide +kernel
theorem d_Ship_limit_4 : decode b_Ship_limit 4 = .ok (.iload_n 1, 1) := by decide +kernel
theorem d_Ship_limit_5 : decode b_Ship_limit 5 = .ok (.iconst 1, 1) := by decide +kernel
theorem d_Ship_limit_6 : decode b_Ship_limit 6 = .ok (.if_icmp .gt 14, 3) := by decide +kernel
theorem d_Ship_limit_9 : decode b_Ship_limit 9 = .ok (.iload_n 2, 1) := by decide +kernel
theorem d_Ship_limit_10 : decode b_Ship_limit 10 = .ok (.ifCond .lt 10, 3) := by decide +kernel
theorem d_Ship_limit_13 : decode b_Ship_limit 13 = .ok (.iload_n 2, 1) := by decide +kernel
theorem d_Ship_limit_14 : decode b_Ship_limit 14 = .ok (.sipush 600, 3) := by decide +kernel
theorem d_Ship_limit_17 : decode b_Ship_limit 17 = .ok (.if_icmp .le 11, 3) := by decide +kernel
theorem d_Ship_limit_20 : decode b_Ship_limit 20 = .ok (.new 61, 3) := by decide +kernel
theorem d_Ship_limit_23 : decode b_Ship_limit 23 = .ok (.dup, 1) := by decide +kernel
theorem d_Ship_limit_24 : decode b_Ship_limit 24 = .ok (.invokespecial 63, 3) := by decide +kernel
theorem d_Ship_limit_27 : decode b_Ship_limit 27 = .ok (.athrow, 1) := by decide +kernel
theorem d_Ship_limit_28 : decode b_Ship_limit 28 = .ok (.iload_n 1, 1) := by decide +kernel
theorem d_Ship_limit_29 : decode b_Ship_limit 29 = .ok (.ifCond .ne 13, 3) := by decide +kernel
theorem d_Ship_limit_32 : decode b_Ship_limit 32 = .ok (.aload_n 0, 1) := by decide +kernel
theorem d_Ship_limit_33 : decode b_Ship_limit 33 = .ok (.getfield 26, 3) := by decide +kernel
theorem d_Ship_limit_36 : decode b_Ship_limit 36 = .ok (.getfield 101, 3) := by decide +kernel
theorem d_Ship_limit_39 : decode b_Ship_limit 39 = .ok (.goto 10, 3) := by decide +kernel
theorem d_Ship_limit_42 : decode b_Ship_limit 42 = .ok (.aload_n 0, 1) := by decide +kernel
theorem d_Ship_limit_43 : decode b_Ship_limit 43 = .ok (.getfield 26, 3) := by decide +kernel
theorem d_Ship_limit_46 : decode b_Ship_limit 46 = .ok (.getfield 104, 3) := by decide +kernel
theorem d_Ship_limit_49 : decode b_Ship_limit 49 = .ok (.istore_n 3, 1) := by decide +kernel
theorem d_Ship_limit_50 : decode b_Ship_limit 50 = .ok (.iload_n 1, 1) := by decide +kernel
theorem d_Ship_limit_51 : decode b_Ship_limit 51 = .ok (.ifCond .ne 14, 3) := by decide +kernel
theorem d_Ship_limit_54 : decode b_Ship_limit 54 = .ok (.aload_n 0, 1) := by decide +kernel
theorem d_Ship_limit_55 : decode b_Ship_limit 55 = .ok (.getfield 26, 3) := by decide +kernel
theorem d_Ship_limit_58 : decode b_Ship_limit 58 = .ok (.iload_n 2, 1) := by decide +kernel
theorem d_Ship_limit_59 : decode b_Ship_limit 59 = .ok (.putfield 101, 3) := by decide +kernel
theorem d_Ship_limit_62 : decode b_Ship_limit 62 = .ok (.goto 11, 3) := by decide +kernel
theorem d_Ship_limit_65 : decode b_Ship_limit 65 = .ok (.aload_n 0, 1) := by decide +kernel
theorem d_Ship_limit_66 : decode b_Ship_limit 66 = .ok (.getfield 26, 3) := by decide +kernel
theorem d_Ship_limit_69 : decode b_Ship_limit 69 = .ok (.iload_n 2, 1) := by decide +kernel
theorem d_Ship_limit_70 : decode b_Ship_limit 70 = .ok (.putfield 104, 3) := by decide +kernel
theorem d_Ship_limit_73 : decode b_Ship_limit 73 = .ok (.iload_n 3, 1) := by decide +kernel
theorem d_Ship_limit_74 : decode b_Ship_limit 74 = .ok (.ireturn, 1) := by decide +kernel
theorem d_Ship_place_0 : decode b_Ship_place 0 = .ok (.aload_n 0, 1) := by decide +kernel
theorem d_Ship_place_1 : decode b_Ship_place 1 = .ok (.getfield 19, 3) := by decide +kernel
theorem d_Ship_place_4 : decode b_Ship_place 4 = .ok (.getfield 134, 3) := by decide +kernel
theorem d_Ship_place_7 : decode b_Ship_place 7 = .ok (.ireturn, 1) := by decide +kernel
theorem d_Ship_put_0 : decode b_Ship_put 0 = .ok (.iload_n 1, 1) := by decide +kernel
theorem d_Ship_put_1 : decode b_Ship_put 1 = .ok (.ifCond .lt 14, 3) := by decide +kernel
theorem d_Ship_put_4 : decode b_Ship_put 4 = .ok (.iload_n 1, 1) := by decide +kernel
theorem d_Ship_put_5 : decode b_Ship_put 5 = .ok (.aload_n 0, 1) := by decide +kernel
theorem d_Ship_put_6 : decode b_Ship_put 6 = .ok (.getfield 10, 3) := by decide +kernel
theorem d_Ship_put_9 : decode b_Ship_put 9 = .ok (.getfield 64, 3) := by decide +kernel
theorem d_Ship_put_12 : decode b_Ship_put 12 = .ok (.if_icmp .lt 11, 3) := by decide +kernel
theorem d_Ship_put_15 : decode b_Ship_put 15 = .ok (.new 75, 3) := by decide +kernel
theorem d_Ship_put_18 : decode b_Ship_put 18 = .ok (.dup, 1) := by decide +kernel
theorem d_Ship_put_19 : decode b_Ship_put 19 = .ok (.invokespecial 77, 3) := by decide +kernel
theorem d_Ship_put_22 : decode b_Ship_put 22 = .ok (.athrow, 1) := by decide +kernel
theorem d_Ship_put_23 : decode b_Ship_put 23 = .ok (.iload_n 2, 1) := by decide +kernel
theorem d_Ship_put_24 : decode b_Ship_put 24 = .ok (.ifCond .lt 10, 3) := by decide +kernel
theorem d_Ship_put_27 : decode b_Ship_put 27 = .ok (.iload_n 2, 1) := by decide +kernel
theorem d_Ship_put_28 : decode b_Ship_put 28 = .ok (.sipush 255, 3) := by decide +kernel
theorem d_Ship_put_31 : decode b_Ship_put 31 = .ok (.if_icmp .le 11, 3) := by decide +kernel
theorem d_Ship_put_34 : decode b_Ship_put 34 = .ok (.new 61, 3) := by decide +kernel
theorem d_Ship_put_37 : decode b_Ship_put 37 = .ok (.dup, 1) := by decide +kernel
theorem d_Ship_put_38 : decode b_Ship_put 38 = .ok (.invokespecial 63, 3) := by decide +kernel
theorem d_Ship_put_41 : decode b_Ship_put 41 = .ok (.athrow, 1) := by decide +kernel
theorem d_Ship_put_42 : decode b_Ship_put 42 = .ok (.aload_n 0, 1) := by decide +kernel
theorem d_Ship_put_43 : decode b_Ship_put 43 = .ok (.getfield 10, 3) := by decide +kernel
theorem d_Ship_put_46 : decode b_Ship_put 46 = .ok (.iload_n 1, 1) := by decide +kernel
theorem d_Ship_put_47 : decode b_Ship_put 47 = .ok (.invokevirtual 78, 3) := by decide +kernel
theorem d_Ship_put_50 : decode b_Ship_put 50 = .ok (.istore_n 3, 1) := by decide +kernel
theorem d_Ship_put_51 : decode b_Ship_put 51 = .ok (.aload_n 0, 1) := by decide +kernel
theorem d_Ship_put_52 : decode b_Ship_put 52 = .ok (.getfield 10, 3) := by decide +kernel
theorem d_Ship_put_55 : decode b_Ship_put 55 = .ok (.iload_n 1, 1) := by decide +kernel
theorem d_Ship_put_56 : decode b_Ship_put 56 = .ok (.iload_n 2, 1) := by decide +kernel
theorem d_Ship_put_57 : decode b_Ship_put 57 = .ok (.invokevirtual 82, 3) := by decide +kernel
theorem d_Ship_put_60 : decode b_Ship_put 60 = .ok (.iload_n 3, 1) := by decide +kernel
theorem d_Ship_put_61 : decode b_Ship_put 61 = .ok (.ireturn, 1) := by decide +kernel
theorem d_Ship_rule_0 : decode b_Ship_rule 0 = .ok (.iload_n 2, 1) := by decide +kernel
theorem d_Ship_rule_1 : decode b_Ship_rule 1 = .ok (.iconst 1, 1) := by decide +kernel
theorem d_Ship_rule_2 : decode b_Ship_rule 2 = .ok (.if_icmp .lt 39, 3) := by decide +kernel
theorem d_Ship_rule_5 : decode b_Ship_rule 5 = .ok (.iload_n 2, 1) := by decide +kernel
theorem d_Ship_rule_6 : decode b_Ship_rule 6 = .ok (.bipush 40, 2) := by decide +kernel
theorem d_Ship_rule_8 : decode b_Ship_rule 8 = .ok (.if_icmp .gt 33, 3) := by decide +kernel
theorem d_Ship_rule_11 : decode b_Ship_rule 11 = .ok (.iload_n 2, 1) := by decide +kernel
theorem d_Ship_rule_12 : decode b_Ship_rule 12 = .ok (.aload_n 0, 1) := by decide +kernel
theorem d_Ship_rule_13 : decode b_Ship_rule 13 = .ok (.getfield 10, 3) := by decide +kernel
theorem d_Ship_rule_16 : decode b_Ship_rule 16 = .ok (.getfield 64, 3) := by decide +kernel
theorem d_Ship_rule_19 : decode b_Ship_rule 19 = .ok (.if_icmp .gt 22, 3) := by decide +kernel
theorem d_Ship_rule_41 : decode b_Ship_rule 41 = .ok (.new 61, 3) := by decide +kernel
theorem d_Ship_rule_44 : decode b_Ship_rule 44 = .ok (.dup, 1) := by decide +kernel
theorem d_Ship_rule_45 : decode b_Ship_rule 45 = .ok (.invokespecial 63, 3) := by decide +kernel
theorem d_Ship_rule_48 : decode b_Ship_rule 48 = .ok (.athrow, 1) := by decide +kernel
theorem d_Ship_text_0 : decode b_Ship_text 0 = .ok (.aload_n 0, 1) := by decide +kernel
theorem d_Ship_text_1 : decode b_Ship_text 1 = .ok (.getfield 127, 3) := by decide +kernel
theorem d_Ship_text_4 : decode b_Ship_text 4 = .ok (.ifCond .ne 11, 3) := by decide +kernel
theorem d_Ship_text_7 : decode b_Ship_text 7 = .ok (.new 68, 3) := by decide +kernel
theorem d_Ship_text_10 : decode b_Ship_text 10 = .ok (.dup, 1) := by decide +kernel
theorem d_Ship_text_11 : decode b_Ship_text 11 = .ok (.invokespecial 70, 3) := by decide +kernel
theorem d_Ship_text_14 : decode b_Ship_text 14 = .ok (.athrow, 1) := by decide +kernel
