theorem d_Law_count_0 : decode b_Law_count 0 = .ok (.aload_n 2, 1) := by decide +kernel
theorem d_Law_count_1 : decode b_Law_count 1 = .ok (.iconst 0, 1) := by decide +kernel
theorem d_Law_count_2 : decode b_Law_count 2 = .ok (.aload_n 0, 1) := by decide +kernel
theorem d_Law_count_3 : decode b_Law_count 3 = .ok (.iload_n 1, 1) := by decide +kernel
theorem d_Law_count_4 : decode b_Law_count 4 = .ok (.invokevirtual 34, 3) := by decide +kernel
theorem d_Law_count_12 : decode b_Law_count 12 = .ok (.astore_n 3, 1) := by decide +kernel
theorem d_Law_count_13 : decode b_Law_count 13 = .ok (.iconst 1, 1) := by decide +kernel
theorem d_Law_count_14 : decode b_Law_count 14 = .ok (.ireturn, 1) := by decide +kernel
theorem d_Law_cut_0 : decode b_Law_cut 0 = .ok (.aload_n 2, 1) := by decide +kernel
theorem d_Law_cut_1 : decode b_Law_cut 1 = .ok (.iconst 0, 1) := by decide +kernel
theorem d_Law_cut_2 : decode b_Law_cut 2 = .ok (.aload_n 0, 1) := by decide +kernel
theorem d_Law_cut_3 : decode b_Law_cut 3 = .ok (.iload_n 1, 1) := by decide +kernel
theorem d_Law_cut_4 : decode b_Law_cut 4 = .ok (.invokevirtual 23, 3) := by decide +kernel
theorem d_Law_cut_7 : decode b_Law_cut 7 = .ok (.i2l, 1) := by decide +kernel
theorem d_Law_cut_8 : decode b_Law_cut 8 = .ok (.lastore, 1) := by decide +kernel
theorem d_Law_cut_9 : decode b_Law_cut 9 = .ok (.goto 6, 3) := by decide +kernel
theorem d_Law_cut_12 : decode b_Law_cut 12 = .ok (.astore_n 3, 1) := by decide +kernel
theorem d_Law_cut_13 : decode b_Law_cut 13 = .ok (.iconst 1, 1) := by decide +kernel
theorem d_Law_cut_14 : decode b_Law_cut 14 = .ok (.ireturn, 1) := by decide +kernel
theorem d_Law_cut_15 : decode b_Law_cut 15 = .ok (.iconst 0, 1) := by decide +kernel
theorem d_Law_cut_16 : decode b_Law_cut 16 = .ok (.ireturn, 1) := by decide +kernel
theorem d_Law_depth_0 : decode b_Law_depth 0 = .ok (.aload_n 3, 1) := by decide +kernel
theorem d_Law_depth_1 : decode b_Law_depth 1 = .ok (.iconst 0, 1) := by decide +kernel
theorem d_Law_depth_2 : decode b_Law_depth 2 = .ok (.aload_n 0, 1) := by decide +kernel
theorem d_Law_depth_3 : decode b_Law_depth 3 = .ok (.iload_n 1, 1) := by decide +kernel
theorem d_Law_depth_4 : decode b_Law_depth 4 = .ok (.iload_n 2, 1) := by decide +kernel
theorem d_Law_depth_5 : decode b_Law_depth 5 = .ok (.invokevirtual 41, 3) := by decide +kernel
theorem d_Law_depth_13 : decode b_Law_depth 13 = .ok (.astore 4, 2) := by decide +kernel
theorem d_Law_depth_15 : decode b_Law_depth 15 = .ok (.iconst 1, 1) := by decide +kernel
theorem d_Law_depth_16 : decode b_Law_depth 16 = .ok (.ireturn, 1) := by decide +kernel
theorem d_Law_feed_0 : decode b_Law_feed 0 = .ok (.aload 6, 2) := by decide +kernel
theorem d_Law_feed_2 : decode b_Law_feed 2 = .ok (.iconst 0, 1) := by decide +kernel
theorem d_Law_feed_3 : decode b_Law_feed 3 = .ok (.aload_n 0, 1) := by decide +kernel
theorem d_Law_feed_4 : decode b_Law_feed 4 = .ok (.iload_n 1, 1) := by decide +kernel
theorem d_Law_feed_5 : decode b_Law_feed 5 = .ok (.iload_n 2, 1) := by decide +kernel
theorem d_Law_feed_6 : decode b_Law_feed 6 = .ok (.iload_n 3, 1) := by decide +kernel
theorem d_Law_feed_7 : decode b_Law_feed 7 = .ok (.iload 4, 2) := by decide +kernel
theorem d_Law_feed_9 : decode b_Law_feed 9 = .ok (.iload 5, 2) := by decide +kernel
theorem d_Law_feed_11 : decode b_Law_feed 11 = .ok (.invokevirtual 7, 3) := by decide +kernel
theorem d_Law_feed_14 : decode b_Law_feed 14 = .ok (.i2l, 1) := by decide +kernel
theorem d_Law_feed_15 : decode b_Law_feed 15 = .ok (.lastore, 1) := by decide +kernel
theorem d_Law_feed_16 : decode b_Law_feed 16 = .ok (.goto 11, 3) := by decide +kernel
theorem d_Law_feed_19 : decode b_Law_feed 19 = .ok (.astore 7, 2) := by decide +kernel
theorem d_Law_feed_21 : decode b_Law_feed 21 = .ok (.iconst 1, 1) := by decide +kernel
theorem d_Law_feed_22 : decode b_Law_feed 22 = .ok (.ireturn, 1) := by decide +kernel
theorem d_Law_feed_23 : decode b_Law_feed 23 = .ok (.astore 7, 2) := by decide +kernel
theorem d_Law_feed_25 : decode b_Law_feed 25 = .ok (.iconst 2, 1) := by decide +kernel
theorem d_Law_feed_26 : decode b_Law_feed 26 = .ok (.ireturn, 1) := by decide +kernel
theorem d_Law_feed_27 : decode b_Law_feed 27 = .ok (.iconst 0, 1) := by decide +kernel
theorem d_Law_feed_28 : decode b_Law_feed 28 = .ok (.ireturn, 1) := by decide +kernel
theorem d_Law_kind_0 : decode b_Law_kind 0 = .ok (.aload 5, 2) := by decide +kernel
theorem d_Law_kind_2 : decode b_Law_kind 2 = .ok (.iconst 0, 1) := by decide +kernel
theorem d_Law_kind_3 : decode b_Law_kind 3 = .ok (.aload_n 0, 1) := by decide +kernel
theorem d_Law_kind_4 : decode b_Law_kind 4 = .ok (.iload_n 1, 1) := by decide +kernel
theorem d_Law_kind_5 : decode b_Law_kind 5 = .ok (.iload_n 2, 1) := by decide +kernel
theorem d_Law_kind_6 : decode b_Law_kind 6 = .ok (.iload_n 3, 1) := by decide +kernel
theorem d_Law_kind_7 : decode b_Law_kind 7 = .ok (.iload 4, 2) := by decide +kernel
theorem d_Law_kind_9 : decode b_Law_kind 9 = .ok (.invokevirtual 44, 3) := by decide +kernel
theorem d_Law_kind_17 : decode b_Law_kind 17 = .ok (.astore 6, 2) := by decide +kernel
theorem d_Law_kind_19 : decode b_Law_kind 19 = .ok (.iconst 1, 1) := by decide +kernel
theorem d_Law_kind_20 : decode b_Law_kind 20 = .ok (.ireturn, 1) := by decide +kernel
theorem d_Law_limit_0 : decode b_Law_limit 0 = .ok (.aload_n 3, 1) := by decide +kernel
theorem d_Law_limit_1 : decode b_Law_limit 1 = .ok (.iconst 0, 1) := by decide +kernel
theorem d_Law_limit_2 : decode b_Law_limit 2 = .ok (.aload_n 0, 1) := by decide +kernel
theorem d_Law_limit_3 : decode b_Law_limit 3 = .ok (.iload_n 1, 1) := by decide +kernel
theorem d_Law_limit_4 : decode b_Law_limit 4 = .ok (.iload_n 2, 1) := by decide +kernel
theorem d_Law_limit_5 : decode b_Law_limit 5 = .ok (.invokevirtual 31, 3) := by decide +kernel
theorem d_Law_limit_8 : decode b_Law_limit 8 = .ok (.i2l, 1) := by decide +kernel
theorem d_Law_limit_9 : decode b_Law_limit 9 = .ok (.lastore, 1) := by decide +kernel
theorem d_Law_limit_10 : decode b_Law_limit 10 = .ok (.goto 7, 3) := by decide +kernel
theorem d_Law_limit_13 : decode b_Law_limit 13 = .ok (.astore 4, 2) := by decide +kernel
theorem d_Law_limit_15 : decode b_Law_limit 15 = .ok (.iconst 1, 1) := by decide +kernel
theorem d_Law_limit_16 : decode b_Law_limit 16 = .ok (.ireturn, 1) := by decide +kernel
theorem d_Law_limit_17 : decode b_Law_limit 17 = .ok (.iconst 0, 1) := by decide +kernel
theorem d_Law_limit_18 : decode b_Law_limit 18 = .ok (.ireturn, 1) := by decide +kernel
theorem d_Law_put_0 : decode b_Law_put 0 = .ok (.aload_n 3, 1) := by decide +kernel
theorem d_Law_put_1 : decode b_Law_put 1 = .ok (.iconst 0, 1) := by decide +kernel
theorem d_Law_put_2 : decode b_Law_put 2 = .ok (.aload_n 0, 1) := by decide +kernel
theorem d_Law_put_3 : decode b_Law_put 3 = .ok (.iload_n 1, 1) := by decide +kernel
theorem d_Law_put_4 : decode b_Law_put 4 = .ok (.iload_n 2, 1) := by decide +kernel
theorem d_Law_put_5 : decode b_Law_put 5 = .ok (.invokevirtual 17, 3) := by decide +kernel
theorem d_Law_put_8 : decode b_Law_put 8 = .ok (.i2l, 1) := by decide +kernel
theorem d_Law_put_9 : decode b_Law_put 9 = .ok (.lastore, 1) := by decide +kernel
theorem d_Law_put_10 : decode b_Law_put 10 = .ok (.goto 11, 3) := by decide +kernel
theorem d_Law_put_13 : decode b_Law_put 13 = .ok (.astore 4, 2) := by decide +kernel
theorem d_Law_put_15 : decode b_Law_put 15 = .ok (.iconst 1, 1) := by decide +kernel
theorem d_Law_put_16 : decode b_Law_put 16 = .ok (.ireturn, 1) := by decide +kernel
theorem d_Law_put_17 : decode b_Law_put 17 = .ok (.astore 4, 2) := by decide +kernel
theorem d_Law_put_19 : decode b_Law_put 19 = .ok (.iconst 2, 1) := by decide +kernel
theorem d_Law_put_20 : decode b_Law_put 20 = .ok (.ireturn, 1) := by decide +kernel
theorem d_Law_put_21 : decode b_Law_put 21 = .ok (.iconst 0, 1) := by decide +kernel
theorem d_Law_put_22 : decode b_Law_put 22 = .ok (.ireturn, 1) := by decide +kernel
theorem d_Law_rule_0 : decode b_Law_rule 0 = .ok (.aload_n 3, 1) := by decide +kernel
theorem d_Law_rule_1 : decode b_Law_rule 1 = .ok (.iconst 0, 1) := by decide +kernel
theorem d_Law_rule_2 : decode b_Law_rule 2 = .ok (.aload_n 0, 1) := by decide +kernel
theorem d_Law_rule_3 : decode b_Law_rule 3 = .ok (.iload_n 1, 1) := by decide +kernel
theorem d_Law_rule_4 : decode b_Law_rule 4 = .ok (.iload_n 2, 1) := by decide +kernel
theorem d_Law_rule_5 : decode b_Law_rule 5 = .ok (.invokevirtual 27, 3) := by decide +kernel
theorem d_Law_rule_13 : decode b_Law_rule 13 = .ok (.astore 4, 2) := by decide +kernel
theorem d_Law_rule_15 : decode b_Law_rule 15 = .ok (.iconst 1, 1) := by decide +kernel
theorem d_Law_rule_16 : decode b_Law_rule 16 = .ok (.ireturn, 1) := by decide +kernel
theorem d_Law_text_0 : decode b_Law_text 0 = .ok (.aload 4, 2) := by decide +kernel
theorem d_Law_text_2 : decode b_Law_text 2 = .ok (.iconst 0, 1) := by decide +kernel
theorem d_Law_text_3 : decode b_Law_text 3 = .ok (.aload_n 0, 1) := by decide +kernel
theorem d_Law_text_4 : decode b_Law_text 4 = .ok (.iload_n 1, 1) := by decide +kernel
theorem d_Law_text_5 : decode b_Law_text 5 = .ok (.iload_n 2, 1) := by decide +kernel
theorem d_Law_text_6 : decode b_Law_text 6 = .ok (.iload_n 3, 1) := by decide +kernel
theorem d_Law_text_7 : decode b_Law_text 7 = .ok (.invokevirtual 37, 3) := by decide +kernel
theorem d_Law_text_15 : decode b_Law_text 15 = .ok (.astore 5, 2) := by decide +kernel
theorem d_Law_text_17 : decode b_Law_text 17 = .ok (.iconst 1, 1) := by decide +kernel
theorem d_Law_text_18 : decode b_Law_text 18 = .ok (.ireturn, 1) := by decide +kernel
