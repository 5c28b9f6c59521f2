theorem d_Law_count_7 : decode b_Law_count 7 = .ok (.i2l, 1) := by decide +kernel
theorem d_Law_count_8 : decode b_Law_count 8 = .ok (.lastore, 1) := by decide +kernel
theorem d_Law_count_9 : decode b_Law_count 9 = .ok (.goto 9, 3) := by decide +kernel
theorem d_Law_count_15 : decode b_Law_count 15 = .ok (.astore_n 3, 1) := by decide +kernel
theorem d_Law_count_16 : decode b_Law_count 16 = .ok (.iconst 2, 1) := by decide +kernel
theorem d_Law_count_17 : decode b_Law_count 17 = .ok (.ireturn, 1) := by decide +kernel
theorem d_Law_count_18 : decode b_Law_count 18 = .ok (.iconst 0, 1) := by decide +kernel
theorem d_Law_count_19 : decode b_Law_count 19 = .ok (.ireturn, 1) := by decide +kernel
theorem d_Law_depth_8 : decode b_Law_depth 8 = .ok (.i2l, 1) := by decide +kernel
theorem d_Law_depth_9 : decode b_Law_depth 9 = .ok (.lastore, 1) := by decide +kernel
theorem d_Law_depth_10 : decode b_Law_depth 10 = .ok (.goto 7, 3) := by decide +kernel
theorem d_Law_depth_17 : decode b_Law_depth 17 = .ok (.iconst 0, 1) := by decide +kernel
theorem d_Law_depth_18 : decode b_Law_depth 18 = .ok (.ireturn, 1) := by decide +kernel
theorem d_Law_kind_12 : decode b_Law_kind 12 = .ok (.i2l, 1) := by decide +kernel
theorem d_Law_kind_13 : decode b_Law_kind 13 = .ok (.lastore, 1) := by decide +kernel
theorem d_Law_kind_14 : decode b_Law_kind 14 = .ok (.goto 7, 3) := by decide +kernel
theorem d_Law_kind_21 : decode b_Law_kind 21 = .ok (.iconst 0, 1) := by decide +kernel
theorem d_Law_kind_22 : decode b_Law_kind 22 = .ok (.ireturn, 1) := by decide +kernel
theorem d_Law_rule_8 : decode b_Law_rule 8 = .ok (.i2l, 1) := by decide +kernel
theorem d_Law_rule_9 : decode b_Law_rule 9 = .ok (.lastore, 1) := by decide +kernel
theorem d_Law_rule_10 : decode b_Law_rule 10 = .ok (.goto 11, 3) := by decide +kernel
theorem d_Law_rule_17 : decode b_Law_rule 17 = .ok (.astore 4, 2) := by decide +kernel
theorem d_Law_rule_19 : decode b_Law_rule 19 = .ok (.iconst 2, 1) := by decide +kernel
theorem d_Law_rule_20 : decode b_Law_rule 20 = .ok (.ireturn, 1) := by decide +kernel
theorem d_Law_rule_21 : decode b_Law_rule 21 = .ok (.iconst 0, 1) := by decide +kernel
theorem d_Law_rule_22 : decode b_Law_rule 22 = .ok (.ireturn, 1) := by decide +kernel
theorem d_Law_text_10 : decode b_Law_text 10 = .ok (.i2l, 1) := by decide +kernel
theorem d_Law_text_11 : decode b_Law_text 11 = .ok (.lastore, 1) := by decide +kernel
theorem d_Law_text_12 : decode b_Law_text 12 = .ok (.goto 11, 3) := by decide +kernel
theorem d_Law_text_19 : decode b_Law_text 19 = .ok (.astore 5, 2) := by decide +kernel
theorem d_Law_text_21 : decode b_Law_text 21 = .ok (.iconst 2, 1) := by decide +kernel
theorem d_Law_text_22 : decode b_Law_text 22 = .ok (.ireturn, 1) := by decide +kernel
theorem d_Law_text_23 : decode b_Law_text 23 = .ok (.iconst 0, 1) := by decide +kernel
theorem d_Law_text_24 : decode b_Law_text 24 = .ok (.ireturn, 1) := by decide +kernel
