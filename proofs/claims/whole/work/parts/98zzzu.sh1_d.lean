theorem d_Ship_count_15 : decode b_Ship_count 15 = .ok (.iload_n 1, 1) := by decide +kernel
theorem d_Ship_count_16 : decode b_Ship_count 16 = .ok (.ifCond .lt 9, 3) := by decide +kernel
theorem d_Ship_count_19 : decode b_Ship_count 19 = .ok (.iload_n 1, 1) := by decide +kernel
theorem d_Ship_count_20 : decode b_Ship_count 20 = .ok (.bipush 6, 2) := by decide +kernel
theorem d_Ship_count_22 : decode b_Ship_count 22 = .ok (.if_icmp .le 11, 3) := by decide +kernel
theorem d_Ship_count_25 : decode b_Ship_count 25 = .ok (.new 61, 3) := by decide +kernel
theorem d_Ship_count_28 : decode b_Ship_count 28 = .ok (.dup, 1) := by decide +kernel
theorem d_Ship_count_29 : decode b_Ship_count 29 = .ok (.invokespecial 63, 3) := by decide +kernel
theorem d_Ship_count_32 : decode b_Ship_count 32 = .ok (.athrow, 1) := by decide +kernel
theorem d_Ship_count_33 : decode b_Ship_count 33 = .ok (.iload_n 1, 1) := by decide +kernel
theorem d_Ship_count_34 : decode b_Ship_count 34 = .ok (.tableswitch 95 0 5 #[38, 52, 60, 68, 76, 84], 38) := by decide +kernel
theorem d_Ship_count_72 : decode b_Ship_count 72 = .ok (.aload_n 0, 1) := by decide +kernel
theorem d_Ship_count_73 : decode b_Ship_count 73 = .ok (.getfield 58, 3) := by decide +kernel
theorem d_Ship_count_76 : decode b_Ship_count 76 = .ok (.getfield 137, 3) := by decide +kernel
theorem d_Ship_count_79 : decode b_Ship_count 79 = .ok (.iconst 1, 1) := by decide +kernel
theorem d_Ship_count_80 : decode b_Ship_count 80 = .ok (.isub, 1) := by decide +kernel
theorem d_Ship_count_81 : decode b_Ship_count 81 = .ok (.iconst 0, 1) := by decide +kernel
theorem d_Ship_count_82 : decode b_Ship_count 82 = .ok (.invokestatic 140, 3) := by decide +kernel
theorem d_Ship_count_85 : decode b_Ship_count 85 = .ok (.ireturn, 1) := by decide +kernel
theorem d_Ship_count_86 : decode b_Ship_count 86 = .ok (.aload_n 0, 1) := by decide +kernel
theorem d_Ship_count_87 : decode b_Ship_count 87 = .ok (.getfield 58, 3) := by decide +kernel
theorem d_Ship_count_90 : decode b_Ship_count 90 = .ok (.getfield 146, 3) := by decide +kernel
theorem d_Ship_count_93 : decode b_Ship_count 93 = .ok (.ireturn, 1) := by decide +kernel
theorem d_Ship_count_94 : decode b_Ship_count 94 = .ok (.aload_n 0, 1) := by decide +kernel
theorem d_Ship_count_95 : decode b_Ship_count 95 = .ok (.getfield 58, 3) := by decide +kernel
theorem d_Ship_count_98 : decode b_Ship_count 98 = .ok (.getfield 149, 3) := by decide +kernel
theorem d_Ship_count_101 : decode b_Ship_count 101 = .ok (.ireturn, 1) := by decide +kernel
theorem d_Ship_count_102 : decode b_Ship_count 102 = .ok (.aload_n 0, 1) := by decide +kernel
theorem d_Ship_count_103 : decode b_Ship_count 103 = .ok (.getfield 58, 3) := by decide +kernel
theorem d_Ship_count_106 : decode b_Ship_count 106 = .ok (.getfield 152, 3) := by decide +kernel
theorem d_Ship_count_109 : decode b_Ship_count 109 = .ok (.ireturn, 1) := by decide +kernel
theorem d_Ship_count_110 : decode b_Ship_count 110 = .ok (.aload_n 0, 1) := by decide +kernel
theorem d_Ship_count_111 : decode b_Ship_count 111 = .ok (.getfield 58, 3) := by decide +kernel
theorem d_Ship_count_114 : decode b_Ship_count 114 = .ok (.invokevirtual 155, 3) := by decide +kernel
theorem d_Ship_count_117 : decode b_Ship_count 117 = .ok (.ireturn, 1) := by decide +kernel
theorem d_Ship_count_118 : decode b_Ship_count 118 = .ok (.aload_n 0, 1) := by decide +kernel
theorem d_Ship_count_119 : decode b_Ship_count 119 = .ok (.getfield 58, 3) := by decide +kernel
theorem d_Ship_count_122 : decode b_Ship_count 122 = .ok (.getfield 159, 3) := by decide +kernel
theorem d_Ship_count_125 : decode b_Ship_count 125 = .ok (.invokevirtual 163, 3) := by decide +kernel
theorem d_Ship_count_128 : decode b_Ship_count 128 = .ok (.ireturn, 1) := by decide +kernel
theorem d_Ship_count_129 : decode b_Ship_count 129 = .ok (.aload_n 0, 1) := by decide +kernel
theorem d_Ship_count_130 : decode b_Ship_count 130 = .ok (.getfield 58, 3) := by decide +kernel
theorem d_Ship_count_133 : decode b_Ship_count 133 = .ok (.getfield 159, 3) := by decide +kernel
theorem d_Ship_count_136 : decode b_Ship_count 136 = .ok (.invokevirtual 168, 3) := by decide +kernel
theorem d_Ship_count_139 : decode b_Ship_count 139 = .ok (.ireturn, 1) := by decide +kernel
theorem d_Ship_depth_15 : decode b_Ship_depth 15 = .ok (.aload_n 0, 1) := by decide +kernel
theorem d_Ship_depth_16 : decode b_Ship_depth 16 = .ok (.getfield 58, 3) := by decide +kernel
theorem d_Ship_depth_19 : decode b_Ship_depth 19 = .ok (.getfield 159, 3) := by decide +kernel
theorem d_Ship_depth_22 : decode b_Ship_depth 22 = .ok (.aload_n 0, 1) := by decide +kernel
theorem d_Ship_depth_23 : decode b_Ship_depth 23 = .ok (.getfield 58, 3) := by decide +kernel
theorem d_Ship_depth_26 : decode b_Ship_depth 26 = .ok (.iload_n 1, 1) := by decide +kernel
theorem d_Ship_depth_27 : decode b_Ship_depth 27 = .ok (.iload_n 2, 1) := by decide +kernel
theorem d_Ship_depth_28 : decode b_Ship_depth 28 = .ok (.invokevirtual 178, 3) := by decide +kernel
theorem d_Ship_depth_31 : decode b_Ship_depth 31 = .ok (.invokevirtual 181, 3) := by decide +kernel
theorem d_Ship_depth_34 : decode b_Ship_depth 34 = .ok (.ireturn, 1) := by decide +kernel
theorem d_Ship_kind_15 : decode b_Ship_kind 15 = .ok (.aload_n 0, 1) := by decide +kernel
theorem d_Ship_kind_16 : decode b_Ship_kind 16 = .ok (.getfield 58, 3) := by decide +kernel
theorem d_Ship_kind_19 : decode b_Ship_kind 19 = .ok (.iload_n 1, 1) := by decide +kernel
theorem d_Ship_kind_20 : decode b_Ship_kind 20 = .ok (.iload_n 2, 1) := by decide +kernel
theorem d_Ship_kind_21 : decode b_Ship_kind 21 = .ok (.invokevirtual 178, 3) := by decide +kernel
theorem d_Ship_kind_24 : decode b_Ship_kind 24 = .ok (.istore 5, 2) := by decide +kernel
theorem d_Ship_kind_26 : decode b_Ship_kind 26 = .ok (.aload_n 0, 1) := by decide +kernel
theorem d_Ship_kind_27 : decode b_Ship_kind 27 = .ok (.getfield 58, 3) := by decide +kernel
theorem d_Ship_kind_30 : decode b_Ship_kind 30 = .ok (.getfield 159, 3) := by decide +kernel
theorem d_Ship_kind_33 : decode b_Ship_kind 33 = .ok (.iload 5, 2) := by decide +kernel
theorem d_Ship_kind_35 : decode b_Ship_kind 35 = .ok (.invokevirtual 181, 3) := by decide +kernel
theorem d_Ship_kind_38 : decode b_Ship_kind 38 = .ok (.istore 6, 2) := by decide +kernel
theorem d_Ship_kind_40 : decode b_Ship_kind 40 = .ok (.iload_n 3, 1) := by decide +kernel
theorem d_Ship_kind_41 : decode b_Ship_kind 41 = .ok (.ifCond .eq 14, 3) := by decide +kernel
theorem d_Ship_kind_44 : decode b_Ship_kind 44 = .ok (.aload_n 0, 1) := by decide +kernel
theorem d_Ship_kind_45 : decode b_Ship_kind 45 = .ok (.getfield 58, 3) := by decide +kernel
theorem d_Ship_kind_48 : decode b_Ship_kind 48 = .ok (.iload_n 1, 1) := by decide +kernel
theorem d_Ship_kind_49 : decode b_Ship_kind 49 = .ok (.invokevirtual 184, 3) := by decide +kernel
theorem d_Ship_kind_52 : decode b_Ship_kind 52 = .ok (.goto 5, 3) := by decide +kernel
theorem d_Ship_kind_55 : decode b_Ship_kind 55 = .ok (.iload 6, 2) := by decide +kernel
theorem d_Ship_kind_57 : decode b_Ship_kind 57 = .ok (.istore 7, 2) := by decide +kernel
theorem d_Ship_kind_59 : decode b_Ship_kind 59 = .ok (.iload 6, 2) := by decide +kernel
theorem d_Ship_kind_61 : decode b_Ship_kind 61 = .ok (.iconst (-1), 1) := by decide +kernel
theorem d_Ship_kind_62 : decode b_Ship_kind 62 = .ok (.if_icmp .eq 15, 3) := by decide +kernel
theorem d_Ship_kind_65 : decode b_Ship_kind 65 = .ok (.iload 4, 2) := by decide +kernel
theorem d_Ship_kind_67 : decode b_Ship_kind 67 = .ok (.ifCond .lt 10, 3) := by decide +kernel
theorem d_Ship_kind_70 : decode b_Ship_kind 70 = .ok (.iload 4, 2) := by decide +kernel
theorem d_Ship_kind_72 : decode b_Ship_kind 72 = .ok (.iload 7, 2) := by decide +kernel
theorem d_Ship_kind_74 : decode b_Ship_kind 74 = .ok (.if_icmp .lt 5, 3) := by decide +kernel
theorem d_Ship_kind_77 : decode b_Ship_kind 77 = .ok (.iconst (-1), 1) := by decide +kernel
theorem d_Ship_kind_78 : decode b_Ship_kind 78 = .ok (.ireturn, 1) := by decide +kernel
theorem d_Ship_kind_79 : decode b_Ship_kind 79 = .ok (.aload_n 0, 1) := by decide +kernel
theorem d_Ship_kind_80 : decode b_Ship_kind 80 = .ok (.getfield 58, 3) := by decide +kernel
theorem d_Ship_kind_83 : decode b_Ship_kind 83 = .ok (.getfield 159, 3) := by decide +kernel
theorem d_Ship_kind_86 : decode b_Ship_kind 86 = .ok (.iload 5, 2) := by decide +kernel
theorem d_Ship_kind_88 : decode b_Ship_kind 88 = .ok (.iload_n 3, 1) := by decide +kernel
theorem d_Ship_kind_89 : decode b_Ship_kind 89 = .ok (.ifCond .eq 11, 3) := by decide +kernel
theorem d_Ship_kind_92 : decode b_Ship_kind 92 = .ok (.bipush 64, 2) := by decide +kernel
theorem d_Ship_kind_94 : decode b_Ship_kind 94 = .ok (.iload 4, 2) := by decide +kernel
theorem d_Ship_kind_96 : decode b_Ship_kind 96 = .ok (.iadd, 1) := by decide +kernel
theorem d_Ship_kind_97 : decode b_Ship_kind 97 = .ok (.goto 5, 3) := by decide +kernel
theorem d_Ship_kind_100 : decode b_Ship_kind 100 = .ok (.iload 4, 2) := by decide +kernel
theorem d_Ship_kind_102 : decode b_Ship_kind 102 = .ok (.invokevirtual 187, 3) := by decide +kernel
theorem d_Ship_kind_105 : decode b_Ship_kind 105 = .ok (.ireturn, 1) := by decide +kernel
theorem d_Ship_rule_22 : decode b_Ship_rule 22 = .ok (.aload_n 0, 1) := by decide +kernel
theorem d_Ship_rule_23 : decode b_Ship_rule 23 = .ok (.getfield 10, 3) := by decide +kernel
theorem d_Ship_rule_26 : decode b_Ship_rule 26 = .ok (.aload_n 0, 1) := by decide +kernel
theorem d_Ship_rule_27 : decode b_Ship_rule 27 = .ok (.getfield 10, 3) := by decide +kernel
theorem d_Ship_rule_30 : decode b_Ship_rule 30 = .ok (.getfield 64, 3) := by decide +kernel
theorem d_Ship_rule_33 : decode b_Ship_rule 33 = .ok (.iload_n 2, 1) := by decide +kernel
theorem d_Ship_rule_34 : decode b_Ship_rule 34 = .ok (.isub, 1) := by decide +kernel
theorem d_Ship_rule_35 : decode b_Ship_rule 35 = .ok (.invokevirtual 86, 3) := by decide +kernel
theorem d_Ship_rule_38 : decode b_Ship_rule 38 = .ok (.ifCond .ne 11, 3) := by decide +kernel
theorem d_Ship_rule_49 : decode b_Ship_rule 49 = .ok (.iload_n 1, 1) := by decide +kernel
theorem d_Ship_rule_50 : decode b_Ship_rule 50 = .ok (.ifCond .eq 7, 3) := by decide +kernel
theorem d_Ship_rule_53 : decode b_Ship_rule 53 = .ok (.iconst 1, 1) := by decide +kernel
theorem d_Ship_rule_54 : decode b_Ship_rule 54 = .ok (.goto 4, 3) := by decide +kernel
theorem d_Ship_rule_57 : decode b_Ship_rule 57 = .ok (.iconst 0, 1) := by decide +kernel
theorem d_Ship_rule_58 : decode b_Ship_rule 58 = .ok (.istore_n 3, 1) := by decide +kernel
theorem d_Ship_rule_59 : decode b_Ship_rule 59 = .ok (.aload_n 0, 1) := by decide +kernel
theorem d_Ship_rule_60 : decode b_Ship_rule 60 = .ok (.getfield 26, 3) := by decide +kernel
theorem d_Ship_rule_63 : decode b_Ship_rule 63 = .ok (.iload_n 3, 1) := by decide +kernel
theorem d_Ship_rule_64 : decode b_Ship_rule 64 = .ok (.invokevirtual 90, 3) := by decide +kernel
theorem d_Ship_rule_67 : decode b_Ship_rule 67 = .ok (.ifCond .eq 11, 3) := by decide +kernel
theorem d_Ship_rule_70 : decode b_Ship_rule 70 = .ok (.new 68, 3) := by decide +kernel
theorem d_Ship_rule_73 : decode b_Ship_rule 73 = .ok (.dup, 1) := by decide +kernel
theorem d_Ship_rule_74 : decode b_Ship_rule 74 = .ok (.invokespecial 70, 3) := by decide +kernel
theorem d_Ship_rule_77 : decode b_Ship_rule 77 = .ok (.athrow, 1) := by decide +kernel
theorem d_Ship_rule_78 : decode b_Ship_rule 78 = .ok (.aload_n 0, 1) := by decide +kernel
theorem d_Ship_rule_79 : decode b_Ship_rule 79 = .ok (.getfield 26, 3) := by decide +kernel
theorem d_Ship_rule_82 : decode b_Ship_rule 82 = .ok (.iload_n 3, 1) := by decide +kernel
theorem d_Ship_rule_83 : decode b_Ship_rule 83 = .ok (.aload_n 0, 1) := by decide +kernel
theorem d_Ship_rule_84 : decode b_Ship_rule 84 = .ok (.getfield 10, 3) := by decide +kernel
theorem d_Ship_rule_87 : decode b_Ship_rule 87 = .ok (.iload_n 2, 1) := by decide +kernel
theorem d_Ship_rule_88 : decode b_Ship_rule 88 = .ok (.invokevirtual 93, 3) := by decide +kernel
theorem d_Ship_rule_91 : decode b_Ship_rule 91 = .ok (.aload_n 0, 1) := by decide +kernel
theorem d_Ship_rule_92 : decode b_Ship_rule 92 = .ok (.getfield 10, 3) := by decide +kernel
theorem d_Ship_rule_95 : decode b_Ship_rule 95 = .ok (.dup, 1) := by decide +kernel
theorem d_Ship_rule_96 : decode b_Ship_rule 96 = .ok (.getfield 64, 3) := by decide +kernel
theorem d_Ship_rule_99 : decode b_Ship_rule 99 = .ok (.iload_n 2, 1) := by decide +kernel
theorem d_Ship_rule_100 : decode b_Ship_rule 100 = .ok (.isub, 1) := by decide +kernel
theorem d_Ship_rule_101 : decode b_Ship_rule 101 = .ok (.putfield 64, 3) := by decide +kernel
theorem d_Ship_rule_104 : decode b_Ship_rule 104 = .ok (.aload_n 0, 1) := by decide +kernel
theorem d_Ship_rule_105 : decode b_Ship_rule 105 = .ok (.getfield 26, 3) := by decide +kernel
theorem d_Ship_rule_108 : decode b_Ship_rule 108 = .ok (.getfield 97, 3) := by decide +kernel
theorem d_Ship_rule_111 : decode b_Ship_rule 111 = .ok (.iload_n 3, 1) := by decide +kernel
theorem d_Ship_rule_112 : decode b_Ship_rule 112 = .ok (.iaload, 1) := by decide +kernel
theorem d_Ship_rule_113 : decode b_Ship_rule 113 = .ok (.ireturn, 1) := by decide +kernel
theorem d_Ship_text_15 : decode b_Ship_text 15 = .ok (.iload_n 1, 1) := by decide +kernel
theorem d_Ship_text_16 : decode b_Ship_text 16 = .ok (.ifCond .lt 9, 3) := by decide +kernel
theorem d_Ship_text_19 : decode b_Ship_text 19 = .ok (.iload_n 1, 1) := by decide +kernel
theorem d_Ship_text_20 : decode b_Ship_text 20 = .ok (.bipush 6, 2) := by decide +kernel
theorem d_Ship_text_22 : decode b_Ship_text 22 = .ok (.if_icmp .le 11, 3) := by decide +kernel
theorem d_Ship_text_25 : decode b_Ship_text 25 = .ok (.new 61, 3) := by decide +kernel
theorem d_Ship_text_28 : decode b_Ship_text 28 = .ok (.dup, 1) := by decide +kernel
theorem d_Ship_text_29 : decode b_Ship_text 29 = .ok (.invokespecial 63, 3) := by decide +kernel
theorem d_Ship_text_32 : decode b_Ship_text 32 = .ok (.athrow, 1) := by decide +kernel
theorem d_Ship_text_33 : decode b_Ship_text 33 = .ok (.aload_n 0, 1) := by decide +kernel
theorem d_Ship_text_34 : decode b_Ship_text 34 = .ok (.getfield 58, 3) := by decide +kernel
theorem d_Ship_text_37 : decode b_Ship_text 37 = .ok (.aload_n 0, 1) := by decide +kernel
theorem d_Ship_text_38 : decode b_Ship_text 38 = .ok (.getfield 58, 3) := by decide +kernel
theorem d_Ship_text_41 : decode b_Ship_text 41 = .ok (.iload_n 1, 1) := by decide +kernel
theorem d_Ship_text_42 : decode b_Ship_text 42 = .ok (.iload_n 2, 1) := by decide +kernel
theorem d_Ship_text_43 : decode b_Ship_text 43 = .ok (.invokevirtual 171, 3) := by decide +kernel
theorem d_Ship_text_46 : decode b_Ship_text 46 = .ok (.iload_n 3, 1) := by decide +kernel
theorem d_Ship_text_47 : decode b_Ship_text 47 = .ok (.invokevirtual 174, 3) := by decide +kernel
theorem d_Ship_text_50 : decode b_Ship_text 50 = .ok (.ireturn, 1) := by decide +kernel
