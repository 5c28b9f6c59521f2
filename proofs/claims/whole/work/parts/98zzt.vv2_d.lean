theorem d_Mod_toHandlers_0 : decode b_Mod_toHandlers 0 = .ok (.aload_n 0, 1) := by decide +kernel
theorem d_Mod_toHandlers_1 : decode b_Mod_toHandlers 1 = .ok (.getfield 77, 3) := by decide +kernel
theorem d_Mod_toHandlers_4 : decode b_Mod_toHandlers 4 = .ok (.iload_n 1, 1) := by decide +kernel
theorem d_Mod_toHandlers_5 : decode b_Mod_toHandlers 5 = .ok (.iaload, 1) := by decide +kernel
theorem d_Mod_toHandlers_6 : decode b_Mod_toHandlers 6 = .ok (.istore_n 3, 1) := by decide +kernel
theorem d_Mod_toHandlers_7 : decode b_Mod_toHandlers 7 = .ok (.iload_n 3, 1) := by decide +kernel
theorem d_Mod_toHandlers_8 : decode b_Mod_toHandlers 8 = .ok (.aload_n 0, 1) := by decide +kernel
theorem d_Mod_toHandlers_9 : decode b_Mod_toHandlers 9 = .ok (.getfield 80, 3) := by decide +kernel
theorem d_Mod_toHandlers_12 : decode b_Mod_toHandlers 12 = .ok (.iload_n 1, 1) := by decide +kernel
theorem d_Mod_toHandlers_13 : decode b_Mod_toHandlers 13 = .ok (.iaload, 1) := by decide +kernel
theorem d_Mod_toHandlers_14 : decode b_Mod_toHandlers 14 = .ok (.if_icmp .ge 116, 3) := by decide +kernel
theorem d_Mod_toHandlers_17 : decode b_Mod_toHandlers 17 = .ok (.aload_n 0, 1) := by decide +kernel
theorem d_Mod_toHandlers_18 : decode b_Mod_toHandlers 18 = .ok (.getfield 147, 3) := by decide +kernel
theorem d_Mod_toHandlers_21 : decode b_Mod_toHandlers 21 = .ok (.ifCond .ne 109, 3) := by decide +kernel
theorem d_Mod_toHandlers_24 : decode b_Mod_toHandlers 24 = .ok (.aload_n 0, 1) := by decide +kernel
theorem d_Mod_toHandlers_25 : decode b_Mod_toHandlers 25 = .ok (.getfield 83, 3) := by decide +kernel
theorem d_Mod_toHandlers_28 : decode b_Mod_toHandlers 28 = .ok (.iload_n 3, 1) := by decide +kernel
theorem d_Mod_toHandlers_29 : decode b_Mod_toHandlers 29 = .ok (.iaload, 1) := by decide +kernel
theorem d_Mod_toHandlers_30 : decode b_Mod_toHandlers 30 = .ok (.istore 4, 2) := by decide +kernel
theorem d_Mod_toHandlers_32 : decode b_Mod_toHandlers 32 = .ok (.aload_n 0, 1) := by decide +kernel
theorem d_Mod_toHandlers_33 : decode b_Mod_toHandlers 33 = .ok (.iload 4, 2) := by decide +kernel
theorem d_Mod_toHandlers_35 : decode b_Mod_toHandlers 35 = .ok (.invokevirtual 294, 3) := by decide +kernel
theorem d_Mod_toHandlers_38 : decode b_Mod_toHandlers 38 = .ok (.iload_n 2, 1) := by decide +kernel
theorem d_Mod_toHandlers_39 : decode b_Mod_toHandlers 39 = .ok (.if_icmp .gt 85, 3) := by decide +kernel
theorem d_Mod_toHandlers_42 : decode b_Mod_toHandlers 42 = .ok (.iload_n 2, 1) := by decide +kernel
theorem d_Mod_toHandlers_43 : decode b_Mod_toHandlers 43 = .ok (.aload_n 0, 1) := by decide +kernel
theorem d_Mod_toHandlers_44 : decode b_Mod_toHandlers 44 = .ok (.iload 4, 2) := by decide +kernel
theorem d_Mod_toHandlers_46 : decode b_Mod_toHandlers 46 = .ok (.iconst 2, 1) := by decide +kernel
theorem d_Mod_toHandlers_47 : decode b_Mod_toHandlers 47 = .ok (.iadd, 1) := by decide +kernel
theorem d_Mod_toHandlers_48 : decode b_Mod_toHandlers 48 = .ok (.invokevirtual 294, 3) := by decide +kernel
theorem d_Mod_toHandlers_51 : decode b_Mod_toHandlers 51 = .ok (.if_icmp .ge 73, 3) := by decide +kernel
theorem d_Mod_toHandlers_54 : decode b_Mod_toHandlers 54 = .ok (.aload_n 0, 1) := by decide +kernel
theorem d_Mod_toHandlers_55 : decode b_Mod_toHandlers 55 = .ok (.getfield 65, 3) := by decide +kernel
theorem d_Mod_toHandlers_58 : decode b_Mod_toHandlers 58 = .ok (.iload_n 1, 1) := by decide +kernel
theorem d_Mod_toHandlers_59 : decode b_Mod_toHandlers 59 = .ok (.iaload, 1) := by decide +kernel
theorem d_Mod_toHandlers_60 : decode b_Mod_toHandlers 60 = .ok (.ifCond .ne 14, 3) := by decide +kernel
theorem d_Mod_toHandlers_63 : decode b_Mod_toHandlers 63 = .ok (.aload_n 0, 1) := by decide +kernel
theorem d_Mod_toHandlers_64 : decode b_Mod_toHandlers 64 = .ok (.bipush 22, 2) := by decide +kernel
theorem d_Mod_toHandlers_66 : decode b_Mod_toHandlers 66 = .ok (.aload_n 0, 1) := by decide +kernel
theorem d_Mod_toHandlers_67 : decode b_Mod_toHandlers 67 = .ok (.getfield 309, 3) := by decide +kernel
theorem d_Mod_toHandlers_70 : decode b_Mod_toHandlers 70 = .ok (.invokevirtual 159, 3) := by decide +kernel
theorem d_Mod_toHandlers_73 : decode b_Mod_toHandlers 73 = .ok (.return_, 1) := by decide +kernel
theorem d_Mod_toHandlers_74 : decode b_Mod_toHandlers 74 = .ok (.aload_n 0, 1) := by decide +kernel
theorem d_Mod_toHandlers_75 : decode b_Mod_toHandlers 75 = .ok (.getfield 100, 3) := by decide +kernel
theorem d_Mod_toHandlers_78 : decode b_Mod_toHandlers 78 = .ok (.bipush 64, 2) := by decide +kernel
theorem d_Mod_toHandlers_80 : decode b_Mod_toHandlers 80 = .ok (.iaload, 1) := by decide +kernel
theorem d_Mod_toHandlers_81 : decode b_Mod_toHandlers 81 = .ok (.istore 5, 2) := by decide +kernel
theorem d_Mod_toHandlers_83 : decode b_Mod_toHandlers 83 = .ok (.aload_n 0, 1) := by decide +kernel
theorem d_Mod_toHandlers_84 : decode b_Mod_toHandlers 84 = .ok (.getfield 100, 3) := by decide +kernel
theorem d_Mod_toHandlers_87 : decode b_Mod_toHandlers 87 = .ok (.bipush 64, 2) := by decide +kernel
theorem d_Mod_toHandlers_89 : decode b_Mod_toHandlers 89 = .ok (.iconst 4, 1) := by decide +kernel
theorem d_Mod_toHandlers_90 : decode b_Mod_toHandlers 90 = .ok (.iastore, 1) := by decide +kernel
theorem d_Mod_toHandlers_91 : decode b_Mod_toHandlers 91 = .ok (.aload_n 0, 1) := by decide +kernel
theorem d_Mod_toHandlers_92 : decode b_Mod_toHandlers 92 = .ok (.aload_n 0, 1) := by decide +kernel
theorem d_Mod_toHandlers_93 : decode b_Mod_toHandlers 93 = .ok (.getfield 71, 3) := by decide +kernel
theorem d_Mod_toHandlers_96 : decode b_Mod_toHandlers 96 = .ok (.iload_n 1, 1) := by decide +kernel
theorem d_Mod_toHandlers_97 : decode b_Mod_toHandlers 97 = .ok (.iaload, 1) := by decide +kernel
theorem d_Mod_toHandlers_98 : decode b_Mod_toHandlers 98 = .ok (.aload_n 0, 1) := by decide +kernel
theorem d_Mod_toHandlers_99 : decode b_Mod_toHandlers 99 = .ok (.iload 4, 2) := by decide +kernel
theorem d_Mod_toHandlers_101 : decode b_Mod_toHandlers 101 = .ok (.iconst 4, 1) := by decide +kernel
theorem d_Mod_toHandlers_102 : decode b_Mod_toHandlers 102 = .ok (.iadd, 1) := by decide +kernel
theorem d_Mod_toHandlers_103 : decode b_Mod_toHandlers 103 = .ok (.invokevirtual 294, 3) := by decide +kernel
theorem d_Mod_toHandlers_106 : decode b_Mod_toHandlers 106 = .ok (.iadd, 1) := by decide +kernel
theorem d_Mod_toHandlers_107 : decode b_Mod_toHandlers 107 = .ok (.aload_n 0, 1) := by decide +kernel
theorem d_Mod_toHandlers_108 : decode b_Mod_toHandlers 108 = .ok (.getfield 103, 3) := by decide +kernel
theorem d_Mod_toHandlers_111 : decode b_Mod_toHandlers 111 = .ok (.iconst 1, 1) := by decide +kernel
theorem d_Mod_toHandlers_112 : decode b_Mod_toHandlers 112 = .ok (.invokevirtual 376, 3) := by decide +kernel
theorem d_Mod_toHandlers_115 : decode b_Mod_toHandlers 115 = .ok (.aload_n 0, 1) := by decide +kernel
theorem d_Mod_toHandlers_116 : decode b_Mod_toHandlers 116 = .ok (.getfield 100, 3) := by decide +kernel
theorem d_Mod_toHandlers_119 : decode b_Mod_toHandlers 119 = .ok (.bipush 64, 2) := by decide +kernel
theorem d_Mod_toHandlers_121 : decode b_Mod_toHandlers 121 = .ok (.iload 5, 2) := by decide +kernel
theorem d_Mod_toHandlers_123 : decode b_Mod_toHandlers 123 = .ok (.iastore, 1) := by decide +kernel
theorem d_Mod_toHandlers_124 : decode b_Mod_toHandlers 124 = .ok (.iinc 3 1, 3) := by decide +kernel
theorem d_Mod_toHandlers_127 : decode b_Mod_toHandlers 127 = .ok (.goto (-120), 3) := by decide +kernel
theorem d_Mod_toHandlers_130 : decode b_Mod_toHandlers 130 = .ok (.return_, 1) := by decide +kernel
