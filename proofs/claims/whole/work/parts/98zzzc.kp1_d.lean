theorem d_Mod_keepFrame_0 : decode b_Mod_keepFrame 0 = .ok (.aload_n 0, 1) := by decide +kernel
theorem d_Mod_keepFrame_1 : decode b_Mod_keepFrame 1 = .ok (.getfield 127, 3) := by decide +kernel
theorem d_Mod_keepFrame_4 : decode b_Mod_keepFrame 4 = .ok (.iload_n 1, 1) := by decide +kernel
theorem d_Mod_keepFrame_5 : decode b_Mod_keepFrame 5 = .ok (.aload_n 0, 1) := by decide +kernel
theorem d_Mod_keepFrame_6 : decode b_Mod_keepFrame 6 = .ok (.getfield 90, 3) := by decide +kernel
theorem d_Mod_keepFrame_9 : decode b_Mod_keepFrame 9 = .ok (.iload_n 1, 1) := by decide +kernel
theorem d_Mod_keepFrame_10 : decode b_Mod_keepFrame 10 = .ok (.iaload, 1) := by decide +kernel
theorem d_Mod_keepFrame_11 : decode b_Mod_keepFrame 11 = .ok (.iastore, 1) := by decide +kernel
theorem d_Mod_keepFrame_12 : decode b_Mod_keepFrame 12 = .ok (.aload_n 0, 1) := by decide +kernel
theorem d_Mod_keepFrame_13 : decode b_Mod_keepFrame 13 = .ok (.getfield 90, 3) := by decide +kernel
theorem d_Mod_keepFrame_16 : decode b_Mod_keepFrame 16 = .ok (.iload_n 1, 1) := by decide +kernel
theorem d_Mod_keepFrame_17 : decode b_Mod_keepFrame 17 = .ok (.iaload, 1) := by decide +kernel
theorem d_Mod_keepFrame_18 : decode b_Mod_keepFrame 18 = .ok (.ifCond .ge 4, 3) := by decide +kernel
theorem d_Mod_keepFrame_21 : decode b_Mod_keepFrame 21 = .ok (.return_, 1) := by decide +kernel
theorem d_Mod_keepFrame_22 : decode b_Mod_keepFrame 22 = .ok (.aload_n 0, 1) := by decide +kernel
theorem d_Mod_keepFrame_23 : decode b_Mod_keepFrame 23 = .ok (.getfield 112, 3) := by decide +kernel
theorem d_Mod_keepFrame_26 : decode b_Mod_keepFrame 26 = .ok (.iconst 5, 1) := by decide +kernel
theorem d_Mod_keepFrame_27 : decode b_Mod_keepFrame 27 = .ok (.dup2, 1) := by decide +kernel
theorem d_Mod_keepFrame_28 : decode b_Mod_keepFrame 28 = .ok (.iaload, 1) := by decide +kernel
theorem d_Mod_keepFrame_29 : decode b_Mod_keepFrame 29 = .ok (.iconst 1, 1) := by decide +kernel
theorem d_Mod_keepFrame_30 : decode b_Mod_keepFrame 30 = .ok (.iadd, 1) := by decide +kernel
theorem d_Mod_keepFrame_31 : decode b_Mod_keepFrame 31 = .ok (.iastore, 1) := by decide +kernel
theorem d_Mod_keepFrame_32 : decode b_Mod_keepFrame 32 = .ok (.aload_n 0, 1) := by decide +kernel
theorem d_Mod_keepFrame_33 : decode b_Mod_keepFrame 33 = .ok (.getfield 112, 3) := by decide +kernel
theorem d_Mod_keepFrame_36 : decode b_Mod_keepFrame 36 = .ok (.bipush 6, 2) := by decide +kernel
theorem d_Mod_keepFrame_38 : decode b_Mod_keepFrame 38 = .ok (.aload_n 0, 1) := by decide +kernel
theorem d_Mod_keepFrame_39 : decode b_Mod_keepFrame 39 = .ok (.getfield 90, 3) := by decide +kernel
theorem d_Mod_keepFrame_42 : decode b_Mod_keepFrame 42 = .ok (.iload_n 1, 1) := by decide +kernel
theorem d_Mod_keepFrame_43 : decode b_Mod_keepFrame 43 = .ok (.iaload, 1) := by decide +kernel
theorem d_Mod_keepFrame_44 : decode b_Mod_keepFrame 44 = .ok (.aload_n 0, 1) := by decide +kernel
theorem d_Mod_keepFrame_45 : decode b_Mod_keepFrame 45 = .ok (.getfield 112, 3) := by decide +kernel
theorem d_Mod_keepFrame_48 : decode b_Mod_keepFrame 48 = .ok (.bipush 6, 2) := by decide +kernel
theorem d_Mod_keepFrame_50 : decode b_Mod_keepFrame 50 = .ok (.iaload, 1) := by decide +kernel
theorem d_Mod_keepFrame_51 : decode b_Mod_keepFrame 51 = .ok (.if_icmp .le 12, 3) := by decide +kernel
theorem d_Mod_keepFrame_54 : decode b_Mod_keepFrame 54 = .ok (.aload_n 0, 1) := by decide +kernel
theorem d_Mod_keepFrame_55 : decode b_Mod_keepFrame 55 = .ok (.getfield 90, 3) := by decide +kernel
theorem d_Mod_keepFrame_58 : decode b_Mod_keepFrame 58 = .ok (.iload_n 1, 1) := by decide +kernel
theorem d_Mod_keepFrame_59 : decode b_Mod_keepFrame 59 = .ok (.iaload, 1) := by decide +kernel
theorem d_Mod_keepFrame_60 : decode b_Mod_keepFrame 60 = .ok (.goto 10, 3) := by decide +kernel
theorem d_Mod_keepFrame_63 : decode b_Mod_keepFrame 63 = .ok (.aload_n 0, 1) := by decide +kernel
theorem d_Mod_keepFrame_64 : decode b_Mod_keepFrame 64 = .ok (.getfield 112, 3) := by decide +kernel
theorem d_Mod_keepFrame_67 : decode b_Mod_keepFrame 67 = .ok (.bipush 6, 2) := by decide +kernel
theorem d_Mod_keepFrame_69 : decode b_Mod_keepFrame 69 = .ok (.iaload, 1) := by decide +kernel
theorem d_Mod_keepFrame_70 : decode b_Mod_keepFrame 70 = .ok (.iastore, 1) := by decide +kernel
theorem d_Mod_keepFrame_71 : decode b_Mod_keepFrame 71 = .ok (.iconst 0, 1) := by decide +kernel
theorem d_Mod_keepFrame_72 : decode b_Mod_keepFrame 72 = .ok (.istore_n 2, 1) := by decide +kernel
theorem d_Mod_keepFrame_73 : decode b_Mod_keepFrame 73 = .ok (.iload_n 2, 1) := by decide +kernel
theorem d_Mod_keepFrame_74 : decode b_Mod_keepFrame 74 = .ok (.sipush 128, 3) := by decide +kernel
theorem d_Mod_keepFrame_77 : decode b_Mod_keepFrame 77 = .ok (.if_icmp .ge 33, 3) := by decide +kernel
theorem d_Mod_keepFrame_80 : decode b_Mod_keepFrame 80 = .ok (.aload_n 0, 1) := by decide +kernel
theorem d_Mod_keepFrame_81 : decode b_Mod_keepFrame 81 = .ok (.getfield 130, 3) := by decide +kernel
theorem d_Mod_keepFrame_84 : decode b_Mod_keepFrame 84 = .ok (.sipush 128, 3) := by decide +kernel
theorem d_Mod_keepFrame_87 : decode b_Mod_keepFrame 87 = .ok (.iload_n 1, 1) := by decide +kernel
theorem d_Mod_keepFrame_88 : decode b_Mod_keepFrame 88 = .ok (.imul, 1) := by decide +kernel
theorem d_Mod_keepFrame_89 : decode b_Mod_keepFrame 89 = .ok (.iload_n 2, 1) := by decide +kernel
theorem d_Mod_keepFrame_90 : decode b_Mod_keepFrame 90 = .ok (.iadd, 1) := by decide +kernel
theorem d_Mod_keepFrame_91 : decode b_Mod_keepFrame 91 = .ok (.aload_n 0, 1) := by decide +kernel
theorem d_Mod_keepFrame_92 : decode b_Mod_keepFrame 92 = .ok (.getfield 97, 3) := by decide +kernel
theorem d_Mod_keepFrame_95 : decode b_Mod_keepFrame 95 = .ok (.sipush 128, 3) := by decide +kernel
theorem d_Mod_keepFrame_98 : decode b_Mod_keepFrame 98 = .ok (.iload_n 1, 1) := by decide +kernel
theorem d_Mod_keepFrame_99 : decode b_Mod_keepFrame 99 = .ok (.imul, 1) := by decide +kernel
theorem d_Mod_keepFrame_100 : decode b_Mod_keepFrame 100 = .ok (.iload_n 2, 1) := by decide +kernel
theorem d_Mod_keepFrame_101 : decode b_Mod_keepFrame 101 = .ok (.iadd, 1) := by decide +kernel
theorem d_Mod_keepFrame_102 : decode b_Mod_keepFrame 102 = .ok (.iaload, 1) := by decide +kernel
theorem d_Mod_keepFrame_103 : decode b_Mod_keepFrame 103 = .ok (.iastore, 1) := by decide +kernel
theorem d_Mod_keepFrame_104 : decode b_Mod_keepFrame 104 = .ok (.iinc 2 1, 3) := by decide +kernel
theorem d_Mod_keepFrame_107 : decode b_Mod_keepFrame 107 = .ok (.goto (-34), 3) := by decide +kernel
theorem d_Mod_keepFrame_110 : decode b_Mod_keepFrame 110 = .ok (.return_, 1) := by decide +kernel
theorem d_Mod_keepText_0 : decode b_Mod_keepText 0 = .ok (.aload_n 0, 1) := by decide +kernel
theorem d_Mod_keepText_1 : decode b_Mod_keepText 1 = .ok (.getfield 115, 3) := by decide +kernel
theorem d_Mod_keepText_4 : decode b_Mod_keepText 4 = .ok (.iload_n 1, 1) := by decide +kernel
theorem d_Mod_keepText_5 : decode b_Mod_keepText 5 = .ok (.aload_n 0, 1) := by decide +kernel
theorem d_Mod_keepText_6 : decode b_Mod_keepText 6 = .ok (.getfield 38, 3) := by decide +kernel
theorem d_Mod_keepText_9 : decode b_Mod_keepText 9 = .ok (.iload_n 2, 1) := by decide +kernel
theorem d_Mod_keepText_10 : decode b_Mod_keepText 10 = .ok (.iaload, 1) := by decide +kernel
theorem d_Mod_keepText_11 : decode b_Mod_keepText 11 = .ok (.iastore, 1) := by decide +kernel
theorem d_Mod_keepText_12 : decode b_Mod_keepText 12 = .ok (.aload_n 0, 1) := by decide +kernel
theorem d_Mod_keepText_13 : decode b_Mod_keepText 13 = .ok (.getfield 115, 3) := by decide +kernel
theorem d_Mod_keepText_16 : decode b_Mod_keepText 16 = .ok (.iload_n 1, 1) := by decide +kernel
theorem d_Mod_keepText_17 : decode b_Mod_keepText 17 = .ok (.iconst 1, 1) := by decide +kernel
theorem d_Mod_keepText_18 : decode b_Mod_keepText 18 = .ok (.iadd, 1) := by decide +kernel
theorem d_Mod_keepText_19 : decode b_Mod_keepText 19 = .ok (.aload_n 0, 1) := by decide +kernel
theorem d_Mod_keepText_20 : decode b_Mod_keepText 20 = .ok (.getfield 41, 3) := by decide +kernel
theorem d_Mod_keepText_23 : decode b_Mod_keepText 23 = .ok (.iload_n 2, 1) := by decide +kernel
theorem d_Mod_keepText_24 : decode b_Mod_keepText 24 = .ok (.iaload, 1) := by decide +kernel
theorem d_Mod_keepText_25 : decode b_Mod_keepText 25 = .ok (.iastore, 1) := by decide +kernel
theorem d_Mod_keepText_26 : decode b_Mod_keepText 26 = .ok (.return_, 1) := by decide +kernel
