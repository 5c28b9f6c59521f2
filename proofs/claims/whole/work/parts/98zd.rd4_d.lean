theorem d_Mod_readMembers_12 : decode b_Mod_readMembers 12 = .ok (.aload_n 0, 1) := by decide +kernel
theorem d_Mod_readMembers_13 : decode b_Mod_readMembers 13 = .ok (.getfield 147, 3) := by decide +kernel
theorem d_Mod_readMembers_16 : decode b_Mod_readMembers 16 = .ok (.ifCond .ne 137, 3) := by decide +kernel
theorem d_Mod_readMembers_19 : decode b_Mod_readMembers 19 = .ok (.aload_n 0, 1) := by decide +kernel
theorem d_Mod_readMembers_20 : decode b_Mod_readMembers 20 = .ok (.getfield 205, 3) := by decide +kernel
theorem d_Mod_readMembers_23 : decode b_Mod_readMembers 23 = .ok (.istore 4, 2) := by decide +kernel
theorem d_Mod_readMembers_25 : decode b_Mod_readMembers 25 = .ok (.aload_n 0, 1) := by decide +kernel
theorem d_Mod_readMembers_26 : decode b_Mod_readMembers 26 = .ok (.getfield 53, 3) := by decide +kernel
theorem d_Mod_readMembers_29 : decode b_Mod_readMembers 29 = .ok (.iload 4, 2) := by decide +kernel
theorem d_Mod_readMembers_31 : decode b_Mod_readMembers 31 = .ok (.aload_n 0, 1) := by decide +kernel
theorem d_Mod_readMembers_32 : decode b_Mod_readMembers 32 = .ok (.getfield 150, 3) := by decide +kernel
theorem d_Mod_readMembers_35 : decode b_Mod_readMembers 35 = .ok (.iastore, 1) := by decide +kernel
theorem d_Mod_readMembers_36 : decode b_Mod_readMembers 36 = .ok (.aload_n 0, 1) := by decide +kernel
theorem d_Mod_readMembers_37 : decode b_Mod_readMembers 37 = .ok (.getfield 50, 3) := by decide +kernel
theorem d_Mod_readMembers_40 : decode b_Mod_readMembers 40 = .ok (.iload 4, 2) := by decide +kernel
theorem d_Mod_readMembers_42 : decode b_Mod_readMembers 42 = .ok (.aload_n 0, 1) := by decide +kernel
theorem d_Mod_readMembers_43 : decode b_Mod_readMembers 43 = .ok (.invokevirtual 172, 3) := by decide +kernel
theorem d_Mod_readMembers_46 : decode b_Mod_readMembers 46 = .ok (.iastore, 1) := by decide +kernel
theorem d_Mod_readMembers_47 : decode b_Mod_readMembers 47 = .ok (.aload_n 0, 1) := by decide +kernel
theorem d_Mod_readMembers_48 : decode b_Mod_readMembers 48 = .ok (.getfield 56, 3) := by decide +kernel
theorem d_Mod_readMembers_51 : decode b_Mod_readMembers 51 = .ok (.iload 4, 2) := by decide +kernel
theorem d_Mod_readMembers_53 : decode b_Mod_readMembers 53 = .ok (.aload_n 0, 1) := by decide +kernel
theorem d_Mod_readMembers_54 : decode b_Mod_readMembers 54 = .ok (.invokevirtual 172, 3) := by decide +kernel
theorem d_Mod_readMembers_57 : decode b_Mod_readMembers 57 = .ok (.iastore, 1) := by decide +kernel
theorem d_Mod_readMembers_58 : decode b_Mod_readMembers 58 = .ok (.aload_n 0, 1) := by decide +kernel
theorem d_Mod_readMembers_59 : decode b_Mod_readMembers 59 = .ok (.getfield 59, 3) := by decide +kernel
theorem d_Mod_readMembers_62 : decode b_Mod_readMembers 62 = .ok (.iload 4, 2) := by decide +kernel
theorem d_Mod_readMembers_64 : decode b_Mod_readMembers 64 = .ok (.aload_n 0, 1) := by decide +kernel
theorem d_Mod_readMembers_65 : decode b_Mod_readMembers 65 = .ok (.invokevirtual 172, 3) := by decide +kernel
theorem d_Mod_readMembers_68 : decode b_Mod_readMembers 68 = .ok (.iastore, 1) := by decide +kernel
theorem d_Mod_readMembers_69 : decode b_Mod_readMembers 69 = .ok (.aload_n 0, 1) := by decide +kernel
theorem d_Mod_readMembers_70 : decode b_Mod_readMembers 70 = .ok (.getfield 62, 3) := by decide +kernel
theorem d_Mod_readMembers_73 : decode b_Mod_readMembers 73 = .ok (.iload 4, 2) := by decide +kernel
theorem d_Mod_readMembers_75 : decode b_Mod_readMembers 75 = .ok (.iconst 0, 1) := by decide +kernel
theorem d_Mod_readMembers_76 : decode b_Mod_readMembers 76 = .ok (.iastore, 1) := by decide +kernel
theorem d_Mod_readMembers_77 : decode b_Mod_readMembers 77 = .ok (.aload_n 0, 1) := by decide +kernel
theorem d_Mod_readMembers_78 : decode b_Mod_readMembers 78 = .ok (.invokevirtual 172, 3) := by decide +kernel
theorem d_Mod_readMembers_81 : decode b_Mod_readMembers 81 = .ok (.istore 5, 2) := by decide +kernel
theorem d_Mod_readMembers_83 : decode b_Mod_readMembers 83 = .ok (.iconst 0, 1) := by decide +kernel
theorem d_Mod_readMembers_84 : decode b_Mod_readMembers 84 = .ok (.istore 6, 2) := by decide +kernel
theorem d_Mod_readMembers_86 : decode b_Mod_readMembers 86 = .ok (.iload 6, 2) := by decide +kernel
theorem d_Mod_readMembers_88 : decode b_Mod_readMembers 88 = .ok (.iload 5, 2) := by decide +kernel
theorem d_Mod_readMembers_90 : decode b_Mod_readMembers 90 = .ok (.if_icmp .ge 33, 3) := by decide +kernel
theorem d_Mod_readMembers_93 : decode b_Mod_readMembers 93 = .ok (.aload_n 0, 1) := by decide +kernel
theorem d_Mod_readMembers_94 : decode b_Mod_readMembers 94 = .ok (.getfield 147, 3) := by decide +kernel
theorem d_Mod_readMembers_97 : decode b_Mod_readMembers 97 = .ok (.ifCond .ne 26, 3) := by decide +kernel
theorem d_Mod_readMembers_100 : decode b_Mod_readMembers 100 = .ok (.iload_n 1, 1) := by decide +kernel
theorem d_Mod_readMembers_101 : decode b_Mod_readMembers 101 = .ok (.ifCond .eq 12, 3) := by decide +kernel
theorem d_Mod_readMembers_104 : decode b_Mod_readMembers 104 = .ok (.aload_n 0, 1) := by decide +kernel
theorem d_Mod_readMembers_105 : decode b_Mod_readMembers 105 = .ok (.iload 4, 2) := by decide +kernel
theorem d_Mod_readMembers_107 : decode b_Mod_readMembers 107 = .ok (.invokevirtual 208, 3) := by decide +kernel
theorem d_Mod_readMembers_110 : decode b_Mod_readMembers 110 = .ok (.goto 7, 3) := by decide +kernel
theorem d_Mod_readMembers_113 : decode b_Mod_readMembers 113 = .ok (.aload_n 0, 1) := by decide +kernel
theorem d_Mod_readMembers_114 : decode b_Mod_readMembers 114 = .ok (.invokevirtual 188, 3) := by decide +kernel
theorem d_Mod_readMembers_117 : decode b_Mod_readMembers 117 = .ok (.iinc 6 1, 3) := by decide +kernel
theorem d_Mod_readMembers_120 : decode b_Mod_readMembers 120 = .ok (.goto (-34), 3) := by decide +kernel
theorem d_Mod_readMembers_123 : decode b_Mod_readMembers 123 = .ok (.aload_n 0, 1) := by decide +kernel
theorem d_Mod_readMembers_124 : decode b_Mod_readMembers 124 = .ok (.aload_n 0, 1) := by decide +kernel
theorem d_Mod_readMembers_125 : decode b_Mod_readMembers 125 = .ok (.getfield 147, 3) := by decide +kernel
theorem d_Mod_readMembers_128 : decode b_Mod_readMembers 128 = .ok (.ifCond .ne 12, 3) := by decide +kernel
theorem d_Mod_readMembers_131 : decode b_Mod_readMembers 131 = .ok (.aload_n 0, 1) := by decide +kernel
theorem d_Mod_readMembers_132 : decode b_Mod_readMembers 132 = .ok (.getfield 205, 3) := by decide +kernel
theorem d_Mod_readMembers_135 : decode b_Mod_readMembers 135 = .ok (.iconst 1, 1) := by decide +kernel
theorem d_Mod_readMembers_136 : decode b_Mod_readMembers 136 = .ok (.iadd, 1) := by decide +kernel
theorem d_Mod_readMembers_137 : decode b_Mod_readMembers 137 = .ok (.goto 7, 3) := by decide +kernel
theorem d_Mod_readMembers_140 : decode b_Mod_readMembers 140 = .ok (.aload_n 0, 1) := by decide +kernel
theorem d_Mod_readMembers_141 : decode b_Mod_readMembers 141 = .ok (.getfield 205, 3) := by decide +kernel
theorem d_Mod_readMembers_144 : decode b_Mod_readMembers 144 = .ok (.putfield 205, 3) := by decide +kernel
theorem d_Mod_readMembers_147 : decode b_Mod_readMembers 147 = .ok (.iinc 3 1, 3) := by decide +kernel
theorem d_Mod_readMembers_150 : decode b_Mod_readMembers 150 = .ok (.goto (-143), 3) := by decide +kernel
theorem d_Mod_readMethodAttribute_0 : decode b_Mod_readMethodAttribute 0 = .ok (.aload_n 0, 1) := by decide +kernel
theorem d_Mod_readMethodAttribute_1 : decode b_Mod_readMethodAttribute 1 = .ok (.getfield 150, 3) := by decide +kernel
theorem d_Mod_readMethodAttribute_4 : decode b_Mod_readMethodAttribute 4 = .ok (.istore_n 2, 1) := by decide +kernel
theorem d_Mod_readMethodAttribute_5 : decode b_Mod_readMethodAttribute 5 = .ok (.aload_n 0, 1) := by decide +kernel
theorem d_Mod_readMethodAttribute_6 : decode b_Mod_readMethodAttribute 6 = .ok (.invokevirtual 172, 3) := by decide +kernel
theorem d_Mod_readMethodAttribute_9 : decode b_Mod_readMethodAttribute 9 = .ok (.istore_n 3, 1) := by decide +kernel
theorem d_Mod_readMethodAttribute_10 : decode b_Mod_readMethodAttribute 10 = .ok (.aload_n 0, 1) := by decide +kernel
theorem d_Mod_readMethodAttribute_11 : decode b_Mod_readMethodAttribute 11 = .ok (.getfield 147, 3) := by decide +kernel
theorem d_Mod_readMethodAttribute_14 : decode b_Mod_readMethodAttribute 14 = .ok (.ifCond .ne 19, 3) := by decide +kernel
theorem d_Mod_readMethodAttribute_17 : decode b_Mod_readMethodAttribute 17 = .ok (.aload_n 0, 1) := by decide +kernel
theorem d_Mod_readMethodAttribute_18 : decode b_Mod_readMethodAttribute 18 = .ok (.iload_n 3, 1) := by decide +kernel
theorem d_Mod_readMethodAttribute_19 : decode b_Mod_readMethodAttribute 19 = .ok (.iconst 1, 1) := by decide +kernel
theorem d_Mod_readMethodAttribute_20 : decode b_Mod_readMethodAttribute 20 = .ok (.invokevirtual 184, 3) := by decide +kernel
theorem d_Mod_readMethodAttribute_23 : decode b_Mod_readMethodAttribute 23 = .ok (.ifCond .ne 10, 3) := by decide +kernel
theorem d_Mod_readMethodAttribute_26 : decode b_Mod_readMethodAttribute 26 = .ok (.aload_n 0, 1) := by decide +kernel
theorem d_Mod_readMethodAttribute_27 : decode b_Mod_readMethodAttribute 27 = .ok (.bipush 6, 2) := by decide +kernel
theorem d_Mod_readMethodAttribute_29 : decode b_Mod_readMethodAttribute 29 = .ok (.iload_n 2, 1) := by decide +kernel
theorem d_Mod_readMethodAttribute_30 : decode b_Mod_readMethodAttribute 30 = .ok (.invokevirtual 159, 3) := by decide +kernel
theorem d_Mod_readMethodAttribute_33 : decode b_Mod_readMethodAttribute 33 = .ok (.aload_n 0, 1) := by decide +kernel
theorem d_Mod_readMethodAttribute_34 : decode b_Mod_readMethodAttribute 34 = .ok (.iconst 4, 1) := by decide +kernel
theorem d_Mod_readMethodAttribute_35 : decode b_Mod_readMethodAttribute 35 = .ok (.invokevirtual 165, 3) := by decide +kernel
theorem d_Mod_readMethodAttribute_38 : decode b_Mod_readMethodAttribute 38 = .ok (.lstore 4, 2) := by decide +kernel
theorem d_Mod_readMethodAttribute_40 : decode b_Mod_readMethodAttribute 40 = .ok (.aload_n 0, 1) := by decide +kernel
theorem d_Mod_readMethodAttribute_41 : decode b_Mod_readMethodAttribute 41 = .ok (.lload 4, 2) := by decide +kernel
theorem d_Mod_readMethodAttribute_43 : decode b_Mod_readMethodAttribute 43 = .ok (.invokevirtual 180, 3) := by decide +kernel
theorem d_Mod_readMethodAttribute_46 : decode b_Mod_readMethodAttribute 46 = .ok (.istore 6, 2) := by decide +kernel
theorem d_Mod_readMethodAttribute_48 : decode b_Mod_readMethodAttribute 48 = .ok (.aload_n 0, 1) := by decide +kernel
theorem d_Mod_readMethodAttribute_49 : decode b_Mod_readMethodAttribute 49 = .ok (.getfield 147, 3) := by decide +kernel
theorem d_Mod_readMethodAttribute_52 : decode b_Mod_readMethodAttribute 52 = .ok (.ifCond .ne 19, 3) := by decide +kernel
theorem d_Mod_readMethodAttribute_55 : decode b_Mod_readMethodAttribute 55 = .ok (.aload_n 0, 1) := by decide +kernel
theorem d_Mod_readMethodAttribute_56 : decode b_Mod_readMethodAttribute 56 = .ok (.iload_n 3, 1) := by decide +kernel
theorem d_Mod_readMethodAttribute_57 : decode b_Mod_readMethodAttribute 57 = .ok (.bipush 67, 2) := by decide +kernel
theorem d_Mod_readMethodAttribute_59 : decode b_Mod_readMethodAttribute 59 = .ok (.bipush 111, 2) := by decide +kernel
theorem d_Mod_readMethodAttribute_61 : decode b_Mod_readMethodAttribute 61 = .ok (.bipush 100, 2) := by decide +kernel
theorem d_Mod_readMethodAttribute_63 : decode b_Mod_readMethodAttribute 63 = .ok (.bipush 101, 2) := by decide +kernel
theorem d_Mod_readMethodAttribute_65 : decode b_Mod_readMethodAttribute 65 = .ok (.invokevirtual 191, 3) := by decide +kernel
theorem d_Mod_readMethodAttribute_68 : decode b_Mod_readMethodAttribute 68 = .ok (.ifCond .ne 4, 3) := by decide +kernel
theorem d_Mod_readMethodAttribute_71 : decode b_Mod_readMethodAttribute 71 = .ok (.return_, 1) := by decide +kernel
theorem d_Mod_readMethodAttribute_72 : decode b_Mod_readMethodAttribute 72 = .ok (.aload_n 0, 1) := by decide +kernel
theorem d_Mod_readMethodAttribute_73 : decode b_Mod_readMethodAttribute 73 = .ok (.getfield 62, 3) := by decide +kernel
theorem d_Mod_readMethodAttribute_76 : decode b_Mod_readMethodAttribute 76 = .ok (.iload_n 1, 1) := by decide +kernel
theorem d_Mod_readMethodAttribute_77 : decode b_Mod_readMethodAttribute 77 = .ok (.iaload, 1) := by decide +kernel
theorem d_Mod_readMethodAttribute_78 : decode b_Mod_readMethodAttribute 78 = .ok (.ifCond .le 11, 3) := by decide +kernel
theorem d_Mod_readMethodAttribute_81 : decode b_Mod_readMethodAttribute 81 = .ok (.aload_n 0, 1) := by decide +kernel
theorem d_Mod_readMethodAttribute_82 : decode b_Mod_readMethodAttribute 82 = .ok (.bipush 7, 2) := by decide +kernel
theorem d_Mod_readMethodAttribute_84 : decode b_Mod_readMethodAttribute 84 = .ok (.iload_n 2, 1) := by decide +kernel
theorem d_Mod_readMethodAttribute_85 : decode b_Mod_readMethodAttribute 85 = .ok (.invokevirtual 159, 3) := by decide +kernel
theorem d_Mod_readMethodAttribute_88 : decode b_Mod_readMethodAttribute 88 = .ok (.return_, 1) := by decide +kernel
theorem d_Mod_readMethodAttribute_89 : decode b_Mod_readMethodAttribute 89 = .ok (.aload_n 0, 1) := by decide +kernel
theorem d_Mod_readMethodAttribute_90 : decode b_Mod_readMethodAttribute 90 = .ok (.getfield 62, 3) := by decide +kernel
theorem d_Mod_readMethodAttribute_93 : decode b_Mod_readMethodAttribute 93 = .ok (.iload_n 1, 1) := by decide +kernel
theorem d_Mod_readMethodAttribute_94 : decode b_Mod_readMethodAttribute 94 = .ok (.iload_n 2, 1) := by decide +kernel
theorem d_Mod_readMethodAttribute_95 : decode b_Mod_readMethodAttribute 95 = .ok (.iastore, 1) := by decide +kernel
theorem d_Mod_readMethodAttribute_96 : decode b_Mod_readMethodAttribute 96 = .ok (.aload_n 0, 1) := by decide +kernel
theorem d_Mod_readMethodAttribute_97 : decode b_Mod_readMethodAttribute 97 = .ok (.getfield 150, 3) := by decide +kernel
theorem d_Mod_readMethodAttribute_100 : decode b_Mod_readMethodAttribute 100 = .ok (.istore 7, 2) := by decide +kernel
theorem d_Mod_readMethodAttribute_102 : decode b_Mod_readMethodAttribute 102 = .ok (.aload_n 0, 1) := by decide +kernel
theorem d_Mod_readMethodAttribute_103 : decode b_Mod_readMethodAttribute 103 = .ok (.getfield 153, 3) := by decide +kernel
theorem d_Mod_readMethodAttribute_106 : decode b_Mod_readMethodAttribute 106 = .ok (.istore 8, 2) := by decide +kernel
theorem d_Mod_readMethodAttribute_108 : decode b_Mod_readMethodAttribute 108 = .ok (.aload_n 0, 1) := by decide +kernel
theorem d_Mod_readMethodAttribute_109 : decode b_Mod_readMethodAttribute 109 = .ok (.iload 6, 2) := by decide +kernel
theorem d_Mod_readMethodAttribute_111 : decode b_Mod_readMethodAttribute 111 = .ok (.putfield 150, 3) := by decide +kernel
theorem d_Mod_readMethodAttribute_114 : decode b_Mod_readMethodAttribute 114 = .ok (.aload_n 0, 1) := by decide +kernel
theorem d_Mod_readMethodAttribute_115 : decode b_Mod_readMethodAttribute 115 = .ok (.iload 7, 2) := by decide +kernel
theorem d_Mod_readMethodAttribute_117 : decode b_Mod_readMethodAttribute 117 = .ok (.putfield 153, 3) := by decide +kernel
theorem d_Mod_readMethodAttribute_120 : decode b_Mod_readMethodAttribute 120 = .ok (.aload_n 0, 1) := by decide +kernel
theorem d_Mod_readMethodAttribute_121 : decode b_Mod_readMethodAttribute 121 = .ok (.iload_n 2, 1) := by decide +kernel
theorem d_Mod_readMethodAttribute_122 : decode b_Mod_readMethodAttribute 122 = .ok (.putfield 156, 3) := by decide +kernel
theorem d_Mod_readMethodAttribute_125 : decode b_Mod_readMethodAttribute 125 = .ok (.aload_n 0, 1) := by decide +kernel
theorem d_Mod_readMethodAttribute_126 : decode b_Mod_readMethodAttribute 126 = .ok (.iload_n 1, 1) := by decide +kernel
theorem d_Mod_readMethodAttribute_127 : decode b_Mod_readMethodAttribute 127 = .ok (.invokevirtual 195, 3) := by decide +kernel
theorem d_Mod_readMethodAttribute_130 : decode b_Mod_readMethodAttribute 130 = .ok (.aload_n 0, 1) := by decide +kernel
theorem d_Mod_readMethodAttribute_131 : decode b_Mod_readMethodAttribute 131 = .ok (.iconst 0, 1) := by decide +kernel
theorem d_Mod_readMethodAttribute_132 : decode b_Mod_readMethodAttribute 132 = .ok (.putfield 156, 3) := by decide +kernel
theorem d_Mod_readMethodAttribute_135 : decode b_Mod_readMethodAttribute 135 = .ok (.aload_n 0, 1) := by decide +kernel
theorem d_Mod_readMethodAttribute_136 : decode b_Mod_readMethodAttribute 136 = .ok (.iload 8, 2) := by decide +kernel
theorem d_Mod_readMethodAttribute_138 : decode b_Mod_readMethodAttribute 138 = .ok (.putfield 153, 3) := by decide +kernel
theorem d_Mod_readMethodAttribute_141 : decode b_Mod_readMethodAttribute 141 = .ok (.aload_n 0, 1) := by decide +kernel
theorem d_Mod_readMethodAttribute_142 : decode b_Mod_readMethodAttribute 142 = .ok (.aload_n 0, 1) := by decide +kernel
theorem d_Mod_readMethodAttribute_143 : decode b_Mod_readMethodAttribute 143 = .ok (.getfield 147, 3) := by decide +kernel
theorem d_Mod_readMethodAttribute_146 : decode b_Mod_readMethodAttribute 146 = .ok (.ifCond .ne 8, 3) := by decide +kernel
theorem d_Mod_readMethodAttribute_149 : decode b_Mod_readMethodAttribute 149 = .ok (.iload 7, 2) := by decide +kernel
theorem d_Mod_readMethodAttribute_151 : decode b_Mod_readMethodAttribute 151 = .ok (.goto 7, 3) := by decide +kernel
theorem d_Mod_readMethodAttribute_154 : decode b_Mod_readMethodAttribute 154 = .ok (.aload_n 0, 1) := by decide +kernel
theorem d_Mod_readMethodAttribute_155 : decode b_Mod_readMethodAttribute 155 = .ok (.getfield 150, 3) := by decide +kernel
theorem d_Mod_readMethodAttribute_158 : decode b_Mod_readMethodAttribute 158 = .ok (.putfield 150, 3) := by decide +kernel
theorem d_Mod_readMethodAttribute_161 : decode b_Mod_readMethodAttribute 161 = .ok (.return_, 1) := by decide +kernel
