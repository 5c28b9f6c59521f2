theorem d_Reader_reads_30 : decode b_Reader_reads 30 = .ok (.aload_n 0, 1) := by decide +kernel
theorem d_Reader_reads_31 : decode b_Reader_reads 31 = .ok (.invokevirtual 34, 3) := by decide +kernel
theorem d_Reader_reads_34 : decode b_Reader_reads 34 = .ok (.ifCond .eq 26, 3) := by decide +kernel
theorem d_Reader_reads_37 : decode b_Reader_reads 37 = .ok (.aload_n 0, 1) := by decide +kernel
theorem d_Reader_reads_38 : decode b_Reader_reads 38 = .ok (.invokevirtual 37, 3) := by decide +kernel
theorem d_Reader_reads_41 : decode b_Reader_reads 41 = .ok (.ifCond .eq 19, 3) := by decide +kernel
theorem d_Reader_reads_44 : decode b_Reader_reads 44 = .ok (.aload_n 0, 1) := by decide +kernel
theorem d_Reader_reads_45 : decode b_Reader_reads 45 = .ok (.iconst 0, 1) := by decide +kernel
theorem d_Reader_reads_46 : decode b_Reader_reads 46 = .ok (.invokevirtual 40, 3) := by decide +kernel
theorem d_Reader_reads_49 : decode b_Reader_reads 49 = .ok (.ifCond .eq 11, 3) := by decide +kernel
theorem d_Reader_reads_52 : decode b_Reader_reads 52 = .ok (.aload_n 0, 1) := by decide +kernel
theorem d_Reader_reads_53 : decode b_Reader_reads 53 = .ok (.iconst 1, 1) := by decide +kernel
theorem d_Reader_reads_54 : decode b_Reader_reads 54 = .ok (.invokevirtual 40, 3) := by decide +kernel
theorem d_Reader_reads_57 : decode b_Reader_reads 57 = .ok (.ifCond .ne 5, 3) := by decide +kernel
theorem d_Reader_reads_62 : decode b_Reader_reads 62 = .ok (.aload_n 0, 1) := by decide +kernel
theorem d_Reader_reads_63 : decode b_Reader_reads 63 = .ok (.iconst (-1), 1) := by decide +kernel
theorem d_Reader_reads_64 : decode b_Reader_reads 64 = .ok (.invokevirtual 44, 3) := by decide +kernel
theorem d_Reader_reads_67 : decode b_Reader_reads 67 = .ok (.ifCond .ne 5, 3) := by decide +kernel
theorem d_Reader_reads_70 : decode b_Reader_reads 70 = .ok (.iconst 0, 1) := by decide +kernel
theorem d_Reader_reads_71 : decode b_Reader_reads 71 = .ok (.ireturn, 1) := by decide +kernel
theorem d_Reader_reads_72 : decode b_Reader_reads 72 = .ok (.aload_n 0, 1) := by decide +kernel
theorem d_Reader_reads_73 : decode b_Reader_reads 73 = .ok (.getfield 26, 3) := by decide +kernel
theorem d_Reader_reads_76 : decode b_Reader_reads 76 = .ok (.aload_n 0, 1) := by decide +kernel
theorem d_Reader_reads_77 : decode b_Reader_reads 77 = .ok (.getfield 21, 3) := by decide +kernel
theorem d_Reader_reads_80 : decode b_Reader_reads 80 = .ok (.getfield 48, 3) := by decide +kernel
theorem d_Reader_reads_83 : decode b_Reader_reads 83 = .ok (.if_icmp .eq 19, 3) := by decide +kernel
theorem d_Reader_reads_86 : decode b_Reader_reads 86 = .ok (.aload_n 0, 1) := by decide +kernel
theorem d_Reader_reads_87 : decode b_Reader_reads 87 = .ok (.getfield 22, 3) := by decide +kernel
theorem d_Reader_reads_90 : decode b_Reader_reads 90 = .ok (.bipush 9, 2) := by decide +kernel
theorem d_Reader_reads_92 : decode b_Reader_reads 92 = .ok (.aload_n 0, 1) := by decide +kernel
theorem d_Reader_reads_93 : decode b_Reader_reads 93 = .ok (.getfield 26, 3) := by decide +kernel
theorem d_Reader_reads_96 : decode b_Reader_reads 96 = .ok (.invokevirtual 53, 3) := by decide +kernel
theorem d_Reader_reads_99 : decode b_Reader_reads 99 = .ok (.ifCond .eq 7, 3) := by decide +kernel
theorem d_Reader_reads_102 : decode b_Reader_reads 102 = .ok (.iconst 1, 1) := by decide +kernel
theorem d_Reader_reads_103 : decode b_Reader_reads 103 = .ok (.goto 4, 3) := by decide +kernel
theorem d_Reader_reads_106 : decode b_Reader_reads 106 = .ok (.iconst 0, 1) := by decide +kernel
theorem d_Reader_reads_107 : decode b_Reader_reads 107 = .ok (.ireturn, 1) := by decide +kernel
