theorem d_Ship_audit_36 : decode b_Ship_audit 36 = .ok (.aload_n 0, 1) := by decide +kernel
theorem d_Ship_audit_37 : decode b_Ship_audit 37 = .ok (.getfield 40, 3) := by decide +kernel
theorem d_Ship_audit_40 : decode b_Ship_audit 40 = .ok (.aload_n 0, 1) := by decide +kernel
theorem d_Ship_audit_41 : decode b_Ship_audit 41 = .ok (.getfield 54, 3) := by decide +kernel
theorem d_Ship_audit_44 : decode b_Ship_audit 44 = .ok (.aload_n 0, 1) := by decide +kernel
theorem d_Ship_audit_45 : decode b_Ship_audit 45 = .ok (.getfield 19, 3) := by decide +kernel
theorem d_Ship_audit_48 : decode b_Ship_audit 48 = .ok (.invokevirtual 118, 3) := by decide +kernel
theorem d_Ship_audit_51 : decode b_Ship_audit 51 = .ok (.ifCond .eq 62, 3) := by decide +kernel
theorem d_Ship_audit_54 : decode b_Ship_audit 54 = .ok (.aload_n 0, 1) := by decide +kernel
theorem d_Ship_audit_55 : decode b_Ship_audit 55 = .ok (.getfield 26, 3) := by decide +kernel
theorem d_Ship_audit_58 : decode b_Ship_audit 58 = .ok (.aload_n 0, 1) := by decide +kernel
theorem d_Ship_audit_59 : decode b_Ship_audit 59 = .ok (.getfield 54, 3) := by decide +kernel
theorem d_Ship_audit_62 : decode b_Ship_audit 62 = .ok (.aload_n 0, 1) := by decide +kernel
theorem d_Ship_audit_63 : decode b_Ship_audit 63 = .ok (.getfield 19, 3) := by decide +kernel
theorem d_Ship_audit_66 : decode b_Ship_audit 66 = .ok (.invokevirtual 121, 3) := by decide +kernel
theorem d_Ship_audit_69 : decode b_Ship_audit 69 = .ok (.ifCond .eq 44, 3) := by decide +kernel
theorem d_Ship_audit_72 : decode b_Ship_audit 72 = .ok (.aload_n 0, 1) := by decide +kernel
theorem d_Ship_audit_73 : decode b_Ship_audit 73 = .ok (.getfield 47, 3) := by decide +kernel
theorem d_Ship_audit_76 : decode b_Ship_audit 76 = .ok (.aload_n 0, 1) := by decide +kernel
theorem d_Ship_audit_77 : decode b_Ship_audit 77 = .ok (.getfield 54, 3) := by decide +kernel
theorem d_Ship_audit_80 : decode b_Ship_audit 80 = .ok (.aload_n 0, 1) := by decide +kernel
theorem d_Ship_audit_81 : decode b_Ship_audit 81 = .ok (.getfield 19, 3) := by decide +kernel
theorem d_Ship_audit_84 : decode b_Ship_audit 84 = .ok (.invokevirtual 124, 3) := by decide +kernel
theorem d_Ship_audit_87 : decode b_Ship_audit 87 = .ok (.ifCond .eq 26, 3) := by decide +kernel
theorem d_Ship_audit_90 : decode b_Ship_audit 90 = .ok (.aload_n 0, 1) := by decide +kernel
theorem d_Ship_audit_91 : decode b_Ship_audit 91 = .ok (.getfield 58, 3) := by decide +kernel
theorem d_Ship_audit_94 : decode b_Ship_audit 94 = .ok (.astore_n 1, 1) := by decide +kernel
theorem d_Ship_audit_95 : decode b_Ship_audit 95 = .ok (.aload_n 0, 1) := by decide +kernel
theorem d_Ship_audit_96 : decode b_Ship_audit 96 = .ok (.aload_n 0, 1) := by decide +kernel
theorem d_Ship_audit_97 : decode b_Ship_audit 97 = .ok (.getfield 54, 3) := by decide +kernel
theorem d_Ship_audit_100 : decode b_Ship_audit 100 = .ok (.putfield 58, 3) := by decide +kernel
theorem d_Ship_audit_103 : decode b_Ship_audit 103 = .ok (.aload_n 0, 1) := by decide +kernel
theorem d_Ship_audit_104 : decode b_Ship_audit 104 = .ok (.aload_n 1, 1) := by decide +kernel
theorem d_Ship_audit_105 : decode b_Ship_audit 105 = .ok (.putfield 54, 3) := by decide +kernel
theorem d_Ship_audit_108 : decode b_Ship_audit 108 = .ok (.aload_n 0, 1) := by decide +kernel
theorem d_Ship_audit_109 : decode b_Ship_audit 109 = .ok (.iconst 1, 1) := by decide +kernel
theorem d_Ship_audit_110 : decode b_Ship_audit 110 = .ok (.putfield 127, 3) := by decide +kernel
