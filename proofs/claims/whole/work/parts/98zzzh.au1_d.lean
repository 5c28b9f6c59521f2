theorem d_Mod_audit_26 : decode b_Mod_audit 26 = .ok (.aload_n 0, 1) := by decide +kernel
theorem d_Mod_audit_27 : decode b_Mod_audit 27 = .ok (.invokevirtual 395, 3) := by decide +kernel
theorem d_Mod_audit_37 : decode b_Mod_audit 37 = .ok (.aload_n 0, 1) := by decide +kernel
theorem d_Mod_audit_38 : decode b_Mod_audit 38 = .ok (.invokevirtual 398, 3) := by decide +kernel
theorem d_Mod_audit_53 : decode b_Mod_audit 53 = .ok (.iload_n 1, 1) := by decide +kernel
theorem d_Mod_audit_54 : decode b_Mod_audit 54 = .ok (.aload_n 0, 1) := by decide +kernel
theorem d_Mod_audit_55 : decode b_Mod_audit 55 = .ok (.getfield 205, 3) := by decide +kernel
theorem d_Mod_audit_58 : decode b_Mod_audit 58 = .ok (.if_icmp .ge 23, 3) := by decide +kernel
theorem d_Mod_audit_61 : decode b_Mod_audit 61 = .ok (.aload_n 0, 1) := by decide +kernel
theorem d_Mod_audit_62 : decode b_Mod_audit 62 = .ok (.getfield 62, 3) := by decide +kernel
theorem d_Mod_audit_65 : decode b_Mod_audit 65 = .ok (.iload_n 1, 1) := by decide +kernel
theorem d_Mod_audit_66 : decode b_Mod_audit 66 = .ok (.iaload, 1) := by decide +kernel
theorem d_Mod_audit_67 : decode b_Mod_audit 67 = .ok (.ifCond .le 8, 3) := by decide +kernel
theorem d_Mod_audit_70 : decode b_Mod_audit 70 = .ok (.aload_n 0, 1) := by decide +kernel
theorem d_Mod_audit_71 : decode b_Mod_audit 71 = .ok (.iload_n 1, 1) := by decide +kernel
theorem d_Mod_audit_72 : decode b_Mod_audit 72 = .ok (.invokevirtual 401, 3) := by decide +kernel
theorem d_Mod_audit_75 : decode b_Mod_audit 75 = .ok (.iinc 1 1, 3) := by decide +kernel
theorem d_Mod_audit_78 : decode b_Mod_audit 78 = .ok (.goto (-32), 3) := by decide +kernel
theorem d_Mod_audit_88 : decode b_Mod_audit 88 = .ok (.aload_n 0, 1) := by decide +kernel
theorem d_Mod_audit_89 : decode b_Mod_audit 89 = .ok (.invokevirtual 404, 3) := by decide +kernel
