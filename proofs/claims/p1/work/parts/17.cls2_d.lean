theorem d_Arrays_fill_aBBV_0 : decode b_Arrays_fill_aBBV 0 = .ok (.iconst 0, 1) := by decide +kernel
theorem d_Arrays_fill_aBBV_1 : decode b_Arrays_fill_aBBV 1 = .ok (.istore_n 2, 1) := by decide +kernel
theorem d_Arrays_fill_aBBV_2 : decode b_Arrays_fill_aBBV 2 = .ok (.aload_n 0, 1) := by decide +kernel
theorem d_Arrays_fill_aBBV_3 : decode b_Arrays_fill_aBBV 3 = .ok (.arraylength, 1) := by decide +kernel
theorem d_Arrays_fill_aBBV_4 : decode b_Arrays_fill_aBBV 4 = .ok (.istore_n 3, 1) := by decide +kernel
theorem d_Arrays_fill_aBBV_5 : decode b_Arrays_fill_aBBV 5 = .ok (.iload_n 2, 1) := by decide +kernel
theorem d_Arrays_fill_aBBV_6 : decode b_Arrays_fill_aBBV 6 = .ok (.iload_n 3, 1) := by decide +kernel
theorem d_Arrays_fill_aBBV_7 : decode b_Arrays_fill_aBBV 7 = .ok (.if_icmp .ge 13, 3) := by decide +kernel
theorem d_Arrays_fill_aBBV_10 : decode b_Arrays_fill_aBBV 10 = .ok (.aload_n 0, 1) := by decide +kernel
theorem d_Arrays_fill_aBBV_11 : decode b_Arrays_fill_aBBV 11 = .ok (.iload_n 2, 1) := by decide +kernel
theorem d_Arrays_fill_aBBV_12 : decode b_Arrays_fill_aBBV 12 = .ok (.iload_n 1, 1) := by decide +kernel
theorem d_Arrays_fill_aBBV_13 : decode b_Arrays_fill_aBBV 13 = .ok (.bastore, 1) := by decide +kernel
theorem d_Arrays_fill_aBBV_14 : decode b_Arrays_fill_aBBV 14 = .ok (.iinc 2 1, 3) := by decide +kernel
theorem d_Arrays_fill_aBBV_17 : decode b_Arrays_fill_aBBV 17 = .ok (.goto (-12), 3) := by decide +kernel
theorem d_Arrays_fill_aBBV_20 : decode b_Arrays_fill_aBBV 20 = .ok (.return_, 1) := by decide +kernel
theorem d_Arrays_fill_aIIV_0 : decode b_Arrays_fill_aIIV 0 = .ok (.iconst 0, 1) := by decide +kernel
theorem d_Arrays_fill_aIIV_1 : decode b_Arrays_fill_aIIV 1 = .ok (.istore_n 2, 1) := by decide +kernel
theorem d_Arrays_fill_aIIV_2 : decode b_Arrays_fill_aIIV 2 = .ok (.aload_n 0, 1) := by decide +kernel
theorem d_Arrays_fill_aIIV_3 : decode b_Arrays_fill_aIIV 3 = .ok (.arraylength, 1) := by decide +kernel
theorem d_Arrays_fill_aIIV_4 : decode b_Arrays_fill_aIIV 4 = .ok (.istore_n 3, 1) := by decide +kernel
theorem d_Arrays_fill_aIIV_5 : decode b_Arrays_fill_aIIV 5 = .ok (.iload_n 2, 1) := by decide +kernel
theorem d_Arrays_fill_aIIV_6 : decode b_Arrays_fill_aIIV 6 = .ok (.iload_n 3, 1) := by decide +kernel
theorem d_Arrays_fill_aIIV_7 : decode b_Arrays_fill_aIIV 7 = .ok (.if_icmp .ge 13, 3) := by decide +kernel
theorem d_Arrays_fill_aIIV_10 : decode b_Arrays_fill_aIIV 10 = .ok (.aload_n 0, 1) := by decide +kernel
theorem d_Arrays_fill_aIIV_11 : decode b_Arrays_fill_aIIV 11 = .ok (.iload_n 2, 1) := by decide +kernel
theorem d_Arrays_fill_aIIV_12 : decode b_Arrays_fill_aIIV 12 = .ok (.iload_n 1, 1) := by decide +kernel
theorem d_Arrays_fill_aIIV_13 : decode b_Arrays_fill_aIIV 13 = .ok (.iastore, 1) := by decide +kernel
theorem d_Arrays_fill_aIIV_14 : decode b_Arrays_fill_aIIV 14 = .ok (.iinc 2 1, 3) := by decide +kernel
theorem d_Arrays_fill_aIIV_17 : decode b_Arrays_fill_aIIV 17 = .ok (.goto (-12), 3) := by decide +kernel
theorem d_Arrays_fill_aIIV_20 : decode b_Arrays_fill_aIIV 20 = .ok (.return_, 1) := by decide +kernel
theorem d_Finding_clear_0 : decode b_Finding_clear 0 = .ok (.aload_n 0, 1) := by decide +kernel
theorem d_Finding_clear_1 : decode b_Finding_clear 1 = .ok (.iconst 0, 1) := by decide +kernel
theorem d_Finding_clear_2 : decode b_Finding_clear 2 = .ok (.putfield 15, 3) := by decide +kernel
theorem d_Finding_clear_5 : decode b_Finding_clear 5 = .ok (.aload_n 0, 1) := by decide +kernel
theorem d_Finding_clear_6 : decode b_Finding_clear 6 = .ok (.iconst (-1), 1) := by decide +kernel
theorem d_Finding_clear_7 : decode b_Finding_clear 7 = .ok (.putfield 9, 3) := by decide +kernel
theorem d_Finding_clear_10 : decode b_Finding_clear 10 = .ok (.return_, 1) := by decide +kernel
theorem d_Finding_tell_0 : decode b_Finding_tell 0 = .ok (.aload_n 0, 1) := by decide +kernel
theorem d_Finding_tell_1 : decode b_Finding_tell 1 = .ok (.iload_n 1, 1) := by decide +kernel
theorem d_Finding_tell_2 : decode b_Finding_tell 2 = .ok (.putfield 15, 3) := by decide +kernel
theorem d_Finding_tell_5 : decode b_Finding_tell 5 = .ok (.aload_n 0, 1) := by decide +kernel
theorem d_Finding_tell_6 : decode b_Finding_tell 6 = .ok (.iload_n 2, 1) := by decide +kernel
theorem d_Finding_tell_7 : decode b_Finding_tell 7 = .ok (.putfield 9, 3) := by decide +kernel
theorem d_Finding_tell_10 : decode b_Finding_tell 10 = .ok (.iconst 0, 1) := by decide +kernel
theorem d_Finding_tell_11 : decode b_Finding_tell 11 = .ok (.ireturn, 1) := by decide +kernel
theorem d_Frames_clear_0 : decode b_Frames_clear 0 = .ok (.aload_n 0, 1) := by decide +kernel
theorem d_Frames_clear_1 : decode b_Frames_clear 1 = .ok (.sipush 600, 3) := by decide +kernel
theorem d_Frames_clear_4 : decode b_Frames_clear 4 = .ok (.putfield 25, 3) := by decide +kernel
theorem d_Frames_clear_7 : decode b_Frames_clear 7 = .ok (.aload_n 0, 1) := by decide +kernel
theorem d_Frames_clear_8 : decode b_Frames_clear 8 = .ok (.getfield 15, 3) := by decide +kernel
theorem d_Frames_clear_11 : decode b_Frames_clear 11 = .ok (.iconst 0, 1) := by decide +kernel
theorem d_Frames_clear_12 : decode b_Frames_clear 12 = .ok (.invokestatic 29, 3) := by decide +kernel
theorem d_Frames_clear_15 : decode b_Frames_clear 15 = .ok (.aload_n 0, 1) := by decide +kernel
theorem d_Frames_clear_16 : decode b_Frames_clear 16 = .ok (.getfield 19, 3) := by decide +kernel
theorem d_Frames_clear_19 : decode b_Frames_clear 19 = .ok (.iconst 0, 1) := by decide +kernel
theorem d_Frames_clear_20 : decode b_Frames_clear 20 = .ok (.invokestatic 29, 3) := by decide +kernel
theorem d_Frames_clear_23 : decode b_Frames_clear 23 = .ok (.aload_n 0, 1) := by decide +kernel
theorem d_Frames_clear_24 : decode b_Frames_clear 24 = .ok (.getfield 22, 3) := by decide +kernel
theorem d_Frames_clear_27 : decode b_Frames_clear 27 = .ok (.iconst (-1), 1) := by decide +kernel
theorem d_Frames_clear_28 : decode b_Frames_clear 28 = .ok (.invokestatic 29, 3) := by decide +kernel
theorem d_Frames_clear_31 : decode b_Frames_clear 31 = .ok (.return_, 1) := by decide +kernel
theorem d_Image_copyFrom_0 : decode b_Image_copyFrom 0 = .ok (.aload_n 1, 1) := by decide +kernel
theorem d_Image_copyFrom_1 : decode b_Image_copyFrom 1 = .ok (.getfield 9, 3) := by decide +kernel
theorem d_Image_copyFrom_4 : decode b_Image_copyFrom 4 = .ok (.iconst 0, 1) := by decide +kernel
theorem d_Image_copyFrom_5 : decode b_Image_copyFrom 5 = .ok (.aload_n 0, 1) := by decide +kernel
theorem d_Image_copyFrom_6 : decode b_Image_copyFrom 6 = .ok (.getfield 9, 3) := by decide +kernel
theorem d_Image_copyFrom_9 : decode b_Image_copyFrom 9 = .ok (.iconst 0, 1) := by decide +kernel
theorem d_Image_copyFrom_10 : decode b_Image_copyFrom 10 = .ok (.sipush 600, 3) := by decide +kernel
theorem d_Image_copyFrom_13 : decode b_Image_copyFrom 13 = .ok (.invokestatic 19, 3) := by decide +kernel
theorem d_Image_copyFrom_16 : decode b_Image_copyFrom 16 = .ok (.aload_n 0, 1) := by decide +kernel
theorem d_Image_copyFrom_17 : decode b_Image_copyFrom 17 = .ok (.aload_n 1, 1) := by decide +kernel
theorem d_Image_copyFrom_18 : decode b_Image_copyFrom 18 = .ok (.getfield 15, 3) := by decide +kernel
theorem d_Image_copyFrom_21 : decode b_Image_copyFrom 21 = .ok (.putfield 15, 3) := by decide +kernel
theorem d_Image_copyFrom_24 : decode b_Image_copyFrom 24 = .ok (.return_, 1) := by decide +kernel
theorem d_Image_holds_0 : decode b_Image_holds 0 = .ok (.iload_n 1, 1) := by decide +kernel
theorem d_Image_holds_1 : decode b_Image_holds 1 = .ok (.ifCond .lt 25, 3) := by decide +kernel
theorem d_Image_holds_4 : decode b_Image_holds 4 = .ok (.lload_n 2, 1) := by decide +kernel
theorem d_Image_holds_5 : decode b_Image_holds 5 = .ok (.lconst 0, 1) := by decide +kernel
theorem d_Image_holds_6 : decode b_Image_holds 6 = .ok (.lcmp, 1) := by decide +kernel
theorem d_Image_holds_7 : decode b_Image_holds 7 = .ok (.ifCond .lt 19, 3) := by decide +kernel
theorem d_Image_holds_10 : decode b_Image_holds 10 = .ok (.lload_n 2, 1) := by decide +kernel
theorem d_Image_holds_11 : decode b_Image_holds 11 = .ok (.aload_n 0, 1) := by decide +kernel
theorem d_Image_holds_12 : decode b_Image_holds 12 = .ok (.getfield 15, 3) := by decide +kernel
theorem d_Image_holds_15 : decode b_Image_holds 15 = .ok (.iload_n 1, 1) := by decide +kernel
theorem d_Image_holds_16 : decode b_Image_holds 16 = .ok (.isub, 1) := by decide +kernel
theorem d_Image_holds_17 : decode b_Image_holds 17 = .ok (.i2l, 1) := by decide +kernel
theorem d_Image_holds_18 : decode b_Image_holds 18 = .ok (.lcmp, 1) := by decide +kernel
theorem d_Image_holds_19 : decode b_Image_holds 19 = .ok (.ifCond .gt 7, 3) := by decide +kernel
theorem d_Image_holds_22 : decode b_Image_holds 22 = .ok (.iconst 1, 1) := by decide +kernel
theorem d_Image_holds_23 : decode b_Image_holds 23 = .ok (.goto 4, 3) := by decide +kernel
theorem d_Image_holds_26 : decode b_Image_holds 26 = .ok (.iconst 0, 1) := by decide +kernel
theorem d_Image_holds_27 : decode b_Image_holds 27 = .ok (.ireturn, 1) := by decide +kernel
theorem d_Layout_begin_0 : decode b_Layout_begin 0 = .ok (.aload_n 0, 1) := by decide +kernel
theorem d_Layout_begin_1 : decode b_Layout_begin 1 = .ok (.getfield 12, 3) := by decide +kernel
theorem d_Layout_begin_4 : decode b_Layout_begin 4 = .ok (.aload_n 1, 1) := by decide +kernel
theorem d_Layout_begin_5 : decode b_Layout_begin 5 = .ok (.invokevirtual 47, 3) := by decide +kernel
theorem d_Layout_begin_8 : decode b_Layout_begin 8 = .ok (.aload_n 0, 1) := by decide +kernel
theorem d_Layout_begin_9 : decode b_Layout_begin 9 = .ok (.getfield 21, 3) := by decide +kernel
theorem d_Layout_begin_12 : decode b_Layout_begin 12 = .ok (.invokevirtual 51, 3) := by decide +kernel
theorem d_Layout_begin_15 : decode b_Layout_begin 15 = .ok (.aload_n 0, 1) := by decide +kernel
theorem d_Layout_begin_16 : decode b_Layout_begin 16 = .ok (.getfield 25, 3) := by decide +kernel
theorem d_Layout_begin_19 : decode b_Layout_begin 19 = .ok (.iconst 0, 1) := by decide +kernel
theorem d_Layout_begin_20 : decode b_Layout_begin 20 = .ok (.invokestatic 54, 3) := by decide +kernel
theorem d_Layout_begin_23 : decode b_Layout_begin 23 = .ok (.aload_n 0, 1) := by decide +kernel
theorem d_Layout_begin_24 : decode b_Layout_begin 24 = .ok (.getfield 44, 3) := by decide +kernel
theorem d_Layout_begin_27 : decode b_Layout_begin 27 = .ok (.iconst 0, 1) := by decide +kernel
theorem d_Layout_begin_28 : decode b_Layout_begin 28 = .ok (.invokestatic 54, 3) := by decide +kernel
theorem d_Layout_begin_31 : decode b_Layout_begin 31 = .ok (.aload_n 0, 1) := by decide +kernel
theorem d_Layout_begin_32 : decode b_Layout_begin 32 = .ok (.iconst 0, 1) := by decide +kernel
theorem d_Layout_begin_33 : decode b_Layout_begin 33 = .ok (.putfield 60, 3) := by decide +kernel
theorem d_Layout_begin_36 : decode b_Layout_begin 36 = .ok (.aload_n 0, 1) := by decide +kernel
theorem d_Layout_begin_37 : decode b_Layout_begin 37 = .ok (.iconst 0, 1) := by decide +kernel
theorem d_Layout_begin_38 : decode b_Layout_begin 38 = .ok (.putfield 64, 3) := by decide +kernel
theorem d_Layout_begin_41 : decode b_Layout_begin 41 = .ok (.aload_n 0, 1) := by decide +kernel
theorem d_Layout_begin_42 : decode b_Layout_begin 42 = .ok (.iconst 0, 1) := by decide +kernel
theorem d_Layout_begin_43 : decode b_Layout_begin 43 = .ok (.putfield 67, 3) := by decide +kernel
theorem d_Layout_begin_46 : decode b_Layout_begin 46 = .ok (.aload_n 0, 1) := by decide +kernel
theorem d_Layout_begin_47 : decode b_Layout_begin 47 = .ok (.iconst 0, 1) := by decide +kernel
theorem d_Layout_begin_48 : decode b_Layout_begin 48 = .ok (.putfield 70, 3) := by decide +kernel
theorem d_Layout_begin_51 : decode b_Layout_begin 51 = .ok (.return_, 1) := by decide +kernel
theorem d_Reader_passes_0 : decode b_Reader_passes 0 = .ok (.aload_n 0, 1) := by decide +kernel
theorem d_Reader_passes_1 : decode b_Reader_passes 1 = .ok (.getfield 21, 3) := by decide +kernel
theorem d_Reader_passes_4 : decode b_Reader_passes 4 = .ok (.aload_n 0, 1) := by decide +kernel
theorem d_Reader_passes_5 : decode b_Reader_passes 5 = .ok (.getfield 26, 3) := by decide +kernel
theorem d_Reader_passes_8 : decode b_Reader_passes 8 = .ok (.lload_n 1, 1) := by decide +kernel
theorem d_Reader_passes_9 : decode b_Reader_passes 9 = .ok (.invokevirtual 59, 3) := by decide +kernel
theorem d_Reader_passes_12 : decode b_Reader_passes 12 = .ok (.ifCond .ne 16, 3) := by decide +kernel
theorem d_Reader_passes_15 : decode b_Reader_passes 15 = .ok (.aload_n 0, 1) := by decide +kernel
theorem d_Reader_passes_16 : decode b_Reader_passes 16 = .ok (.getfield 22, 3) := by decide +kernel
theorem d_Reader_passes_19 : decode b_Reader_passes 19 = .ok (.iconst 1, 1) := by decide +kernel
theorem d_Reader_passes_20 : decode b_Reader_passes 20 = .ok (.aload_n 0, 1) := by decide +kernel
theorem d_Reader_passes_21 : decode b_Reader_passes 21 = .ok (.getfield 26, 3) := by decide +kernel
theorem d_Reader_passes_24 : decode b_Reader_passes 24 = .ok (.invokevirtual 53, 3) := by decide +kernel
theorem d_Reader_passes_27 : decode b_Reader_passes 27 = .ok (.ireturn, 1) := by decide +kernel
theorem d_Reader_passes_28 : decode b_Reader_passes 28 = .ok (.aload_n 0, 1) := by decide +kernel
theorem d_Reader_passes_29 : decode b_Reader_passes 29 = .ok (.dup, 1) := by decide +kernel
theorem d_Reader_passes_30 : decode b_Reader_passes 30 = .ok (.getfield 26, 3) := by decide +kernel
theorem d_Reader_passes_33 : decode b_Reader_passes 33 = .ok (.lload_n 1, 1) := by decide +kernel
theorem d_Reader_passes_34 : decode b_Reader_passes 34 = .ok (.l2i, 1) := by decide +kernel
theorem d_Reader_passes_35 : decode b_Reader_passes 35 = .ok (.iadd, 1) := by decide +kernel
theorem d_Reader_passes_36 : decode b_Reader_passes 36 = .ok (.putfield 26, 3) := by decide +kernel
theorem d_Reader_passes_39 : decode b_Reader_passes 39 = .ok (.iconst 1, 1) := by decide +kernel
theorem d_Reader_passes_40 : decode b_Reader_passes 40 = .ok (.ireturn, 1) := by decide +kernel
theorem d_Reader_readHead_0 : decode b_Reader_readHead 0 = .ok (.aload_n 0, 1) := by decide +kernel
theorem d_Reader_readHead_1 : decode b_Reader_readHead 1 = .ok (.ldc2_w 67, 3) := by decide +kernel
theorem d_Reader_readHead_4 : decode b_Reader_readHead 4 = .ok (.invokevirtual 63, 3) := by decide +kernel
theorem d_Reader_readHead_7 : decode b_Reader_readHead 7 = .ok (.ifCond .ne 5, 3) := by decide +kernel
theorem d_Reader_readHead_10 : decode b_Reader_readHead 10 = .ok (.iconst 0, 1) := by decide +kernel
theorem d_Reader_readHead_11 : decode b_Reader_readHead 11 = .ok (.ireturn, 1) := by decide +kernel
theorem d_Reader_reads_0 : decode b_Reader_reads 0 = .ok (.aload_n 0, 1) := by decide +kernel
theorem d_Reader_reads_1 : decode b_Reader_reads 1 = .ok (.aload_n 1, 1) := by decide +kernel
theorem d_Reader_reads_2 : decode b_Reader_reads 2 = .ok (.putfield 9, 3) := by decide +kernel
theorem d_Reader_reads_5 : decode b_Reader_reads 5 = .ok (.aload_n 0, 1) := by decide +kernel
theorem d_Reader_reads_6 : decode b_Reader_reads 6 = .ok (.aload_n 1, 1) := by decide +kernel
theorem d_Reader_reads_7 : decode b_Reader_reads 7 = .ok (.getfield 15, 3) := by decide +kernel
theorem d_Reader_reads_10 : decode b_Reader_reads 10 = .ok (.putfield 21, 3) := by decide +kernel
theorem d_Reader_reads_13 : decode b_Reader_reads 13 = .ok (.aload_n 0, 1) := by decide +kernel
theorem d_Reader_reads_14 : decode b_Reader_reads 14 = .ok (.aload_n 2, 1) := by decide +kernel
theorem d_Reader_reads_15 : decode b_Reader_reads 15 = .ok (.putfield 22, 3) := by decide +kernel
theorem d_Reader_reads_18 : decode b_Reader_reads 18 = .ok (.aload_n 0, 1) := by decide +kernel
theorem d_Reader_reads_19 : decode b_Reader_reads 19 = .ok (.iconst 0, 1) := by decide +kernel
theorem d_Reader_reads_20 : decode b_Reader_reads 20 = .ok (.putfield 26, 3) := by decide +kernel
theorem d_Reader_reads_23 : decode b_Reader_reads 23 = .ok (.aload_n 0, 1) := by decide +kernel
theorem d_Reader_reads_24 : decode b_Reader_reads 24 = .ok (.invokevirtual 30, 3) := by decide +kernel
theorem d_Reader_reads_27 : decode b_Reader_reads 27 = .ok (.ifCond .eq 33, 3) := by decide +kernel
theorem d_Reader_reads_60 : decode b_Reader_reads 60 = .ok (.iconst 0, 1) := by decide +kernel
theorem d_Reader_reads_61 : decode b_Reader_reads 61 = .ok (.ireturn, 1) := by decide +kernel
theorem d_Ship_audit_0 : decode b_Ship_audit 0 = .ok (.aload_n 0, 1) := by decide +kernel
theorem d_Ship_audit_1 : decode b_Ship_audit 1 = .ok (.getfield 54, 3) := by decide +kernel
theorem d_Ship_audit_4 : decode b_Ship_audit 4 = .ok (.aload_n 0, 1) := by decide +kernel
theorem d_Ship_audit_5 : decode b_Ship_audit 5 = .ok (.getfield 10, 3) := by decide +kernel
theorem d_Ship_audit_8 : decode b_Ship_audit 8 = .ok (.invokevirtual 107, 3) := by decide +kernel
theorem d_Ship_audit_11 : decode b_Ship_audit 11 = .ok (.aload_n 0, 1) := by decide +kernel
theorem d_Ship_audit_12 : decode b_Ship_audit 12 = .ok (.getfield 19, 3) := by decide +kernel
theorem d_Ship_audit_15 : decode b_Ship_audit 15 = .ok (.invokevirtual 111, 3) := by decide +kernel
theorem d_Ship_audit_18 : decode b_Ship_audit 18 = .ok (.aload_n 0, 1) := by decide +kernel
theorem d_Ship_audit_19 : decode b_Ship_audit 19 = .ok (.getfield 33, 3) := by decide +kernel
theorem d_Ship_audit_22 : decode b_Ship_audit 22 = .ok (.aload_n 0, 1) := by decide +kernel
theorem d_Ship_audit_23 : decode b_Ship_audit 23 = .ok (.getfield 54, 3) := by decide +kernel
theorem d_Ship_audit_26 : decode b_Ship_audit 26 = .ok (.aload_n 0, 1) := by decide +kernel
theorem d_Ship_audit_27 : decode b_Ship_audit 27 = .ok (.getfield 19, 3) := by decide +kernel
theorem d_Ship_audit_30 : decode b_Ship_audit 30 = .ok (.invokevirtual 114, 3) := by decide +kernel
theorem d_Ship_audit_33 : decode b_Ship_audit 33 = .ok (.ifCond .eq 80, 3) := by decide +kernel
theorem d_Ship_audit_113 : decode b_Ship_audit 113 = .ok (.aload_n 0, 1) := by decide +kernel
theorem d_Ship_audit_114 : decode b_Ship_audit 114 = .ok (.getfield 19, 3) := by decide +kernel
theorem d_Ship_audit_117 : decode b_Ship_audit 117 = .ok (.getfield 131, 3) := by decide +kernel
theorem d_Ship_audit_120 : decode b_Ship_audit 120 = .ok (.ireturn, 1) := by decide +kernel
