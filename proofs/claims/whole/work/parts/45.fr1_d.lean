theorem d_Frames_deepAt_0 : decode b_Frames_deepAt 0 = .ok (.iload_n 1, 1) := by decide +kernel
theorem d_Frames_deepAt_1 : decode b_Frames_deepAt 1 = .ok (.invokestatic 35, 3) := by decide +kernel
theorem d_Frames_deepAt_4 : decode b_Frames_deepAt 4 = .ok (.ifCond .eq 12, 3) := by decide +kernel
theorem d_Frames_deepAt_7 : decode b_Frames_deepAt 7 = .ok (.aload_n 0, 1) := by decide +kernel
theorem d_Frames_deepAt_8 : decode b_Frames_deepAt 8 = .ok (.getfield 22, 3) := by decide +kernel
theorem d_Frames_deepAt_11 : decode b_Frames_deepAt 11 = .ok (.iload_n 1, 1) := by decide +kernel
theorem d_Frames_deepAt_12 : decode b_Frames_deepAt 12 = .ok (.baload, 1) := by decide +kernel
theorem d_Frames_deepAt_13 : decode b_Frames_deepAt 13 = .ok (.goto 4, 3) := by decide +kernel
theorem d_Frames_deepAt_16 : decode b_Frames_deepAt 16 = .ok (.iconst (-1), 1) := by decide +kernel
theorem d_Frames_deepAt_17 : decode b_Frames_deepAt 17 = .ok (.ireturn, 1) := by decide +kernel
theorem d_Frames_deepest_0 : decode b_Frames_deepest 0 = .ok (.iconst 0, 1) := by decide +kernel
theorem d_Frames_deepest_1 : decode b_Frames_deepest 1 = .ok (.istore_n 1, 1) := by decide +kernel
theorem d_Frames_deepest_2 : decode b_Frames_deepest 2 = .ok (.iconst 0, 1) := by decide +kernel
theorem d_Frames_deepest_3 : decode b_Frames_deepest 3 = .ok (.istore_n 2, 1) := by decide +kernel
theorem d_Frames_deepest_4 : decode b_Frames_deepest 4 = .ok (.iload_n 2, 1) := by decide +kernel
theorem d_Frames_deepest_5 : decode b_Frames_deepest 5 = .ok (.sipush 600, 3) := by decide +kernel
theorem d_Frames_deepest_8 : decode b_Frames_deepest 8 = .ok (.if_icmp .ge 20, 3) := by decide +kernel
theorem d_Frames_deepest_11 : decode b_Frames_deepest 11 = .ok (.iload_n 1, 1) := by decide +kernel
theorem d_Frames_deepest_12 : decode b_Frames_deepest 12 = .ok (.aload_n 0, 1) := by decide +kernel
theorem d_Frames_deepest_13 : decode b_Frames_deepest 13 = .ok (.getfield 22, 3) := by decide +kernel
theorem d_Frames_deepest_16 : decode b_Frames_deepest 16 = .ok (.iload_n 2, 1) := by decide +kernel
theorem d_Frames_deepest_17 : decode b_Frames_deepest 17 = .ok (.baload, 1) := by decide +kernel
theorem d_Frames_deepest_18 : decode b_Frames_deepest 18 = .ok (.invokestatic 47, 3) := by decide +kernel
theorem d_Frames_deepest_21 : decode b_Frames_deepest 21 = .ok (.istore_n 1, 1) := by decide +kernel
theorem d_Frames_deepest_22 : decode b_Frames_deepest 22 = .ok (.iinc 2 1, 3) := by decide +kernel
theorem d_Frames_deepest_25 : decode b_Frames_deepest 25 = .ok (.goto (-21), 3) := by decide +kernel
theorem d_Frames_deepest_28 : decode b_Frames_deepest 28 = .ok (.iload_n 1, 1) := by decide +kernel
theorem d_Frames_deepest_29 : decode b_Frames_deepest 29 = .ok (.ireturn, 1) := by decide +kernel
theorem d_Frames_firstWaiting_0 : decode b_Frames_firstWaiting 0 = .ok (.aload_n 0, 1) := by decide +kernel
theorem d_Frames_firstWaiting_1 : decode b_Frames_firstWaiting 1 = .ok (.getfield 25, 3) := by decide +kernel
theorem d_Frames_firstWaiting_4 : decode b_Frames_firstWaiting 4 = .ok (.istore_n 1, 1) := by decide +kernel
theorem d_Frames_firstWaiting_5 : decode b_Frames_firstWaiting 5 = .ok (.iload_n 1, 1) := by decide +kernel
theorem d_Frames_firstWaiting_6 : decode b_Frames_firstWaiting 6 = .ok (.sipush 600, 3) := by decide +kernel
theorem d_Frames_firstWaiting_9 : decode b_Frames_firstWaiting 9 = .ok (.if_icmp .ge 26, 3) := by decide +kernel
theorem d_Frames_firstWaiting_12 : decode b_Frames_firstWaiting 12 = .ok (.aload_n 0, 1) := by decide +kernel
theorem d_Frames_firstWaiting_13 : decode b_Frames_firstWaiting 13 = .ok (.getfield 19, 3) := by decide +kernel
theorem d_Frames_firstWaiting_16 : decode b_Frames_firstWaiting 16 = .ok (.iload_n 1, 1) := by decide +kernel
theorem d_Frames_firstWaiting_17 : decode b_Frames_firstWaiting 17 = .ok (.baload, 1) := by decide +kernel
theorem d_Frames_firstWaiting_18 : decode b_Frames_firstWaiting 18 = .ok (.iconst 1, 1) := by decide +kernel
theorem d_Frames_firstWaiting_19 : decode b_Frames_firstWaiting 19 = .ok (.if_icmp .ne 10, 3) := by decide +kernel
theorem d_Frames_firstWaiting_22 : decode b_Frames_firstWaiting 22 = .ok (.aload_n 0, 1) := by decide +kernel
theorem d_Frames_firstWaiting_23 : decode b_Frames_firstWaiting 23 = .ok (.iload_n 1, 1) := by decide +kernel
theorem d_Frames_firstWaiting_24 : decode b_Frames_firstWaiting 24 = .ok (.putfield 25, 3) := by decide +kernel
theorem d_Frames_firstWaiting_27 : decode b_Frames_firstWaiting 27 = .ok (.iload_n 1, 1) := by decide +kernel
theorem d_Frames_firstWaiting_28 : decode b_Frames_firstWaiting 28 = .ok (.ireturn, 1) := by decide +kernel
theorem d_Frames_firstWaiting_29 : decode b_Frames_firstWaiting 29 = .ok (.iinc 1 1, 3) := by decide +kernel
theorem d_Frames_firstWaiting_32 : decode b_Frames_firstWaiting 32 = .ok (.goto (-27), 3) := by decide +kernel
theorem d_Frames_firstWaiting_35 : decode b_Frames_firstWaiting 35 = .ok (.aload_n 0, 1) := by decide +kernel
theorem d_Frames_firstWaiting_36 : decode b_Frames_firstWaiting 36 = .ok (.sipush 600, 3) := by decide +kernel
theorem d_Frames_firstWaiting_39 : decode b_Frames_firstWaiting 39 = .ok (.putfield 25, 3) := by decide +kernel
theorem d_Frames_firstWaiting_42 : decode b_Frames_firstWaiting 42 = .ok (.iconst (-1), 1) := by decide +kernel
theorem d_Frames_firstWaiting_43 : decode b_Frames_firstWaiting 43 = .ok (.ireturn, 1) := by decide +kernel
theorem d_Frames_howMany_0 : decode b_Frames_howMany 0 = .ok (.iconst 0, 1) := by decide +kernel
theorem d_Frames_howMany_1 : decode b_Frames_howMany 1 = .ok (.istore_n 1, 1) := by decide +kernel
theorem d_Frames_howMany_2 : decode b_Frames_howMany 2 = .ok (.iconst 0, 1) := by decide +kernel
theorem d_Frames_howMany_3 : decode b_Frames_howMany 3 = .ok (.istore_n 2, 1) := by decide +kernel
theorem d_Frames_howMany_4 : decode b_Frames_howMany 4 = .ok (.iload_n 2, 1) := by decide +kernel
theorem d_Frames_howMany_5 : decode b_Frames_howMany 5 = .ok (.sipush 600, 3) := by decide +kernel
theorem d_Frames_howMany_8 : decode b_Frames_howMany 8 = .ok (.if_icmp .ge 27, 3) := by decide +kernel
theorem d_Frames_howMany_11 : decode b_Frames_howMany 11 = .ok (.iload_n 1, 1) := by decide +kernel
theorem d_Frames_howMany_12 : decode b_Frames_howMany 12 = .ok (.aload_n 0, 1) := by decide +kernel
theorem d_Frames_howMany_13 : decode b_Frames_howMany 13 = .ok (.getfield 22, 3) := by decide +kernel
theorem d_Frames_howMany_16 : decode b_Frames_howMany 16 = .ok (.iload_n 2, 1) := by decide +kernel
theorem d_Frames_howMany_17 : decode b_Frames_howMany 17 = .ok (.baload, 1) := by decide +kernel
theorem d_Frames_howMany_18 : decode b_Frames_howMany 18 = .ok (.iconst (-1), 1) := by decide +kernel
theorem d_Frames_howMany_19 : decode b_Frames_howMany 19 = .ok (.if_icmp .ne 7, 3) := by decide +kernel
theorem d_Frames_howMany_22 : decode b_Frames_howMany 22 = .ok (.iconst 0, 1) := by decide +kernel
theorem d_Frames_howMany_23 : decode b_Frames_howMany 23 = .ok (.goto 4, 3) := by decide +kernel
theorem d_Frames_howMany_26 : decode b_Frames_howMany 26 = .ok (.iconst 1, 1) := by decide +kernel
theorem d_Frames_howMany_27 : decode b_Frames_howMany 27 = .ok (.iadd, 1) := by decide +kernel
theorem d_Frames_howMany_28 : decode b_Frames_howMany 28 = .ok (.istore_n 1, 1) := by decide +kernel
theorem d_Frames_howMany_29 : decode b_Frames_howMany 29 = .ok (.iinc 2 1, 3) := by decide +kernel
theorem d_Frames_howMany_32 : decode b_Frames_howMany 32 = .ok (.goto (-28), 3) := by decide +kernel
theorem d_Frames_howMany_35 : decode b_Frames_howMany 35 = .ok (.iload_n 1, 1) := by decide +kernel
theorem d_Frames_howMany_36 : decode b_Frames_howMany 36 = .ok (.ireturn, 1) := by decide +kernel
theorem d_Frames_isBegin_0 : decode b_Frames_isBegin 0 = .ok (.iload_n 1, 1) := by decide +kernel
theorem d_Frames_isBegin_1 : decode b_Frames_isBegin 1 = .ok (.invokestatic 35, 3) := by decide +kernel
theorem d_Frames_isBegin_4 : decode b_Frames_isBegin 4 = .ok (.ifCond .eq 17, 3) := by decide +kernel
theorem d_Frames_isBegin_7 : decode b_Frames_isBegin 7 = .ok (.aload_n 0, 1) := by decide +kernel
theorem d_Frames_isBegin_8 : decode b_Frames_isBegin 8 = .ok (.getfield 15, 3) := by decide +kernel
theorem d_Frames_isBegin_11 : decode b_Frames_isBegin 11 = .ok (.iload_n 1, 1) := by decide +kernel
theorem d_Frames_isBegin_12 : decode b_Frames_isBegin 12 = .ok (.baload, 1) := by decide +kernel
theorem d_Frames_isBegin_13 : decode b_Frames_isBegin 13 = .ok (.iconst 1, 1) := by decide +kernel
theorem d_Frames_isBegin_14 : decode b_Frames_isBegin 14 = .ok (.if_icmp .ne 7, 3) := by decide +kernel
theorem d_Frames_isBegin_17 : decode b_Frames_isBegin 17 = .ok (.iconst 1, 1) := by decide +kernel
theorem d_Frames_isBegin_18 : decode b_Frames_isBegin 18 = .ok (.goto 4, 3) := by decide +kernel
theorem d_Frames_isBegin_21 : decode b_Frames_isBegin 21 = .ok (.iconst 0, 1) := by decide +kernel
theorem d_Frames_isBegin_22 : decode b_Frames_isBegin 22 = .ok (.ireturn, 1) := by decide +kernel
theorem d_Frames_isThere_0 : decode b_Frames_isThere 0 = .ok (.iload_n 0, 1) := by decide +kernel
theorem d_Frames_isThere_1 : decode b_Frames_isThere 1 = .ok (.ifCond .lt 14, 3) := by decide +kernel
theorem d_Frames_isThere_4 : decode b_Frames_isThere 4 = .ok (.iload_n 0, 1) := by decide +kernel
theorem d_Frames_isThere_5 : decode b_Frames_isThere 5 = .ok (.sipush 600, 3) := by decide +kernel
theorem d_Frames_isThere_8 : decode b_Frames_isThere 8 = .ok (.if_icmp .ge 7, 3) := by decide +kernel
theorem d_Frames_isThere_11 : decode b_Frames_isThere 11 = .ok (.iconst 1, 1) := by decide +kernel
theorem d_Frames_isThere_12 : decode b_Frames_isThere 12 = .ok (.goto 4, 3) := by decide +kernel
theorem d_Frames_isThere_15 : decode b_Frames_isThere 15 = .ok (.iconst 0, 1) := by decide +kernel
theorem d_Frames_isThere_16 : decode b_Frames_isThere 16 = .ok (.ireturn, 1) := by decide +kernel
theorem d_Frames_setBegin_0 : decode b_Frames_setBegin 0 = .ok (.iload_n 1, 1) := by decide +kernel
theorem d_Frames_setBegin_1 : decode b_Frames_setBegin 1 = .ok (.invokestatic 35, 3) := by decide +kernel
theorem d_Frames_setBegin_4 : decode b_Frames_setBegin 4 = .ok (.ifCond .eq 10, 3) := by decide +kernel
theorem d_Frames_setBegin_7 : decode b_Frames_setBegin 7 = .ok (.aload_n 0, 1) := by decide +kernel
theorem d_Frames_setBegin_8 : decode b_Frames_setBegin 8 = .ok (.getfield 15, 3) := by decide +kernel
theorem d_Frames_setBegin_11 : decode b_Frames_setBegin 11 = .ok (.iload_n 1, 1) := by decide +kernel
theorem d_Frames_setBegin_12 : decode b_Frames_setBegin 12 = .ok (.iconst 1, 1) := by decide +kernel
theorem d_Frames_setBegin_13 : decode b_Frames_setBegin 13 = .ok (.bastore, 1) := by decide +kernel
theorem d_Frames_setBegin_14 : decode b_Frames_setBegin 14 = .ok (.return_, 1) := by decide +kernel
