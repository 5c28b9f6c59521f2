theorem d_Latin_canEncode_0 : decode b_Latin_canEncode 0 = .ok (.iload_n 0, 1) := by decide +kernel
theorem d_Latin_canEncode_1 : decode b_Latin_canEncode 1 = .ok (.ifCond .lt 14, 3) := by decide +kernel
theorem d_Latin_canEncode_4 : decode b_Latin_canEncode 4 = .ok (.iload_n 0, 1) := by decide +kernel
theorem d_Latin_canEncode_5 : decode b_Latin_canEncode 5 = .ok (.sipush 255, 3) := by decide +kernel
theorem d_Latin_canEncode_8 : decode b_Latin_canEncode 8 = .ok (.if_icmp .gt 7, 3) := by decide +kernel
theorem d_Latin_canEncode_11 : decode b_Latin_canEncode 11 = .ok (.iconst 1, 1) := by decide +kernel
theorem d_Latin_canEncode_12 : decode b_Latin_canEncode 12 = .ok (.goto 4, 3) := by decide +kernel
theorem d_Latin_canEncode_15 : decode b_Latin_canEncode 15 = .ok (.iconst 0, 1) := by decide +kernel
theorem d_Latin_canEncode_16 : decode b_Latin_canEncode 16 = .ok (.ireturn, 1) := by decide +kernel
theorem d_Latin_indexOf_0 : decode b_Latin_indexOf 0 = .ok (.iload_n 1, 1) := by decide +kernel
theorem d_Latin_indexOf_1 : decode b_Latin_indexOf 1 = .ok (.invokestatic 88, 3) := by decide +kernel
theorem d_Latin_indexOf_4 : decode b_Latin_indexOf 4 = .ok (.ifCond .ne 5, 3) := by decide +kernel
theorem d_Latin_indexOf_7 : decode b_Latin_indexOf 7 = .ok (.iconst (-1), 1) := by decide +kernel
theorem d_Latin_indexOf_8 : decode b_Latin_indexOf 8 = .ok (.ireturn, 1) := by decide +kernel
theorem d_Latin_indexOf_9 : decode b_Latin_indexOf 9 = .ok (.iload_n 2, 1) := by decide +kernel
theorem d_Latin_indexOf_10 : decode b_Latin_indexOf 10 = .ok (.iconst 0, 1) := by decide +kernel
theorem d_Latin_indexOf_11 : decode b_Latin_indexOf 11 = .ok (.invokestatic 92, 3) := by decide +kernel
theorem d_Latin_indexOf_14 : decode b_Latin_indexOf 14 = .ok (.istore_n 2, 1) := by decide +kernel
theorem d_Latin_indexOf_15 : decode b_Latin_indexOf 15 = .ok (.iload_n 3, 1) := by decide +kernel
theorem d_Latin_indexOf_16 : decode b_Latin_indexOf 16 = .ok (.aload_n 0, 1) := by decide +kernel
theorem d_Latin_indexOf_17 : decode b_Latin_indexOf 17 = .ok (.arraylength, 1) := by decide +kernel
theorem d_Latin_indexOf_18 : decode b_Latin_indexOf 18 = .ok (.invokestatic 38, 3) := by decide +kernel
theorem d_Latin_indexOf_21 : decode b_Latin_indexOf 21 = .ok (.istore_n 3, 1) := by decide +kernel
theorem d_Latin_indexOf_22 : decode b_Latin_indexOf 22 = .ok (.iload_n 2, 1) := by decide +kernel
theorem d_Latin_indexOf_23 : decode b_Latin_indexOf 23 = .ok (.iload_n 3, 1) := by decide +kernel
theorem d_Latin_indexOf_24 : decode b_Latin_indexOf 24 = .ok (.if_icmp .lt 5, 3) := by decide +kernel
theorem d_Latin_indexOf_27 : decode b_Latin_indexOf 27 = .ok (.iconst (-1), 1) := by decide +kernel
theorem d_Latin_indexOf_28 : decode b_Latin_indexOf 28 = .ok (.ireturn, 1) := by decide +kernel
theorem d_Latin_indexOf_29 : decode b_Latin_indexOf 29 = .ok (.aload_n 0, 1) := by decide +kernel
theorem d_Latin_indexOf_30 : decode b_Latin_indexOf 30 = .ok (.iload_n 1, 1) := by decide +kernel
theorem d_Latin_indexOf_31 : decode b_Latin_indexOf 31 = .ok (.iload_n 2, 1) := by decide +kernel
theorem d_Latin_indexOf_32 : decode b_Latin_indexOf 32 = .ok (.iload_n 3, 1) := by decide +kernel
theorem d_Latin_indexOf_33 : decode b_Latin_indexOf 33 = .ok (.invokestatic 95, 3) := by decide +kernel
theorem d_Latin_indexOf_36 : decode b_Latin_indexOf 36 = .ok (.ireturn, 1) := by decide +kernel
theorem d_Latin_indexOfChar_0 : decode b_Latin_indexOfChar 0 = .ok (.iload_n 1, 1) := by decide +kernel
theorem d_Latin_indexOfChar_1 : decode b_Latin_indexOfChar 1 = .ok (.i2b, 1) := by decide +kernel
theorem d_Latin_indexOfChar_2 : decode b_Latin_indexOfChar 2 = .ok (.istore 4, 2) := by decide +kernel
theorem d_Latin_indexOfChar_4 : decode b_Latin_indexOfChar 4 = .ok (.iload_n 2, 1) := by decide +kernel
theorem d_Latin_indexOfChar_5 : decode b_Latin_indexOfChar 5 = .ok (.istore 5, 2) := by decide +kernel
theorem d_Latin_indexOfChar_7 : decode b_Latin_indexOfChar 7 = .ok (.iload 5, 2) := by decide +kernel
theorem d_Latin_indexOfChar_9 : decode b_Latin_indexOfChar 9 = .ok (.iload_n 3, 1) := by decide +kernel
theorem d_Latin_indexOfChar_10 : decode b_Latin_indexOfChar 10 = .ok (.if_icmp .ge 21, 3) := by decide +kernel
theorem d_Latin_indexOfChar_13 : decode b_Latin_indexOfChar 13 = .ok (.aload_n 0, 1) := by decide +kernel
theorem d_Latin_indexOfChar_14 : decode b_Latin_indexOfChar 14 = .ok (.iload 5, 2) := by decide +kernel
theorem d_Latin_indexOfChar_16 : decode b_Latin_indexOfChar 16 = .ok (.baload, 1) := by decide +kernel
theorem d_Latin_indexOfChar_17 : decode b_Latin_indexOfChar 17 = .ok (.iload 4, 2) := by decide +kernel
theorem d_Latin_indexOfChar_19 : decode b_Latin_indexOfChar 19 = .ok (.if_icmp .ne 6, 3) := by decide +kernel
theorem d_Latin_indexOfChar_22 : decode b_Latin_indexOfChar 22 = .ok (.iload 5, 2) := by decide +kernel
theorem d_Latin_indexOfChar_24 : decode b_Latin_indexOfChar 24 = .ok (.ireturn, 1) := by decide +kernel
theorem d_Latin_indexOfChar_25 : decode b_Latin_indexOfChar 25 = .ok (.iinc 5 1, 3) := by decide +kernel
theorem d_Latin_indexOfChar_28 : decode b_Latin_indexOfChar 28 = .ok (.goto (-21), 3) := by decide +kernel
theorem d_Latin_indexOfChar_31 : decode b_Latin_indexOfChar 31 = .ok (.iconst (-1), 1) := by decide +kernel
theorem d_Latin_indexOfChar_32 : decode b_Latin_indexOfChar 32 = .ok (.ireturn, 1) := by decide +kernel
theorem d_Machine_exchange_0 : decode b_Machine_exchange 0 = .ok (.aload_n 1, 1) := by decide +kernel
theorem d_Machine_exchange_1 : decode b_Machine_exchange 1 = .ok (.bipush 58, 2) := by decide +kernel
theorem d_Machine_exchange_3 : decode b_Machine_exchange 3 = .ok (.invokevirtual 183, 3) := by decide +kernel
theorem d_Machine_exchange_6 : decode b_Machine_exchange 6 = .ok (.istore_n 2, 1) := by decide +kernel
theorem d_Machine_exchange_7 : decode b_Machine_exchange 7 = .ok (.iconst 0, 1) := by decide +kernel
theorem d_Machine_exchange_8 : decode b_Machine_exchange 8 = .ok (.istore_n 3, 1) := by decide +kernel
theorem d_Machine_exchange_9 : decode b_Machine_exchange 9 = .ok (.iconst 0, 1) := by decide +kernel
theorem d_Machine_exchange_10 : decode b_Machine_exchange 10 = .ok (.istore 4, 2) := by decide +kernel
theorem d_Machine_exchange_12 : decode b_Machine_exchange 12 = .ok (.iload 4, 2) := by decide +kernel
theorem d_Machine_exchange_14 : decode b_Machine_exchange 14 = .ok (.aload_n 1, 1) := by decide +kernel
theorem d_Machine_exchange_15 : decode b_Machine_exchange 15 = .ok (.invokevirtual 188, 3) := by decide +kernel
theorem d_Machine_exchange_18 : decode b_Machine_exchange 18 = .ok (.if_icmp .ge 53, 3) := by decide +kernel
theorem d_Machine_exchange_21 : decode b_Machine_exchange 21 = .ok (.iload_n 3, 1) := by decide +kernel
theorem d_Machine_exchange_22 : decode b_Machine_exchange 22 = .ok (.ifCond .ne 49, 3) := by decide +kernel
theorem d_Machine_exchange_25 : decode b_Machine_exchange 25 = .ok (.aload_n 1, 1) := by decide +kernel
theorem d_Machine_exchange_26 : decode b_Machine_exchange 26 = .ok (.iload 4, 2) := by decide +kernel
theorem d_Machine_exchange_28 : decode b_Machine_exchange 28 = .ok (.invokevirtual 192, 3) := by decide +kernel
theorem d_Machine_exchange_31 : decode b_Machine_exchange 31 = .ok (.invokestatic 91, 3) := by decide +kernel
theorem d_Machine_exchange_34 : decode b_Machine_exchange 34 = .ok (.istore 5, 2) := by decide +kernel
theorem d_Machine_exchange_36 : decode b_Machine_exchange 36 = .ok (.iload 4, 2) := by decide +kernel
theorem d_Machine_exchange_38 : decode b_Machine_exchange 38 = .ok (.iload_n 2, 1) := by decide +kernel
theorem d_Machine_exchange_39 : decode b_Machine_exchange 39 = .ok (.if_icmp .ge 13, 3) := by decide +kernel
theorem d_Machine_exchange_42 : decode b_Machine_exchange 42 = .ok (.aload_n 0, 1) := by decide +kernel
theorem d_Machine_exchange_43 : decode b_Machine_exchange 43 = .ok (.iload 5, 2) := by decide +kernel
theorem d_Machine_exchange_45 : decode b_Machine_exchange 45 = .ok (.invokevirtual 162, 3) := by decide +kernel
theorem d_Machine_exchange_48 : decode b_Machine_exchange 48 = .ok (.istore_n 3, 1) := by decide +kernel
theorem d_Machine_exchange_49 : decode b_Machine_exchange 49 = .ok (.goto 16, 3) := by decide +kernel
theorem d_Machine_exchange_52 : decode b_Machine_exchange 52 = .ok (.iload 4, 2) := by decide +kernel
theorem d_Machine_exchange_54 : decode b_Machine_exchange 54 = .ok (.iload_n 2, 1) := by decide +kernel
theorem d_Machine_exchange_55 : decode b_Machine_exchange 55 = .ok (.if_icmp .le 10, 3) := by decide +kernel
theorem d_Machine_exchange_58 : decode b_Machine_exchange 58 = .ok (.aload_n 0, 1) := by decide +kernel
theorem d_Machine_exchange_59 : decode b_Machine_exchange 59 = .ok (.iload 5, 2) := by decide +kernel
theorem d_Machine_exchange_61 : decode b_Machine_exchange 61 = .ok (.invokevirtual 165, 3) := by decide +kernel
theorem d_Machine_exchange_64 : decode b_Machine_exchange 64 = .ok (.istore_n 3, 1) := by decide +kernel
theorem d_Machine_exchange_65 : decode b_Machine_exchange 65 = .ok (.iinc 4 1, 3) := by decide +kernel
theorem d_Machine_exchange_68 : decode b_Machine_exchange 68 = .ok (.goto (-56), 3) := by decide +kernel
theorem d_Machine_exchange_71 : decode b_Machine_exchange 71 = .ok (.iload_n 3, 1) := by decide +kernel
theorem d_Machine_exchange_72 : decode b_Machine_exchange 72 = .ok (.ireturn, 1) := by decide +kernel
theorem d_Str_indexOf_II_0 : decode b_Str_indexOf_II 0 = .ok (.aload_n 0, 1) := by decide +kernel
theorem d_Str_indexOf_II_1 : decode b_Str_indexOf_II 1 = .ok (.iload_n 1, 1) := by decide +kernel
theorem d_Str_indexOf_II_2 : decode b_Str_indexOf_II 2 = .ok (.iconst 0, 1) := by decide +kernel
theorem d_Str_indexOf_II_3 : decode b_Str_indexOf_II 3 = .ok (.invokevirtual 633, 3) := by decide +kernel
theorem d_Str_indexOf_II_6 : decode b_Str_indexOf_II 6 = .ok (.ireturn, 1) := by decide +kernel
theorem d_Str_indexOf_III_0 : decode b_Str_indexOf_III 0 = .ok (.aload_n 0, 1) := by decide +kernel
theorem d_Str_indexOf_III_1 : decode b_Str_indexOf_III 1 = .ok (.invokevirtual 492, 3) := by decide +kernel
theorem d_Str_indexOf_III_4 : decode b_Str_indexOf_III 4 = .ok (.ifCond .eq 19, 3) := by decide +kernel
theorem d_Str_indexOf_III_7 : decode b_Str_indexOf_III 7 = .ok (.aload_n 0, 1) := by decide +kernel
theorem d_Str_indexOf_III_8 : decode b_Str_indexOf_III 8 = .ok (.getfield 9, 3) := by decide +kernel
theorem d_Str_indexOf_III_11 : decode b_Str_indexOf_III 11 = .ok (.iload_n 1, 1) := by decide +kernel
theorem d_Str_indexOf_III_12 : decode b_Str_indexOf_III 12 = .ok (.iload_n 2, 1) := by decide +kernel
theorem d_Str_indexOf_III_13 : decode b_Str_indexOf_III 13 = .ok (.aload_n 0, 1) := by decide +kernel
theorem d_Str_indexOf_III_14 : decode b_Str_indexOf_III 14 = .ok (.invokevirtual 505, 3) := by decide +kernel
theorem d_Str_indexOf_III_17 : decode b_Str_indexOf_III 17 = .ok (.invokestatic 637, 3) := by decide +kernel
theorem d_Str_indexOf_III_20 : decode b_Str_indexOf_III 20 = .ok (.goto 16, 3) := by decide +kernel
theorem d_Str_indexOf_III_36 : decode b_Str_indexOf_III 36 = .ok (.ireturn, 1) := by decide +kernel
