theorem d_Numeral_scan_0 : decode b_Numeral_scan 0 = .ok (.aload_n 0, 1) := by decide +kernel
theorem d_Numeral_scan_1 : decode b_Numeral_scan 1 = .ok (.iconst 0, 1) := by decide +kernel
theorem d_Numeral_scan_2 : decode b_Numeral_scan 2 = .ok (.putfield 21, 3) := by decide +kernel
theorem d_Numeral_scan_5 : decode b_Numeral_scan 5 = .ok (.aload_n 0, 1) := by decide +kernel
theorem d_Numeral_scan_6 : decode b_Numeral_scan 6 = .ok (.invokevirtual 25, 3) := by decide +kernel
theorem d_Numeral_scan_9 : decode b_Numeral_scan 9 = .ok (.aload_n 0, 1) := by decide +kernel
theorem d_Numeral_scan_10 : decode b_Numeral_scan 10 = .ok (.aload_n 0, 1) := by decide +kernel
theorem d_Numeral_scan_11 : decode b_Numeral_scan 11 = .ok (.invokevirtual 28, 3) := by decide +kernel
theorem d_Numeral_scan_14 : decode b_Numeral_scan 14 = .ok (.putfield 13, 3) := by decide +kernel
theorem d_Numeral_scan_17 : decode b_Numeral_scan 17 = .ok (.aload_n 0, 1) := by decide +kernel
theorem d_Numeral_scan_18 : decode b_Numeral_scan 18 = .ok (.invokevirtual 32, 3) := by decide +kernel
theorem d_Numeral_scan_21 : decode b_Numeral_scan 21 = .ok (.aload_n 0, 1) := by decide +kernel
theorem d_Numeral_scan_22 : decode b_Numeral_scan 22 = .ok (.invokevirtual 35, 3) := by decide +kernel
theorem d_Numeral_scan_25 : decode b_Numeral_scan 25 = .ok (.aload_n 0, 1) := by decide +kernel
theorem d_Numeral_scan_26 : decode b_Numeral_scan 26 = .ok (.getfield 38, 3) := by decide +kernel
theorem d_Numeral_scan_29 : decode b_Numeral_scan 29 = .ok (.ifCond .eq 10, 3) := by decide +kernel
theorem d_Numeral_scan_32 : decode b_Numeral_scan 32 = .ok (.aload_n 0, 1) := by decide +kernel
theorem d_Numeral_scan_33 : decode b_Numeral_scan 33 = .ok (.invokevirtual 41, 3) := by decide +kernel
theorem d_Numeral_scan_36 : decode b_Numeral_scan 36 = .ok (.ifCond .ne 8, 3) := by decide +kernel
theorem d_Numeral_scan_39 : decode b_Numeral_scan 39 = .ok (.aload_n 0, 1) := by decide +kernel
theorem d_Numeral_scan_40 : decode b_Numeral_scan 40 = .ok (.getfield 21, 3) := by decide +kernel
theorem d_Numeral_scan_43 : decode b_Numeral_scan 43 = .ok (.ireturn, 1) := by decide +kernel
theorem d_Numeral_scan_44 : decode b_Numeral_scan 44 = .ok (.aload_n 0, 1) := by decide +kernel
theorem d_Numeral_scan_45 : decode b_Numeral_scan 45 = .ok (.invokevirtual 25, 3) := by decide +kernel
theorem d_Numeral_scan_48 : decode b_Numeral_scan 48 = .ok (.aload_n 0, 1) := by decide +kernel
theorem d_Numeral_scan_49 : decode b_Numeral_scan 49 = .ok (.getfield 21, 3) := by decide +kernel
theorem d_Numeral_scan_52 : decode b_Numeral_scan 52 = .ok (.aload_n 0, 1) := by decide +kernel
theorem d_Numeral_scan_53 : decode b_Numeral_scan 53 = .ok (.getfield 7, 3) := by decide +kernel
theorem d_Numeral_scan_56 : decode b_Numeral_scan 56 = .ok (.invokevirtual 44, 3) := by decide +kernel
theorem d_Numeral_scan_59 : decode b_Numeral_scan 59 = .ok (.if_icmp .ge 10, 3) := by decide +kernel
theorem d_Numeral_scan_62 : decode b_Numeral_scan 62 = .ok (.aload_n 0, 1) := by decide +kernel
theorem d_Numeral_scan_63 : decode b_Numeral_scan 63 = .ok (.getfield 21, 3) := by decide +kernel
theorem d_Numeral_scan_66 : decode b_Numeral_scan 66 = .ok (.goto 4, 3) := by decide +kernel
theorem d_Numeral_scan_69 : decode b_Numeral_scan 69 = .ok (.iconst (-1), 1) := by decide +kernel
theorem d_Numeral_scan_70 : decode b_Numeral_scan 70 = .ok (.ireturn, 1) := by decide +kernel
theorem d_Numeral_isNegative_0 : decode b_Numeral_isNegative 0 = .ok (.aload_n 0, 1) := by decide +kernel
theorem d_Numeral_isNegative_1 : decode b_Numeral_isNegative 1 = .ok (.getfield 13, 3) := by decide +kernel
theorem d_Numeral_isNegative_4 : decode b_Numeral_isNegative 4 = .ok (.ireturn, 1) := by decide +kernel
theorem d_Numeral_findWhole_0 : decode b_Numeral_findWhole 0 = .ok (.aload_n 0, 1) := by decide +kernel
theorem d_Numeral_findWhole_1 : decode b_Numeral_findWhole 1 = .ok (.lconst 0, 1) := by decide +kernel
theorem d_Numeral_findWhole_2 : decode b_Numeral_findWhole 2 = .ok (.putfield 17, 3) := by decide +kernel
theorem d_Numeral_findWhole_5 : decode b_Numeral_findWhole 5 = .ok (.aload_n 0, 1) := by decide +kernel
theorem d_Numeral_findWhole_6 : decode b_Numeral_findWhole 6 = .ok (.getfield 67, 3) := by decide +kernel
theorem d_Numeral_findWhole_9 : decode b_Numeral_findWhole 9 = .ok (.ifCond .ne 10, 3) := by decide +kernel
theorem d_Numeral_findWhole_12 : decode b_Numeral_findWhole 12 = .ok (.aload_n 0, 1) := by decide +kernel
theorem d_Numeral_findWhole_13 : decode b_Numeral_findWhole 13 = .ok (.getfield 80, 3) := by decide +kernel
theorem d_Numeral_findWhole_16 : decode b_Numeral_findWhole 16 = .ok (.ifCond .eq 5, 3) := by decide +kernel
theorem d_Numeral_findWhole_19 : decode b_Numeral_findWhole 19 = .ok (.iconst 0, 1) := by decide +kernel
theorem d_Numeral_findWhole_20 : decode b_Numeral_findWhole 20 = .ok (.ireturn, 1) := by decide +kernel
theorem d_Numeral_findWhole_21 : decode b_Numeral_findWhole 21 = .ok (.aload_n 0, 1) := by decide +kernel
theorem d_Numeral_findWhole_22 : decode b_Numeral_findWhole 22 = .ok (.getfield 61, 3) := by decide +kernel
theorem d_Numeral_findWhole_25 : decode b_Numeral_findWhole 25 = .ok (.istore_n 1, 1) := by decide +kernel
theorem d_Numeral_findWhole_26 : decode b_Numeral_findWhole 26 = .ok (.iload_n 1, 1) := by decide +kernel
theorem d_Numeral_findWhole_27 : decode b_Numeral_findWhole 27 = .ok (.aload_n 0, 1) := by decide +kernel
theorem d_Numeral_findWhole_28 : decode b_Numeral_findWhole 28 = .ok (.getfield 74, 3) := by decide +kernel
theorem d_Numeral_findWhole_31 : decode b_Numeral_findWhole 31 = .ok (.if_icmp .ge 93, 3) := by decide +kernel
theorem d_Numeral_findWhole_34 : decode b_Numeral_findWhole 34 = .ok (.aload_n 0, 1) := by decide +kernel
theorem d_Numeral_findWhole_35 : decode b_Numeral_findWhole 35 = .ok (.getfield 7, 3) := by decide +kernel
theorem d_Numeral_findWhole_38 : decode b_Numeral_findWhole 38 = .ok (.iload_n 1, 1) := by decide +kernel
theorem d_Numeral_findWhole_39 : decode b_Numeral_findWhole 39 = .ok (.invokevirtual 50, 3) := by decide +kernel
theorem d_Numeral_findWhole_42 : decode b_Numeral_findWhole 42 = .ok (.aload_n 0, 1) := by decide +kernel
theorem d_Numeral_findWhole_43 : decode b_Numeral_findWhole 43 = .ok (.getfield 58, 3) := by decide +kernel
theorem d_Numeral_findWhole_46 : decode b_Numeral_findWhole 46 = .ok (.invokestatic 70, 3) := by decide +kernel
theorem d_Numeral_findWhole_49 : decode b_Numeral_findWhole 49 = .ok (.istore_n 2, 1) := by decide +kernel
theorem d_Numeral_findWhole_50 : decode b_Numeral_findWhole 50 = .ok (.aload_n 0, 1) := by decide +kernel
theorem d_Numeral_findWhole_51 : decode b_Numeral_findWhole 51 = .ok (.getfield 58, 3) := by decide +kernel
theorem d_Numeral_findWhole_54 : decode b_Numeral_findWhole 54 = .ok (.ifCond .eq 19, 3) := by decide +kernel
theorem d_Numeral_findWhole_57 : decode b_Numeral_findWhole 57 = .ok (.aload_n 0, 1) := by decide +kernel
theorem d_Numeral_findWhole_58 : decode b_Numeral_findWhole 58 = .ok (.aload_n 0, 1) := by decide +kernel
theorem d_Numeral_findWhole_59 : decode b_Numeral_findWhole 59 = .ok (.getfield 17, 3) := by decide +kernel
theorem d_Numeral_findWhole_62 : decode b_Numeral_findWhole 62 = .ok (.iconst 4, 1) := by decide +kernel
theorem d_Numeral_findWhole_63 : decode b_Numeral_findWhole 63 = .ok (.lshl, 1) := by decide +kernel
theorem d_Numeral_findWhole_64 : decode b_Numeral_findWhole 64 = .ok (.iload_n 2, 1) := by decide +kernel
theorem d_Numeral_findWhole_65 : decode b_Numeral_findWhole 65 = .ok (.i2l, 1) := by decide +kernel
theorem d_Numeral_findWhole_66 : decode b_Numeral_findWhole 66 = .ok (.ladd, 1) := by decide +kernel
theorem d_Numeral_findWhole_67 : decode b_Numeral_findWhole 67 = .ok (.putfield 17, 3) := by decide +kernel
theorem d_Numeral_findWhole_70 : decode b_Numeral_findWhole 70 = .ok (.goto 48, 3) := by decide +kernel
theorem d_Numeral_findWhole_73 : decode b_Numeral_findWhole 73 = .ok (.aload_n 0, 1) := by decide +kernel
theorem d_Numeral_findWhole_74 : decode b_Numeral_findWhole 74 = .ok (.getfield 17, 3) := by decide +kernel
theorem d_Numeral_findWhole_77 : decode b_Numeral_findWhole 77 = .ok (.ldc2_w 90, 3) := by decide +kernel
theorem d_Numeral_findWhole_80 : decode b_Numeral_findWhole 80 = .ok (.lcmp, 1) := by decide +kernel
theorem d_Numeral_findWhole_81 : decode b_Numeral_findWhole 81 = .ok (.ifCond .gt 20, 3) := by decide +kernel
theorem d_Numeral_findWhole_84 : decode b_Numeral_findWhole 84 = .ok (.aload_n 0, 1) := by decide +kernel
theorem d_Numeral_findWhole_85 : decode b_Numeral_findWhole 85 = .ok (.getfield 17, 3) := by decide +kernel
theorem d_Numeral_findWhole_88 : decode b_Numeral_findWhole 88 = .ok (.ldc2_w 90, 3) := by decide +kernel
theorem d_Numeral_findWhole_91 : decode b_Numeral_findWhole 91 = .ok (.lcmp, 1) := by decide +kernel
theorem d_Numeral_findWhole_92 : decode b_Numeral_findWhole 92 = .ok (.ifCond .ne 11, 3) := by decide +kernel
theorem d_Numeral_findWhole_95 : decode b_Numeral_findWhole 95 = .ok (.iload_n 2, 1) := by decide +kernel
theorem d_Numeral_findWhole_96 : decode b_Numeral_findWhole 96 = .ok (.bipush 7, 2) := by decide +kernel
theorem d_Numeral_findWhole_98 : decode b_Numeral_findWhole 98 = .ok (.if_icmp .le 5, 3) := by decide +kernel
theorem d_Numeral_findWhole_101 : decode b_Numeral_findWhole 101 = .ok (.iconst 0, 1) := by decide +kernel
theorem d_Numeral_findWhole_102 : decode b_Numeral_findWhole 102 = .ok (.ireturn, 1) := by decide +kernel
theorem d_Numeral_findWhole_103 : decode b_Numeral_findWhole 103 = .ok (.aload_n 0, 1) := by decide +kernel
theorem d_Numeral_findWhole_104 : decode b_Numeral_findWhole 104 = .ok (.aload_n 0, 1) := by decide +kernel
theorem d_Numeral_findWhole_105 : decode b_Numeral_findWhole 105 = .ok (.getfield 17, 3) := by decide +kernel
theorem d_Numeral_findWhole_108 : decode b_Numeral_findWhole 108 = .ok (.ldc2_w 92, 3) := by decide +kernel
theorem d_Numeral_findWhole_111 : decode b_Numeral_findWhole 111 = .ok (.lmul, 1) := by decide +kernel
theorem d_Numeral_findWhole_112 : decode b_Numeral_findWhole 112 = .ok (.iload_n 2, 1) := by decide +kernel
theorem d_Numeral_findWhole_113 : decode b_Numeral_findWhole 113 = .ok (.i2l, 1) := by decide +kernel
theorem d_Numeral_findWhole_114 : decode b_Numeral_findWhole 114 = .ok (.ladd, 1) := by decide +kernel
theorem d_Numeral_findWhole_115 : decode b_Numeral_findWhole 115 = .ok (.putfield 17, 3) := by decide +kernel
theorem d_Numeral_findWhole_118 : decode b_Numeral_findWhole 118 = .ok (.iinc 1 1, 3) := by decide +kernel
theorem d_Numeral_findWhole_121 : decode b_Numeral_findWhole 121 = .ok (.goto (-95), 3) := by decide +kernel
theorem d_Numeral_findWhole_124 : decode b_Numeral_findWhole 124 = .ok (.iconst 1, 1) := by decide +kernel
theorem d_Numeral_findWhole_125 : decode b_Numeral_findWhole 125 = .ok (.ireturn, 1) := by decide +kernel
theorem d_Numeral_foundWhole_0 : decode b_Numeral_foundWhole 0 = .ok (.aload_n 0, 1) := by decide +kernel
theorem d_Numeral_foundWhole_1 : decode b_Numeral_foundWhole 1 = .ok (.getfield 17, 3) := by decide +kernel
theorem d_Numeral_foundWhole_4 : decode b_Numeral_foundWhole 4 = .ok (.lreturn, 1) := by decide +kernel
theorem d_N_setValue_0 : decode b_N_setValue 0 = .ok (.aload_n 0, 1) := by decide +kernel
theorem d_N_setValue_1 : decode b_N_setValue 1 = .ok (.iload_n 1, 1) := by decide +kernel
theorem d_N_setValue_2 : decode b_N_setValue 2 = .ok (.putfield 61, 3) := by decide +kernel
theorem d_N_setValue_5 : decode b_N_setValue 5 = .ok (.aload_n 0, 1) := by decide +kernel
theorem d_N_setValue_6 : decode b_N_setValue 6 = .ok (.lload_n 2, 1) := by decide +kernel
theorem d_N_setValue_7 : decode b_N_setValue 7 = .ok (.putfield 65, 3) := by decide +kernel
theorem d_N_setValue_10 : decode b_N_setValue 10 = .ok (.aload_n 0, 1) := by decide +kernel
theorem d_N_setValue_11 : decode b_N_setValue 11 = .ok (.iload 4, 2) := by decide +kernel
theorem d_N_setValue_13 : decode b_N_setValue 13 = .ok (.putfield 69, 3) := by decide +kernel
theorem d_N_setValue_16 : decode b_N_setValue 16 = .ok (.return_, 1) := by decide +kernel
theorem d_Integer_numberOfLeadingZeros_0 : decode b_Integer_numberOfLeadingZeros 0 = .ok (.iload_n 0, 1) := by decide +kernel
theorem d_Integer_numberOfLeadingZeros_1 : decode b_Integer_numberOfLeadingZeros 1 = .ok (.ifCond .gt 14, 3) := by decide +kernel
theorem d_Integer_numberOfLeadingZeros_4 : decode b_Integer_numberOfLeadingZeros 4 = .ok (.iload_n 0, 1) := by decide +kernel
theorem d_Integer_numberOfLeadingZeros_5 : decode b_Integer_numberOfLeadingZeros 5 = .ok (.ifCond .ne 8, 3) := by decide +kernel
theorem d_Integer_numberOfLeadingZeros_8 : decode b_Integer_numberOfLeadingZeros 8 = .ok (.bipush 32, 2) := by decide +kernel
theorem d_Integer_numberOfLeadingZeros_10 : decode b_Integer_numberOfLeadingZeros 10 = .ok (.goto 4, 3) := by decide +kernel
theorem d_Integer_numberOfLeadingZeros_13 : decode b_Integer_numberOfLeadingZeros 13 = .ok (.iconst 0, 1) := by decide +kernel
theorem d_Integer_numberOfLeadingZeros_14 : decode b_Integer_numberOfLeadingZeros 14 = .ok (.ireturn, 1) := by decide +kernel
theorem d_Integer_numberOfLeadingZeros_15 : decode b_Integer_numberOfLeadingZeros 15 = .ok (.bipush 31, 2) := by decide +kernel
theorem d_Integer_numberOfLeadingZeros_17 : decode b_Integer_numberOfLeadingZeros 17 = .ok (.istore_n 1, 1) := by decide +kernel
theorem d_Integer_numberOfLeadingZeros_18 : decode b_Integer_numberOfLeadingZeros 18 = .ok (.iload_n 0, 1) := by decide +kernel
theorem d_Integer_numberOfLeadingZeros_19 : decode b_Integer_numberOfLeadingZeros 19 = .ok (.ldc_w 264, 3) := by decide +kernel
theorem d_Integer_numberOfLeadingZeros_22 : decode b_Integer_numberOfLeadingZeros 22 = .ok (.if_icmp .lt 11, 3) := by decide +kernel
theorem d_Integer_numberOfLeadingZeros_25 : decode b_Integer_numberOfLeadingZeros 25 = .ok (.iinc 1 (-16), 3) := by decide +kernel
theorem d_Integer_numberOfLeadingZeros_28 : decode b_Integer_numberOfLeadingZeros 28 = .ok (.iload_n 0, 1) := by decide +kernel
theorem d_Integer_numberOfLeadingZeros_29 : decode b_Integer_numberOfLeadingZeros 29 = .ok (.bipush 16, 2) := by decide +kernel
theorem d_Integer_numberOfLeadingZeros_31 : decode b_Integer_numberOfLeadingZeros 31 = .ok (.iushr, 1) := by decide +kernel
theorem d_Integer_numberOfLeadingZeros_32 : decode b_Integer_numberOfLeadingZeros 32 = .ok (.istore_n 0, 1) := by decide +kernel
theorem d_Integer_numberOfLeadingZeros_33 : decode b_Integer_numberOfLeadingZeros 33 = .ok (.iload_n 0, 1) := by decide +kernel
theorem d_Integer_numberOfLeadingZeros_34 : decode b_Integer_numberOfLeadingZeros 34 = .ok (.sipush 256, 3) := by decide +kernel
theorem d_Integer_numberOfLeadingZeros_37 : decode b_Integer_numberOfLeadingZeros 37 = .ok (.if_icmp .lt 11, 3) := by decide +kernel
theorem d_Integer_numberOfLeadingZeros_40 : decode b_Integer_numberOfLeadingZeros 40 = .ok (.iinc 1 (-8), 3) := by decide +kernel
theorem d_Integer_numberOfLeadingZeros_43 : decode b_Integer_numberOfLeadingZeros 43 = .ok (.iload_n 0, 1) := by decide +kernel
theorem d_Integer_numberOfLeadingZeros_44 : decode b_Integer_numberOfLeadingZeros 44 = .ok (.bipush 8, 2) := by decide +kernel
theorem d_Integer_numberOfLeadingZeros_46 : decode b_Integer_numberOfLeadingZeros 46 = .ok (.iushr, 1) := by decide +kernel
theorem d_Integer_numberOfLeadingZeros_47 : decode b_Integer_numberOfLeadingZeros 47 = .ok (.istore_n 0, 1) := by decide +kernel
theorem d_Integer_numberOfLeadingZeros_48 : decode b_Integer_numberOfLeadingZeros 48 = .ok (.iload_n 0, 1) := by decide +kernel
theorem d_Integer_numberOfLeadingZeros_49 : decode b_Integer_numberOfLeadingZeros 49 = .ok (.bipush 16, 2) := by decide +kernel
theorem d_Integer_numberOfLeadingZeros_51 : decode b_Integer_numberOfLeadingZeros 51 = .ok (.if_icmp .lt 10, 3) := by decide +kernel
theorem d_Integer_numberOfLeadingZeros_54 : decode b_Integer_numberOfLeadingZeros 54 = .ok (.iinc 1 (-4), 3) := by decide +kernel
theorem d_Integer_numberOfLeadingZeros_57 : decode b_Integer_numberOfLeadingZeros 57 = .ok (.iload_n 0, 1) := by decide +kernel
theorem d_Integer_numberOfLeadingZeros_58 : decode b_Integer_numberOfLeadingZeros 58 = .ok (.iconst 4, 1) := by decide +kernel
theorem d_Integer_numberOfLeadingZeros_59 : decode b_Integer_numberOfLeadingZeros 59 = .ok (.iushr, 1) := by decide +kernel
theorem d_Integer_numberOfLeadingZeros_60 : decode b_Integer_numberOfLeadingZeros 60 = .ok (.istore_n 0, 1) := by decide +kernel
theorem d_Integer_numberOfLeadingZeros_61 : decode b_Integer_numberOfLeadingZeros 61 = .ok (.iload_n 0, 1) := by decide +kernel
theorem d_Integer_numberOfLeadingZeros_62 : decode b_Integer_numberOfLeadingZeros 62 = .ok (.iconst 4, 1) := by decide +kernel
theorem d_Integer_numberOfLeadingZeros_63 : decode b_Integer_numberOfLeadingZeros 63 = .ok (.if_icmp .lt 10, 3) := by decide +kernel
theorem d_Integer_numberOfLeadingZeros_66 : decode b_Integer_numberOfLeadingZeros 66 = .ok (.iinc 1 (-2), 3) := by decide +kernel
theorem d_Integer_numberOfLeadingZeros_69 : decode b_Integer_numberOfLeadingZeros 69 = .ok (.iload_n 0, 1) := by decide +kernel
theorem d_Integer_numberOfLeadingZeros_70 : decode b_Integer_numberOfLeadingZeros 70 = .ok (.iconst 2, 1) := by decide +kernel
theorem d_Integer_numberOfLeadingZeros_71 : decode b_Integer_numberOfLeadingZeros 71 = .ok (.iushr, 1) := by decide +kernel
theorem d_Integer_numberOfLeadingZeros_72 : decode b_Integer_numberOfLeadingZeros 72 = .ok (.istore_n 0, 1) := by decide +kernel
theorem d_Integer_numberOfLeadingZeros_73 : decode b_Integer_numberOfLeadingZeros 73 = .ok (.iload_n 1, 1) := by decide +kernel
theorem d_Integer_numberOfLeadingZeros_74 : decode b_Integer_numberOfLeadingZeros 74 = .ok (.iload_n 0, 1) := by decide +kernel
theorem d_Integer_numberOfLeadingZeros_75 : decode b_Integer_numberOfLeadingZeros 75 = .ok (.iconst 1, 1) := by decide +kernel
theorem d_Integer_numberOfLeadingZeros_76 : decode b_Integer_numberOfLeadingZeros 76 = .ok (.iushr, 1) := by decide +kernel
theorem d_Integer_numberOfLeadingZeros_77 : decode b_Integer_numberOfLeadingZeros 77 = .ok (.isub, 1) := by decide +kernel
theorem d_Integer_numberOfLeadingZeros_78 : decode b_Integer_numberOfLeadingZeros 78 = .ok (.ireturn, 1) := by decide +kernel
theorem d_Long_numberOfLeadingZeros_0 : decode b_Long_numberOfLeadingZeros 0 = .ok (.lload_n 0, 1) := by decide +kernel
theorem d_Long_numberOfLeadingZeros_1 : decode b_Long_numberOfLeadingZeros 1 = .ok (.bipush 32, 2) := by decide +kernel
theorem d_Long_numberOfLeadingZeros_3 : decode b_Long_numberOfLeadingZeros 3 = .ok (.lushr, 1) := by decide +kernel
theorem d_Long_numberOfLeadingZeros_4 : decode b_Long_numberOfLeadingZeros 4 = .ok (.l2i, 1) := by decide +kernel
theorem d_Long_numberOfLeadingZeros_5 : decode b_Long_numberOfLeadingZeros 5 = .ok (.istore_n 2, 1) := by decide +kernel
theorem d_Long_numberOfLeadingZeros_6 : decode b_Long_numberOfLeadingZeros 6 = .ok (.iload_n 2, 1) := by decide +kernel
theorem d_Long_numberOfLeadingZeros_7 : decode b_Long_numberOfLeadingZeros 7 = .ok (.ifCond .ne 14, 3) := by decide +kernel
theorem d_Long_numberOfLeadingZeros_10 : decode b_Long_numberOfLeadingZeros 10 = .ok (.bipush 32, 2) := by decide +kernel
theorem d_Long_numberOfLeadingZeros_12 : decode b_Long_numberOfLeadingZeros 12 = .ok (.lload_n 0, 1) := by decide +kernel
theorem d_Long_numberOfLeadingZeros_13 : decode b_Long_numberOfLeadingZeros 13 = .ok (.l2i, 1) := by decide +kernel
theorem d_Long_numberOfLeadingZeros_14 : decode b_Long_numberOfLeadingZeros 14 = .ok (.invokestatic 308, 3) := by decide +kernel
theorem d_Long_numberOfLeadingZeros_17 : decode b_Long_numberOfLeadingZeros 17 = .ok (.iadd, 1) := by decide +kernel
theorem d_Long_numberOfLeadingZeros_18 : decode b_Long_numberOfLeadingZeros 18 = .ok (.goto 7, 3) := by decide +kernel
theorem d_Long_numberOfLeadingZeros_21 : decode b_Long_numberOfLeadingZeros 21 = .ok (.iload_n 2, 1) := by decide +kernel
theorem d_Long_numberOfLeadingZeros_22 : decode b_Long_numberOfLeadingZeros 22 = .ok (.invokestatic 308, 3) := by decide +kernel
theorem d_Long_numberOfLeadingZeros_25 : decode b_Long_numberOfLeadingZeros 25 = .ok (.ireturn, 1) := by decide +kernel
theorem d_N_bitsOf_0 : decode b_N_bitsOf 0 = .ok (.bipush 64, 2) := by decide +kernel
theorem d_N_bitsOf_2 : decode b_N_bitsOf 2 = .ok (.lload_n 0, 1) := by decide +kernel
theorem d_N_bitsOf_3 : decode b_N_bitsOf 3 = .ok (.invokestatic 218, 3) := by decide +kernel
theorem d_N_bitsOf_6 : decode b_N_bitsOf 6 = .ok (.isub, 1) := by decide +kernel
theorem d_N_bitsOf_7 : decode b_N_bitsOf 7 = .ok (.ireturn, 1) := by decide +kernel
theorem d_Integer_numberOfTrailingZeros_0 : decode b_Integer_numberOfTrailingZeros 0 = .ok (.iload_n 0, 1) := by decide +kernel
theorem d_Integer_numberOfTrailingZeros_1 : decode b_Integer_numberOfTrailingZeros 1 = .ok (.iconst (-1), 1) := by decide +kernel
theorem d_Integer_numberOfTrailingZeros_2 : decode b_Integer_numberOfTrailingZeros 2 = .ok (.ixor, 1) := by decide +kernel
theorem d_Integer_numberOfTrailingZeros_3 : decode b_Integer_numberOfTrailingZeros 3 = .ok (.iload_n 0, 1) := by decide +kernel
theorem d_Integer_numberOfTrailingZeros_4 : decode b_Integer_numberOfTrailingZeros 4 = .ok (.iconst 1, 1) := by decide +kernel
theorem d_Integer_numberOfTrailingZeros_5 : decode b_Integer_numberOfTrailingZeros 5 = .ok (.isub, 1) := by decide +kernel
theorem d_Integer_numberOfTrailingZeros_6 : decode b_Integer_numberOfTrailingZeros 6 = .ok (.iand, 1) := by decide +kernel
theorem d_Integer_numberOfTrailingZeros_7 : decode b_Integer_numberOfTrailingZeros 7 = .ok (.istore_n 0, 1) := by decide +kernel
theorem d_Integer_numberOfTrailingZeros_8 : decode b_Integer_numberOfTrailingZeros 8 = .ok (.iload_n 0, 1) := by decide +kernel
theorem d_Integer_numberOfTrailingZeros_9 : decode b_Integer_numberOfTrailingZeros 9 = .ok (.ifCond .gt 8, 3) := by decide +kernel
theorem d_Integer_numberOfTrailingZeros_12 : decode b_Integer_numberOfTrailingZeros 12 = .ok (.iload_n 0, 1) := by decide +kernel
theorem d_Integer_numberOfTrailingZeros_13 : decode b_Integer_numberOfTrailingZeros 13 = .ok (.bipush 32, 2) := by decide +kernel
theorem d_Integer_numberOfTrailingZeros_15 : decode b_Integer_numberOfTrailingZeros 15 = .ok (.iand, 1) := by decide +kernel
theorem d_Integer_numberOfTrailingZeros_16 : decode b_Integer_numberOfTrailingZeros 16 = .ok (.ireturn, 1) := by decide +kernel
theorem d_Integer_numberOfTrailingZeros_17 : decode b_Integer_numberOfTrailingZeros 17 = .ok (.iconst 1, 1) := by decide +kernel
theorem d_Integer_numberOfTrailingZeros_18 : decode b_Integer_numberOfTrailingZeros 18 = .ok (.istore_n 1, 1) := by decide +kernel
theorem d_Integer_numberOfTrailingZeros_19 : decode b_Integer_numberOfTrailingZeros 19 = .ok (.iload_n 0, 1) := by decide +kernel
theorem d_Integer_numberOfTrailingZeros_20 : decode b_Integer_numberOfTrailingZeros 20 = .ok (.ldc_w 264, 3) := by decide +kernel
theorem d_Integer_numberOfTrailingZeros_23 : decode b_Integer_numberOfTrailingZeros 23 = .ok (.if_icmp .le 11, 3) := by decide +kernel
theorem d_Integer_numberOfTrailingZeros_26 : decode b_Integer_numberOfTrailingZeros 26 = .ok (.iinc 1 16, 3) := by decide +kernel
theorem d_Integer_numberOfTrailingZeros_29 : decode b_Integer_numberOfTrailingZeros 29 = .ok (.iload_n 0, 1) := by decide +kernel
theorem d_Integer_numberOfTrailingZeros_30 : decode b_Integer_numberOfTrailingZeros 30 = .ok (.bipush 16, 2) := by decide +kernel
theorem d_Integer_numberOfTrailingZeros_32 : decode b_Integer_numberOfTrailingZeros 32 = .ok (.iushr, 1) := by decide +kernel
theorem d_Integer_numberOfTrailingZeros_33 : decode b_Integer_numberOfTrailingZeros 33 = .ok (.istore_n 0, 1) := by decide +kernel
theorem d_Integer_numberOfTrailingZeros_34 : decode b_Integer_numberOfTrailingZeros 34 = .ok (.iload_n 0, 1) := by decide +kernel
theorem d_Integer_numberOfTrailingZeros_35 : decode b_Integer_numberOfTrailingZeros 35 = .ok (.sipush 256, 3) := by decide +kernel
theorem d_Integer_numberOfTrailingZeros_38 : decode b_Integer_numberOfTrailingZeros 38 = .ok (.if_icmp .le 11, 3) := by decide +kernel
theorem d_Integer_numberOfTrailingZeros_41 : decode b_Integer_numberOfTrailingZeros 41 = .ok (.iinc 1 8, 3) := by decide +kernel
theorem d_Integer_numberOfTrailingZeros_44 : decode b_Integer_numberOfTrailingZeros 44 = .ok (.iload_n 0, 1) := by decide +kernel
theorem d_Integer_numberOfTrailingZeros_45 : decode b_Integer_numberOfTrailingZeros 45 = .ok (.bipush 8, 2) := by decide +kernel
theorem d_Integer_numberOfTrailingZeros_47 : decode b_Integer_numberOfTrailingZeros 47 = .ok (.iushr, 1) := by decide +kernel
theorem d_Integer_numberOfTrailingZeros_48 : decode b_Integer_numberOfTrailingZeros 48 = .ok (.istore_n 0, 1) := by decide +kernel
theorem d_Integer_numberOfTrailingZeros_49 : decode b_Integer_numberOfTrailingZeros 49 = .ok (.iload_n 0, 1) := by decide +kernel
theorem d_Integer_numberOfTrailingZeros_50 : decode b_Integer_numberOfTrailingZeros 50 = .ok (.bipush 16, 2) := by decide +kernel
theorem d_Integer_numberOfTrailingZeros_52 : decode b_Integer_numberOfTrailingZeros 52 = .ok (.if_icmp .le 10, 3) := by decide +kernel
theorem d_Integer_numberOfTrailingZeros_55 : decode b_Integer_numberOfTrailingZeros 55 = .ok (.iinc 1 4, 3) := by decide +kernel
theorem d_Integer_numberOfTrailingZeros_58 : decode b_Integer_numberOfTrailingZeros 58 = .ok (.iload_n 0, 1) := by decide +kernel
theorem d_Integer_numberOfTrailingZeros_59 : decode b_Integer_numberOfTrailingZeros 59 = .ok (.iconst 4, 1) := by decide +kernel
theorem d_Integer_numberOfTrailingZeros_60 : decode b_Integer_numberOfTrailingZeros 60 = .ok (.iushr, 1) := by decide +kernel
theorem d_Integer_numberOfTrailingZeros_61 : decode b_Integer_numberOfTrailingZeros 61 = .ok (.istore_n 0, 1) := by decide +kernel
theorem d_Integer_numberOfTrailingZeros_62 : decode b_Integer_numberOfTrailingZeros 62 = .ok (.iload_n 0, 1) := by decide +kernel
theorem d_Integer_numberOfTrailingZeros_63 : decode b_Integer_numberOfTrailingZeros 63 = .ok (.iconst 4, 1) := by decide +kernel
theorem d_Integer_numberOfTrailingZeros_64 : decode b_Integer_numberOfTrailingZeros 64 = .ok (.if_icmp .le 10, 3) := by decide +kernel
theorem d_Integer_numberOfTrailingZeros_67 : decode b_Integer_numberOfTrailingZeros 67 = .ok (.iinc 1 2, 3) := by decide +kernel
theorem d_Integer_numberOfTrailingZeros_70 : decode b_Integer_numberOfTrailingZeros 70 = .ok (.iload_n 0, 1) := by decide +kernel
theorem d_Integer_numberOfTrailingZeros_71 : decode b_Integer_numberOfTrailingZeros 71 = .ok (.iconst 2, 1) := by decide +kernel
theorem d_Integer_numberOfTrailingZeros_72 : decode b_Integer_numberOfTrailingZeros 72 = .ok (.iushr, 1) := by decide +kernel
theorem d_Integer_numberOfTrailingZeros_73 : decode b_Integer_numberOfTrailingZeros 73 = .ok (.istore_n 0, 1) := by decide +kernel
theorem d_Integer_numberOfTrailingZeros_74 : decode b_Integer_numberOfTrailingZeros 74 = .ok (.iload_n 1, 1) := by decide +kernel
theorem d_Integer_numberOfTrailingZeros_75 : decode b_Integer_numberOfTrailingZeros 75 = .ok (.iload_n 0, 1) := by decide +kernel
theorem d_Integer_numberOfTrailingZeros_76 : decode b_Integer_numberOfTrailingZeros 76 = .ok (.iconst 1, 1) := by decide +kernel
theorem d_Integer_numberOfTrailingZeros_77 : decode b_Integer_numberOfTrailingZeros 77 = .ok (.iushr, 1) := by decide +kernel
theorem d_Integer_numberOfTrailingZeros_78 : decode b_Integer_numberOfTrailingZeros 78 = .ok (.iadd, 1) := by decide +kernel
theorem d_Integer_numberOfTrailingZeros_79 : decode b_Integer_numberOfTrailingZeros 79 = .ok (.ireturn, 1) := by decide +kernel
theorem d_Long_numberOfTrailingZeros_0 : decode b_Long_numberOfTrailingZeros 0 = .ok (.lload_n 0, 1) := by decide +kernel
theorem d_Long_numberOfTrailingZeros_1 : decode b_Long_numberOfTrailingZeros 1 = .ok (.l2i, 1) := by decide +kernel
theorem d_Long_numberOfTrailingZeros_2 : decode b_Long_numberOfTrailingZeros 2 = .ok (.istore_n 2, 1) := by decide +kernel
theorem d_Long_numberOfTrailingZeros_3 : decode b_Long_numberOfTrailingZeros 3 = .ok (.iload_n 2, 1) := by decide +kernel
theorem d_Long_numberOfTrailingZeros_4 : decode b_Long_numberOfTrailingZeros 4 = .ok (.ifCond .ne 17, 3) := by decide +kernel
theorem d_Long_numberOfTrailingZeros_7 : decode b_Long_numberOfTrailingZeros 7 = .ok (.bipush 32, 2) := by decide +kernel
theorem d_Long_numberOfTrailingZeros_9 : decode b_Long_numberOfTrailingZeros 9 = .ok (.lload_n 0, 1) := by decide +kernel
theorem d_Long_numberOfTrailingZeros_10 : decode b_Long_numberOfTrailingZeros 10 = .ok (.bipush 32, 2) := by decide +kernel
theorem d_Long_numberOfTrailingZeros_12 : decode b_Long_numberOfTrailingZeros 12 = .ok (.lushr, 1) := by decide +kernel
theorem d_Long_numberOfTrailingZeros_13 : decode b_Long_numberOfTrailingZeros 13 = .ok (.l2i, 1) := by decide +kernel
theorem d_Long_numberOfTrailingZeros_14 : decode b_Long_numberOfTrailingZeros 14 = .ok (.invokestatic 311, 3) := by decide +kernel
theorem d_Long_numberOfTrailingZeros_17 : decode b_Long_numberOfTrailingZeros 17 = .ok (.iadd, 1) := by decide +kernel
theorem d_Long_numberOfTrailingZeros_18 : decode b_Long_numberOfTrailingZeros 18 = .ok (.goto 7, 3) := by decide +kernel
theorem d_Long_numberOfTrailingZeros_21 : decode b_Long_numberOfTrailingZeros 21 = .ok (.iload_n 2, 1) := by decide +kernel
theorem d_Long_numberOfTrailingZeros_22 : decode b_Long_numberOfTrailingZeros 22 = .ok (.invokestatic 311, 3) := by decide +kernel
theorem d_Long_numberOfTrailingZeros_25 : decode b_Long_numberOfTrailingZeros 25 = .ok (.ireturn, 1) := by decide +kernel
theorem d_Size_setInfinite_0 : decode b_Size_setInfinite 0 = .ok (.aload_n 0, 1) := by decide +kernel
theorem d_Size_setInfinite_1 : decode b_Size_setInfinite 1 = .ok (.lconst 0, 1) := by decide +kernel
theorem d_Size_setInfinite_2 : decode b_Size_setInfinite 2 = .ok (.putfield 7, 3) := by decide +kernel
theorem d_Size_setInfinite_5 : decode b_Size_setInfinite 5 = .ok (.aload_n 0, 1) := by decide +kernel
theorem d_Size_setInfinite_6 : decode b_Size_setInfinite 6 = .ok (.iconst 0, 1) := by decide +kernel
theorem d_Size_setInfinite_7 : decode b_Size_setInfinite 7 = .ok (.putfield 13, 3) := by decide +kernel
theorem d_Size_setInfinite_10 : decode b_Size_setInfinite 10 = .ok (.aload_n 0, 1) := by decide +kernel
theorem d_Size_setInfinite_11 : decode b_Size_setInfinite 11 = .ok (.iconst 1, 1) := by decide +kernel
theorem d_Size_setInfinite_12 : decode b_Size_setInfinite 12 = .ok (.putfield 17, 3) := by decide +kernel
theorem d_Size_setInfinite_15 : decode b_Size_setInfinite 15 = .ok (.return_, 1) := by decide +kernel
theorem d_Size_setReduced_0 : decode b_Size_setReduced 0 = .ok (.lload_n 1, 1) := by decide +kernel
theorem d_Size_setReduced_1 : decode b_Size_setReduced 1 = .ok (.lconst 0, 1) := by decide +kernel
theorem d_Size_setReduced_2 : decode b_Size_setReduced 2 = .ok (.lcmp, 1) := by decide +kernel
theorem d_Size_setReduced_3 : decode b_Size_setReduced 3 = .ok (.ifCond .ne 7, 3) := by decide +kernel
theorem d_Size_setReduced_6 : decode b_Size_setReduced 6 = .ok (.iconst 0, 1) := by decide +kernel
theorem d_Size_setReduced_7 : decode b_Size_setReduced 7 = .ok (.goto 7, 3) := by decide +kernel
theorem d_Size_setReduced_10 : decode b_Size_setReduced 10 = .ok (.lload_n 1, 1) := by decide +kernel
theorem d_Size_setReduced_11 : decode b_Size_setReduced 11 = .ok (.invokestatic 37, 3) := by decide +kernel
theorem d_Size_setReduced_14 : decode b_Size_setReduced 14 = .ok (.istore 4, 2) := by decide +kernel
theorem d_Size_setReduced_16 : decode b_Size_setReduced 16 = .ok (.aload_n 0, 1) := by decide +kernel
theorem d_Size_setReduced_17 : decode b_Size_setReduced 17 = .ok (.lload_n 1, 1) := by decide +kernel
theorem d_Size_setReduced_18 : decode b_Size_setReduced 18 = .ok (.iload 4, 2) := by decide +kernel
theorem d_Size_setReduced_20 : decode b_Size_setReduced 20 = .ok (.lushr, 1) := by decide +kernel
theorem d_Size_setReduced_21 : decode b_Size_setReduced 21 = .ok (.putfield 7, 3) := by decide +kernel
theorem d_Size_setReduced_24 : decode b_Size_setReduced 24 = .ok (.aload_n 0, 1) := by decide +kernel
theorem d_Size_setReduced_25 : decode b_Size_setReduced 25 = .ok (.lload_n 1, 1) := by decide +kernel
theorem d_Size_setReduced_26 : decode b_Size_setReduced 26 = .ok (.lconst 0, 1) := by decide +kernel
theorem d_Size_setReduced_27 : decode b_Size_setReduced 27 = .ok (.lcmp, 1) := by decide +kernel
theorem d_Size_setReduced_28 : decode b_Size_setReduced 28 = .ok (.ifCond .ne 7, 3) := by decide +kernel
theorem d_Size_setReduced_31 : decode b_Size_setReduced 31 = .ok (.iconst 0, 1) := by decide +kernel
theorem d_Size_setReduced_32 : decode b_Size_setReduced 32 = .ok (.goto 7, 3) := by decide +kernel
theorem d_Size_setReduced_35 : decode b_Size_setReduced 35 = .ok (.iload_n 3, 1) := by decide +kernel
theorem d_Size_setReduced_36 : decode b_Size_setReduced 36 = .ok (.iload 4, 2) := by decide +kernel
theorem d_Size_setReduced_38 : decode b_Size_setReduced 38 = .ok (.iadd, 1) := by decide +kernel
theorem d_Size_setReduced_39 : decode b_Size_setReduced 39 = .ok (.putfield 13, 3) := by decide +kernel
theorem d_Size_setReduced_42 : decode b_Size_setReduced 42 = .ok (.aload_n 0, 1) := by decide +kernel
theorem d_Size_setReduced_43 : decode b_Size_setReduced 43 = .ok (.iconst 0, 1) := by decide +kernel
theorem d_Size_setReduced_44 : decode b_Size_setReduced 44 = .ok (.putfield 17, 3) := by decide +kernel
theorem d_Size_setReduced_47 : decode b_Size_setReduced 47 = .ok (.aload_n 0, 1) := by decide +kernel
theorem d_Size_setReduced_48 : decode b_Size_setReduced 48 = .ok (.getfield 7, 3) := by decide +kernel
theorem d_Size_setReduced_51 : decode b_Size_setReduced 51 = .ok (.invokestatic 21, 3) := by decide +kernel
theorem d_Size_setReduced_54 : decode b_Size_setReduced 54 = .ok (.aload_n 0, 1) := by decide +kernel
theorem d_Size_setReduced_55 : decode b_Size_setReduced 55 = .ok (.getfield 13, 3) := by decide +kernel
theorem d_Size_setReduced_58 : decode b_Size_setReduced 58 = .ok (.iadd, 1) := by decide +kernel
theorem d_Size_setReduced_59 : decode b_Size_setReduced 59 = .ok (.sipush 1024, 3) := by decide +kernel
theorem d_Size_setReduced_62 : decode b_Size_setReduced 62 = .ok (.if_icmp .le 7, 3) := by decide +kernel
theorem d_Size_setReduced_65 : decode b_Size_setReduced 65 = .ok (.aload_n 0, 1) := by decide +kernel
theorem d_Size_setReduced_66 : decode b_Size_setReduced 66 = .ok (.invokevirtual 42, 3) := by decide +kernel
theorem d_Size_setReduced_69 : decode b_Size_setReduced 69 = .ok (.return_, 1) := by decide +kernel
theorem d_Size_setNearest_0 : decode b_Size_setNearest 0 = .ok (.lload_n 1, 1) := by decide +kernel
theorem d_Size_setNearest_1 : decode b_Size_setNearest 1 = .ok (.invokestatic 21, 3) := by decide +kernel
theorem d_Size_setNearest_4 : decode b_Size_setNearest 4 = .ok (.bipush 53, 2) := by decide +kernel
theorem d_Size_setNearest_6 : decode b_Size_setNearest 6 = .ok (.isub, 1) := by decide +kernel
theorem d_Size_setNearest_7 : decode b_Size_setNearest 7 = .ok (.sipush (-1074), 3) := by decide +kernel
theorem d_Size_setNearest_10 : decode b_Size_setNearest 10 = .ok (.iload 4, 2) := by decide +kernel
theorem d_Size_setNearest_12 : decode b_Size_setNearest 12 = .ok (.isub, 1) := by decide +kernel
theorem d_Size_setNearest_13 : decode b_Size_setNearest 13 = .ok (.invokestatic 27, 3) := by decide +kernel
theorem d_Size_setNearest_16 : decode b_Size_setNearest 16 = .ok (.istore 5, 2) := by decide +kernel
theorem d_Size_setNearest_18 : decode b_Size_setNearest 18 = .ok (.iload 5, 2) := by decide +kernel
theorem d_Size_setNearest_20 : decode b_Size_setNearest 20 = .ok (.ifCond .gt 13, 3) := by decide +kernel
theorem d_Size_setNearest_23 : decode b_Size_setNearest 23 = .ok (.aload_n 0, 1) := by decide +kernel
theorem d_Size_setNearest_24 : decode b_Size_setNearest 24 = .ok (.lload_n 1, 1) := by decide +kernel
theorem d_Size_setNearest_25 : decode b_Size_setNearest 25 = .ok (.iload 4, 2) := by decide +kernel
theorem d_Size_setNearest_27 : decode b_Size_setNearest 27 = .ok (.invokevirtual 33, 3) := by decide +kernel
theorem d_Size_setNearest_30 : decode b_Size_setNearest 30 = .ok (.goto 102, 3) := by decide +kernel
theorem d_Size_setNearest_33 : decode b_Size_setNearest 33 = .ok (.iload 5, 2) := by decide +kernel
theorem d_Size_setNearest_35 : decode b_Size_setNearest 35 = .ok (.bipush 63, 2) := by decide +kernel
theorem d_Size_setNearest_37 : decode b_Size_setNearest 37 = .ok (.if_icmp .le 12, 3) := by decide +kernel
theorem d_Size_setNearest_40 : decode b_Size_setNearest 40 = .ok (.aload_n 0, 1) := by decide +kernel
theorem d_Size_setNearest_41 : decode b_Size_setNearest 41 = .ok (.lconst 0, 1) := by decide +kernel
theorem d_Size_setNearest_42 : decode b_Size_setNearest 42 = .ok (.iconst 0, 1) := by decide +kernel
theorem d_Size_setNearest_43 : decode b_Size_setNearest 43 = .ok (.invokevirtual 33, 3) := by decide +kernel
theorem d_Size_setNearest_46 : decode b_Size_setNearest 46 = .ok (.goto 86, 3) := by decide +kernel
theorem d_Size_setNearest_49 : decode b_Size_setNearest 49 = .ok (.lload_n 1, 1) := by decide +kernel
theorem d_Size_setNearest_50 : decode b_Size_setNearest 50 = .ok (.iload 5, 2) := by decide +kernel
theorem d_Size_setNearest_52 : decode b_Size_setNearest 52 = .ok (.lushr, 1) := by decide +kernel
theorem d_Size_setNearest_53 : decode b_Size_setNearest 53 = .ok (.lstore 6, 2) := by decide +kernel
theorem d_Size_setNearest_55 : decode b_Size_setNearest 55 = .ok (.lload_n 1, 1) := by decide +kernel
theorem d_Size_setNearest_56 : decode b_Size_setNearest 56 = .ok (.lconst 1, 1) := by decide +kernel
theorem d_Size_setNearest_57 : decode b_Size_setNearest 57 = .ok (.iload 5, 2) := by decide +kernel
theorem d_Size_setNearest_59 : decode b_Size_setNearest 59 = .ok (.lshl, 1) := by decide +kernel
theorem d_Size_setNearest_60 : decode b_Size_setNearest 60 = .ok (.lconst 1, 1) := by decide +kernel
theorem d_Size_setNearest_61 : decode b_Size_setNearest 61 = .ok (.lsub, 1) := by decide +kernel
theorem d_Size_setNearest_62 : decode b_Size_setNearest 62 = .ok (.land, 1) := by decide +kernel
theorem d_Size_setNearest_63 : decode b_Size_setNearest 63 = .ok (.lstore 8, 2) := by decide +kernel
theorem d_Size_setNearest_65 : decode b_Size_setNearest 65 = .ok (.lconst 1, 1) := by decide +kernel
theorem d_Size_setNearest_66 : decode b_Size_setNearest 66 = .ok (.iload 5, 2) := by decide +kernel
theorem d_Size_setNearest_68 : decode b_Size_setNearest 68 = .ok (.iconst 1, 1) := by decide +kernel
theorem d_Size_setNearest_69 : decode b_Size_setNearest 69 = .ok (.isub, 1) := by decide +kernel
theorem d_Size_setNearest_70 : decode b_Size_setNearest 70 = .ok (.lshl, 1) := by decide +kernel
theorem d_Size_setNearest_71 : decode b_Size_setNearest 71 = .ok (.lstore 10, 2) := by decide +kernel
theorem d_Size_setNearest_73 : decode b_Size_setNearest 73 = .ok (.lload 8, 2) := by decide +kernel
theorem d_Size_setNearest_75 : decode b_Size_setNearest 75 = .ok (.lload 10, 2) := by decide +kernel
theorem d_Size_setNearest_77 : decode b_Size_setNearest 77 = .ok (.lcmp, 1) := by decide +kernel
theorem d_Size_setNearest_78 : decode b_Size_setNearest 78 = .ok (.ifCond .gt 24, 3) := by decide +kernel
theorem d_Size_setNearest_81 : decode b_Size_setNearest 81 = .ok (.lload 8, 2) := by decide +kernel
theorem d_Size_setNearest_83 : decode b_Size_setNearest 83 = .ok (.lload 10, 2) := by decide +kernel
theorem d_Size_setNearest_85 : decode b_Size_setNearest 85 = .ok (.lcmp, 1) := by decide +kernel
theorem d_Size_setNearest_86 : decode b_Size_setNearest 86 = .ok (.ifCond .ne 20, 3) := by decide +kernel
theorem d_Size_setNearest_89 : decode b_Size_setNearest 89 = .ok (.iload_n 3, 1) := by decide +kernel
theorem d_Size_setNearest_90 : decode b_Size_setNearest 90 = .ok (.ifCond .ne 12, 3) := by decide +kernel
theorem d_Size_setNearest_93 : decode b_Size_setNearest 93 = .ok (.lload 6, 2) := by decide +kernel
theorem d_Size_setNearest_95 : decode b_Size_setNearest 95 = .ok (.lconst 1, 1) := by decide +kernel
theorem d_Size_setNearest_96 : decode b_Size_setNearest 96 = .ok (.land, 1) := by decide +kernel
theorem d_Size_setNearest_97 : decode b_Size_setNearest 97 = .ok (.lconst 1, 1) := by decide +kernel
theorem d_Size_setNearest_98 : decode b_Size_setNearest 98 = .ok (.lcmp, 1) := by decide +kernel
theorem d_Size_setNearest_99 : decode b_Size_setNearest 99 = .ok (.ifCond .ne 7, 3) := by decide +kernel
theorem d_Size_setNearest_102 : decode b_Size_setNearest 102 = .ok (.iconst 1, 1) := by decide +kernel
theorem d_Size_setNearest_103 : decode b_Size_setNearest 103 = .ok (.goto 4, 3) := by decide +kernel
theorem d_Size_setNearest_106 : decode b_Size_setNearest 106 = .ok (.iconst 0, 1) := by decide +kernel
theorem d_Size_setNearest_107 : decode b_Size_setNearest 107 = .ok (.istore 12, 2) := by decide +kernel
theorem d_Size_setNearest_109 : decode b_Size_setNearest 109 = .ok (.aload_n 0, 1) := by decide +kernel
theorem d_Size_setNearest_110 : decode b_Size_setNearest 110 = .ok (.iload 12, 2) := by decide +kernel
theorem d_Size_setNearest_112 : decode b_Size_setNearest 112 = .ok (.ifCond .eq 10, 3) := by decide +kernel
theorem d_Size_setNearest_115 : decode b_Size_setNearest 115 = .ok (.lload 6, 2) := by decide +kernel
theorem d_Size_setNearest_117 : decode b_Size_setNearest 117 = .ok (.lconst 1, 1) := by decide +kernel
theorem d_Size_setNearest_118 : decode b_Size_setNearest 118 = .ok (.ladd, 1) := by decide +kernel
theorem d_Size_setNearest_119 : decode b_Size_setNearest 119 = .ok (.goto 5, 3) := by decide +kernel
theorem d_Size_setNearest_122 : decode b_Size_setNearest 122 = .ok (.lload 6, 2) := by decide +kernel
theorem d_Size_setNearest_124 : decode b_Size_setNearest 124 = .ok (.iload 4, 2) := by decide +kernel
theorem d_Size_setNearest_126 : decode b_Size_setNearest 126 = .ok (.iload 5, 2) := by decide +kernel
theorem d_Size_setNearest_128 : decode b_Size_setNearest 128 = .ok (.iadd, 1) := by decide +kernel
theorem d_Size_setNearest_129 : decode b_Size_setNearest 129 = .ok (.invokevirtual 33, 3) := by decide +kernel
theorem d_Size_setNearest_132 : decode b_Size_setNearest 132 = .ok (.return_, 1) := by decide +kernel
