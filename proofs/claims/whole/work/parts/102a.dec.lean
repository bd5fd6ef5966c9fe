theorem d_Numeral_findSizeOf16_0 : decode b_Numeral_findSizeOf16 0 = .ok (.lconst 0, 1) := by decide +kernel
theorem d_Numeral_findSizeOf16_1 : decode b_Numeral_findSizeOf16 1 = .ok (.lstore_n 2, 1) := by decide +kernel
theorem d_Numeral_findSizeOf16_2 : decode b_Numeral_findSizeOf16 2 = .ok (.iconst 0, 1) := by decide +kernel
theorem d_Numeral_findSizeOf16_3 : decode b_Numeral_findSizeOf16 3 = .ok (.istore 4, 2) := by decide +kernel
theorem d_Numeral_findSizeOf16_5 : decode b_Numeral_findSizeOf16 5 = .ok (.iconst 0, 1) := by decide +kernel
theorem d_Numeral_findSizeOf16_6 : decode b_Numeral_findSizeOf16 6 = .ok (.istore 5, 2) := by decide +kernel
theorem d_Numeral_findSizeOf16_8 : decode b_Numeral_findSizeOf16 8 = .ok (.iconst 0, 1) := by decide +kernel
theorem d_Numeral_findSizeOf16_9 : decode b_Numeral_findSizeOf16 9 = .ok (.istore 6, 2) := by decide +kernel
theorem d_Numeral_findSizeOf16_11 : decode b_Numeral_findSizeOf16 11 = .ok (.aload_n 0, 1) := by decide +kernel
theorem d_Numeral_findSizeOf16_12 : decode b_Numeral_findSizeOf16 12 = .ok (.getfield 61, 3) := by decide +kernel
theorem d_Numeral_findSizeOf16_15 : decode b_Numeral_findSizeOf16 15 = .ok (.istore 7, 2) := by decide +kernel
theorem d_Numeral_findSizeOf16_17 : decode b_Numeral_findSizeOf16 17 = .ok (.iload 7, 2) := by decide +kernel
theorem d_Numeral_findSizeOf16_19 : decode b_Numeral_findSizeOf16 19 = .ok (.aload_n 0, 1) := by decide +kernel
theorem d_Numeral_findSizeOf16_20 : decode b_Numeral_findSizeOf16 20 = .ok (.getfield 74, 3) := by decide +kernel
theorem d_Numeral_findSizeOf16_23 : decode b_Numeral_findSizeOf16 23 = .ok (.if_icmp .ge 86, 3) := by decide +kernel
theorem d_Numeral_findSizeOf16_26 : decode b_Numeral_findSizeOf16 26 = .ok (.aload_n 0, 1) := by decide +kernel
theorem d_Numeral_findSizeOf16_27 : decode b_Numeral_findSizeOf16 27 = .ok (.getfield 7, 3) := by decide +kernel
theorem d_Numeral_findSizeOf16_30 : decode b_Numeral_findSizeOf16 30 = .ok (.iload 7, 2) := by decide +kernel
theorem d_Numeral_findSizeOf16_32 : decode b_Numeral_findSizeOf16 32 = .ok (.invokevirtual 50, 3) := by decide +kernel
theorem d_Numeral_findSizeOf16_35 : decode b_Numeral_findSizeOf16 35 = .ok (.iconst 1, 1) := by decide +kernel
theorem d_Numeral_findSizeOf16_36 : decode b_Numeral_findSizeOf16 36 = .ok (.invokestatic 70, 3) := by decide +kernel
theorem d_Numeral_findSizeOf16_39 : decode b_Numeral_findSizeOf16 39 = .ok (.istore 8, 2) := by decide +kernel
theorem d_Numeral_findSizeOf16_41 : decode b_Numeral_findSizeOf16 41 = .ok (.iload 8, 2) := by decide +kernel
theorem d_Numeral_findSizeOf16_43 : decode b_Numeral_findSizeOf16 43 = .ok (.ifCond .ge 6, 3) := by decide +kernel
theorem d_Numeral_findSizeOf16_46 : decode b_Numeral_findSizeOf16 46 = .ok (.goto 57, 3) := by decide +kernel
theorem d_Numeral_findSizeOf16_49 : decode b_Numeral_findSizeOf16 49 = .ok (.iload 4, 2) := by decide +kernel
theorem d_Numeral_findSizeOf16_51 : decode b_Numeral_findSizeOf16 51 = .ok (.bipush 15, 2) := by decide +kernel
theorem d_Numeral_findSizeOf16_53 : decode b_Numeral_findSizeOf16 53 = .ok (.if_icmp .ge 30, 3) := by decide +kernel
theorem d_Numeral_findSizeOf16_56 : decode b_Numeral_findSizeOf16 56 = .ok (.lload_n 2, 1) := by decide +kernel
theorem d_Numeral_findSizeOf16_57 : decode b_Numeral_findSizeOf16 57 = .ok (.iconst 4, 1) := by decide +kernel
theorem d_Numeral_findSizeOf16_58 : decode b_Numeral_findSizeOf16 58 = .ok (.lshl, 1) := by decide +kernel
theorem d_Numeral_findSizeOf16_59 : decode b_Numeral_findSizeOf16 59 = .ok (.iload 8, 2) := by decide +kernel
theorem d_Numeral_findSizeOf16_61 : decode b_Numeral_findSizeOf16 61 = .ok (.i2l, 1) := by decide +kernel
theorem d_Numeral_findSizeOf16_62 : decode b_Numeral_findSizeOf16 62 = .ok (.ladd, 1) := by decide +kernel
theorem d_Numeral_findSizeOf16_63 : decode b_Numeral_findSizeOf16 63 = .ok (.lstore_n 2, 1) := by decide +kernel
theorem d_Numeral_findSizeOf16_64 : decode b_Numeral_findSizeOf16 64 = .ok (.iload 4, 2) := by decide +kernel
theorem d_Numeral_findSizeOf16_66 : decode b_Numeral_findSizeOf16 66 = .ok (.lload_n 2, 1) := by decide +kernel
theorem d_Numeral_findSizeOf16_67 : decode b_Numeral_findSizeOf16 67 = .ok (.lconst 0, 1) := by decide +kernel
theorem d_Numeral_findSizeOf16_68 : decode b_Numeral_findSizeOf16 68 = .ok (.lcmp, 1) := by decide +kernel
theorem d_Numeral_findSizeOf16_69 : decode b_Numeral_findSizeOf16 69 = .ok (.ifCond .le 7, 3) := by decide +kernel
theorem d_Numeral_findSizeOf16_72 : decode b_Numeral_findSizeOf16 72 = .ok (.iconst 1, 1) := by decide +kernel
theorem d_Numeral_findSizeOf16_73 : decode b_Numeral_findSizeOf16 73 = .ok (.goto 4, 3) := by decide +kernel
theorem d_Numeral_findSizeOf16_76 : decode b_Numeral_findSizeOf16 76 = .ok (.iconst 0, 1) := by decide +kernel
theorem d_Numeral_findSizeOf16_77 : decode b_Numeral_findSizeOf16 77 = .ok (.iadd, 1) := by decide +kernel
theorem d_Numeral_findSizeOf16_78 : decode b_Numeral_findSizeOf16 78 = .ok (.istore 4, 2) := by decide +kernel
theorem d_Numeral_findSizeOf16_80 : decode b_Numeral_findSizeOf16 80 = .ok (.goto 23, 3) := by decide +kernel
theorem d_Numeral_findSizeOf16_83 : decode b_Numeral_findSizeOf16 83 = .ok (.iinc 5 1, 3) := by decide +kernel
theorem d_Numeral_findSizeOf16_86 : decode b_Numeral_findSizeOf16 86 = .ok (.iload 6, 2) := by decide +kernel
theorem d_Numeral_findSizeOf16_88 : decode b_Numeral_findSizeOf16 88 = .ok (.ifCond .ne 8, 3) := by decide +kernel
theorem d_Numeral_findSizeOf16_91 : decode b_Numeral_findSizeOf16 91 = .ok (.iload 8, 2) := by decide +kernel
theorem d_Numeral_findSizeOf16_93 : decode b_Numeral_findSizeOf16 93 = .ok (.ifCond .le 7, 3) := by decide +kernel
theorem d_Numeral_findSizeOf16_96 : decode b_Numeral_findSizeOf16 96 = .ok (.iconst 1, 1) := by decide +kernel
theorem d_Numeral_findSizeOf16_97 : decode b_Numeral_findSizeOf16 97 = .ok (.goto 4, 3) := by decide +kernel
theorem d_Numeral_findSizeOf16_100 : decode b_Numeral_findSizeOf16 100 = .ok (.iconst 0, 1) := by decide +kernel
theorem d_Numeral_findSizeOf16_101 : decode b_Numeral_findSizeOf16 101 = .ok (.istore 6, 2) := by decide +kernel
theorem d_Numeral_findSizeOf16_103 : decode b_Numeral_findSizeOf16 103 = .ok (.iinc 7 1, 3) := by decide +kernel
theorem d_Numeral_findSizeOf16_106 : decode b_Numeral_findSizeOf16 106 = .ok (.goto (-89), 3) := by decide +kernel
theorem d_Numeral_findSizeOf16_109 : decode b_Numeral_findSizeOf16 109 = .ok (.aload_n 1, 1) := by decide +kernel
theorem d_Numeral_findSizeOf16_110 : decode b_Numeral_findSizeOf16 110 = .ok (.lload_n 2, 1) := by decide +kernel
theorem d_Numeral_findSizeOf16_111 : decode b_Numeral_findSizeOf16 111 = .ok (.iload 6, 2) := by decide +kernel
theorem d_Numeral_findSizeOf16_113 : decode b_Numeral_findSizeOf16 113 = .ok (.aload_n 0, 1) := by decide +kernel
theorem d_Numeral_findSizeOf16_114 : decode b_Numeral_findSizeOf16 114 = .ok (.getfield 77, 3) := by decide +kernel
theorem d_Numeral_findSizeOf16_117 : decode b_Numeral_findSizeOf16 117 = .ok (.iconst 4, 1) := by decide +kernel
theorem d_Numeral_findSizeOf16_118 : decode b_Numeral_findSizeOf16 118 = .ok (.iload 5, 2) := by decide +kernel
theorem d_Numeral_findSizeOf16_120 : decode b_Numeral_findSizeOf16 120 = .ok (.aload_n 0, 1) := by decide +kernel
theorem d_Numeral_findSizeOf16_121 : decode b_Numeral_findSizeOf16 121 = .ok (.getfield 38, 3) := by decide +kernel
theorem d_Numeral_findSizeOf16_124 : decode b_Numeral_findSizeOf16 124 = .ok (.aload_n 0, 1) := by decide +kernel
theorem d_Numeral_findSizeOf16_125 : decode b_Numeral_findSizeOf16 125 = .ok (.getfield 64, 3) := by decide +kernel
theorem d_Numeral_findSizeOf16_128 : decode b_Numeral_findSizeOf16 128 = .ok (.isub, 1) := by decide +kernel
theorem d_Numeral_findSizeOf16_129 : decode b_Numeral_findSizeOf16 129 = .ok (.isub, 1) := by decide +kernel
theorem d_Numeral_findSizeOf16_130 : decode b_Numeral_findSizeOf16 130 = .ok (.imul, 1) := by decide +kernel
theorem d_Numeral_findSizeOf16_131 : decode b_Numeral_findSizeOf16 131 = .ok (.iadd, 1) := by decide +kernel
theorem d_Numeral_findSizeOf16_132 : decode b_Numeral_findSizeOf16 132 = .ok (.invokevirtual 119, 3) := by decide +kernel
theorem d_Numeral_findSizeOf16_135 : decode b_Numeral_findSizeOf16 135 = .ok (.return_, 1) := by decide +kernel
theorem d_Decimal_setLimb_0 : decode b_Decimal_setLimb 0 = .ok (.iload_n 1, 1) := by decide +kernel
theorem d_Decimal_setLimb_1 : decode b_Decimal_setLimb 1 = .ok (.ifCond .lt 12, 3) := by decide +kernel
theorem d_Decimal_setLimb_4 : decode b_Decimal_setLimb 4 = .ok (.iload_n 1, 1) := by decide +kernel
theorem d_Decimal_setLimb_5 : decode b_Decimal_setLimb 5 = .ok (.aload_n 0, 1) := by decide +kernel
theorem d_Decimal_setLimb_6 : decode b_Decimal_setLimb 6 = .ok (.getfield 9, 3) := by decide +kernel
theorem d_Decimal_setLimb_9 : decode b_Decimal_setLimb 9 = .ok (.arraylength, 1) := by decide +kernel
theorem d_Decimal_setLimb_10 : decode b_Decimal_setLimb 10 = .ok (.if_icmp .lt 4, 3) := by decide +kernel
theorem d_Decimal_setLimb_13 : decode b_Decimal_setLimb 13 = .ok (.return_, 1) := by decide +kernel
theorem d_Decimal_setLimb_14 : decode b_Decimal_setLimb 14 = .ok (.aload_n 0, 1) := by decide +kernel
theorem d_Decimal_setLimb_15 : decode b_Decimal_setLimb 15 = .ok (.getfield 9, 3) := by decide +kernel
theorem d_Decimal_setLimb_18 : decode b_Decimal_setLimb 18 = .ok (.iload_n 1, 1) := by decide +kernel
theorem d_Decimal_setLimb_19 : decode b_Decimal_setLimb 19 = .ok (.iload_n 2, 1) := by decide +kernel
theorem d_Decimal_setLimb_20 : decode b_Decimal_setLimb 20 = .ok (.iastore, 1) := by decide +kernel
theorem d_Decimal_setLimb_21 : decode b_Decimal_setLimb 21 = .ok (.iload_n 1, 1) := by decide +kernel
theorem d_Decimal_setLimb_22 : decode b_Decimal_setLimb 22 = .ok (.aload_n 0, 1) := by decide +kernel
theorem d_Decimal_setLimb_23 : decode b_Decimal_setLimb 23 = .ok (.getfield 13, 3) := by decide +kernel
theorem d_Decimal_setLimb_26 : decode b_Decimal_setLimb 26 = .ok (.if_icmp .ge 8, 3) := by decide +kernel
theorem d_Decimal_setLimb_29 : decode b_Decimal_setLimb 29 = .ok (.aload_n 0, 1) := by decide +kernel
theorem d_Decimal_setLimb_30 : decode b_Decimal_setLimb 30 = .ok (.iload_n 1, 1) := by decide +kernel
theorem d_Decimal_setLimb_31 : decode b_Decimal_setLimb 31 = .ok (.putfield 13, 3) := by decide +kernel
theorem d_Decimal_setLimb_34 : decode b_Decimal_setLimb 34 = .ok (.iload_n 1, 1) := by decide +kernel
theorem d_Decimal_setLimb_35 : decode b_Decimal_setLimb 35 = .ok (.aload_n 0, 1) := by decide +kernel
theorem d_Decimal_setLimb_36 : decode b_Decimal_setLimb 36 = .ok (.getfield 17, 3) := by decide +kernel
theorem d_Decimal_setLimb_39 : decode b_Decimal_setLimb 39 = .ok (.if_icmp .le 8, 3) := by decide +kernel
theorem d_Decimal_setLimb_42 : decode b_Decimal_setLimb 42 = .ok (.aload_n 0, 1) := by decide +kernel
theorem d_Decimal_setLimb_43 : decode b_Decimal_setLimb 43 = .ok (.iload_n 1, 1) := by decide +kernel
theorem d_Decimal_setLimb_44 : decode b_Decimal_setLimb 44 = .ok (.putfield 17, 3) := by decide +kernel
theorem d_Decimal_setLimb_47 : decode b_Decimal_setLimb 47 = .ok (.return_, 1) := by decide +kernel
theorem d_Decimal_clear_0 : decode b_Decimal_clear 0 = .ok (.aload_n 0, 1) := by decide +kernel
theorem d_Decimal_clear_1 : decode b_Decimal_clear 1 = .ok (.getfield 13, 3) := by decide +kernel
theorem d_Decimal_clear_4 : decode b_Decimal_clear 4 = .ok (.istore_n 1, 1) := by decide +kernel
theorem d_Decimal_clear_5 : decode b_Decimal_clear 5 = .ok (.iload_n 1, 1) := by decide +kernel
theorem d_Decimal_clear_6 : decode b_Decimal_clear 6 = .ok (.aload_n 0, 1) := by decide +kernel
theorem d_Decimal_clear_7 : decode b_Decimal_clear 7 = .ok (.getfield 17, 3) := by decide +kernel
theorem d_Decimal_clear_10 : decode b_Decimal_clear 10 = .ok (.if_icmp .gt 15, 3) := by decide +kernel
theorem d_Decimal_clear_13 : decode b_Decimal_clear 13 = .ok (.aload_n 0, 1) := by decide +kernel
theorem d_Decimal_clear_14 : decode b_Decimal_clear 14 = .ok (.iload_n 1, 1) := by decide +kernel
theorem d_Decimal_clear_15 : decode b_Decimal_clear 15 = .ok (.iconst 0, 1) := by decide +kernel
theorem d_Decimal_clear_16 : decode b_Decimal_clear 16 = .ok (.invokevirtual 27, 3) := by decide +kernel
theorem d_Decimal_clear_19 : decode b_Decimal_clear 19 = .ok (.iinc 1 1, 3) := by decide +kernel
theorem d_Decimal_clear_22 : decode b_Decimal_clear 22 = .ok (.goto (-17), 3) := by decide +kernel
theorem d_Decimal_clear_25 : decode b_Decimal_clear 25 = .ok (.aload_n 0, 1) := by decide +kernel
theorem d_Decimal_clear_26 : decode b_Decimal_clear 26 = .ok (.bipush 35, 2) := by decide +kernel
theorem d_Decimal_clear_28 : decode b_Decimal_clear 28 = .ok (.putfield 13, 3) := by decide +kernel
theorem d_Decimal_clear_31 : decode b_Decimal_clear 31 = .ok (.aload_n 0, 1) := by decide +kernel
theorem d_Decimal_clear_32 : decode b_Decimal_clear 32 = .ok (.bipush 35, 2) := by decide +kernel
theorem d_Decimal_clear_34 : decode b_Decimal_clear 34 = .ok (.putfield 17, 3) := by decide +kernel
theorem d_Decimal_clear_37 : decode b_Decimal_clear 37 = .ok (.return_, 1) := by decide +kernel
theorem d_Decimal_limbOf_0 : decode b_Decimal_limbOf 0 = .ok (.sipush 243, 3) := by decide +kernel
theorem d_Decimal_limbOf_3 : decode b_Decimal_limbOf 3 = .ok (.iload_n 0, 1) := by decide +kernel
theorem d_Decimal_limbOf_4 : decode b_Decimal_limbOf 4 = .ok (.sipush 1872, 3) := by decide +kernel
theorem d_Decimal_limbOf_7 : decode b_Decimal_limbOf 7 = .ok (.iadd, 1) := by decide +kernel
theorem d_Decimal_limbOf_8 : decode b_Decimal_limbOf 8 = .ok (.bipush 9, 2) := by decide +kernel
theorem d_Decimal_limbOf_10 : decode b_Decimal_limbOf 10 = .ok (.idiv, 1) := by decide +kernel
theorem d_Decimal_limbOf_11 : decode b_Decimal_limbOf 11 = .ok (.isub, 1) := by decide +kernel
theorem d_Decimal_limbOf_12 : decode b_Decimal_limbOf 12 = .ok (.ireturn, 1) := by decide +kernel
theorem d_Decimal_limb_0 : decode b_Decimal_limb 0 = .ok (.iload_n 1, 1) := by decide +kernel
theorem d_Decimal_limb_1 : decode b_Decimal_limb 1 = .ok (.ifCond .lt 12, 3) := by decide +kernel
theorem d_Decimal_limb_4 : decode b_Decimal_limb 4 = .ok (.iload_n 1, 1) := by decide +kernel
theorem d_Decimal_limb_5 : decode b_Decimal_limb 5 = .ok (.aload_n 0, 1) := by decide +kernel
theorem d_Decimal_limb_6 : decode b_Decimal_limb 6 = .ok (.getfield 9, 3) := by decide +kernel
theorem d_Decimal_limb_9 : decode b_Decimal_limb 9 = .ok (.arraylength, 1) := by decide +kernel
theorem d_Decimal_limb_10 : decode b_Decimal_limb 10 = .ok (.if_icmp .lt 7, 3) := by decide +kernel
theorem d_Decimal_limb_13 : decode b_Decimal_limb 13 = .ok (.iconst 0, 1) := by decide +kernel
theorem d_Decimal_limb_14 : decode b_Decimal_limb 14 = .ok (.goto 9, 3) := by decide +kernel
theorem d_Decimal_limb_17 : decode b_Decimal_limb 17 = .ok (.aload_n 0, 1) := by decide +kernel
theorem d_Decimal_limb_18 : decode b_Decimal_limb 18 = .ok (.getfield 9, 3) := by decide +kernel
theorem d_Decimal_limb_21 : decode b_Decimal_limb 21 = .ok (.iload_n 1, 1) := by decide +kernel
theorem d_Decimal_limb_22 : decode b_Decimal_limb 22 = .ok (.iaload, 1) := by decide +kernel
theorem d_Decimal_limb_23 : decode b_Decimal_limb 23 = .ok (.ireturn, 1) := by decide +kernel
theorem d_Decimal_unitOf_0 : decode b_Decimal_unitOf 0 = .ok (.iload_n 0, 1) := by decide +kernel
theorem d_Decimal_unitOf_1 : decode b_Decimal_unitOf 1 = .ok (.sipush 1872, 3) := by decide +kernel
theorem d_Decimal_unitOf_4 : decode b_Decimal_unitOf 4 = .ok (.iadd, 1) := by decide +kernel
theorem d_Decimal_unitOf_5 : decode b_Decimal_unitOf 5 = .ok (.bipush 9, 2) := by decide +kernel
theorem d_Decimal_unitOf_7 : decode b_Decimal_unitOf 7 = .ok (.irem, 1) := by decide +kernel
theorem d_Decimal_unitOf_8 : decode b_Decimal_unitOf 8 = .ok (.istore_n 1, 1) := by decide +kernel
theorem d_Decimal_unitOf_9 : decode b_Decimal_unitOf 9 = .ok (.iload_n 1, 1) := by decide +kernel
theorem d_Decimal_unitOf_10 : decode b_Decimal_unitOf 10 = .ok (.ifCond .lt 11, 3) := by decide +kernel
theorem d_Decimal_unitOf_13 : decode b_Decimal_unitOf 13 = .ok (.iload_n 1, 1) := by decide +kernel
theorem d_Decimal_unitOf_14 : decode b_Decimal_unitOf 14 = .ok (.getstatic 20, 3) := by decide +kernel
theorem d_Decimal_unitOf_17 : decode b_Decimal_unitOf 17 = .ok (.arraylength, 1) := by decide +kernel
theorem d_Decimal_unitOf_18 : decode b_Decimal_unitOf 18 = .ok (.if_icmp .lt 7, 3) := by decide +kernel
theorem d_Decimal_unitOf_21 : decode b_Decimal_unitOf 21 = .ok (.iconst 1, 1) := by decide +kernel
theorem d_Decimal_unitOf_22 : decode b_Decimal_unitOf 22 = .ok (.goto 8, 3) := by decide +kernel
theorem d_Decimal_unitOf_25 : decode b_Decimal_unitOf 25 = .ok (.getstatic 20, 3) := by decide +kernel
theorem d_Decimal_unitOf_28 : decode b_Decimal_unitOf 28 = .ok (.iload_n 1, 1) := by decide +kernel
theorem d_Decimal_unitOf_29 : decode b_Decimal_unitOf 29 = .ok (.iaload, 1) := by decide +kernel
theorem d_Decimal_unitOf_30 : decode b_Decimal_unitOf 30 = .ok (.ireturn, 1) := by decide +kernel
theorem d_Decimal_trim_0 : decode b_Decimal_trim 0 = .ok (.aload_n 0, 1) := by decide +kernel
theorem d_Decimal_trim_1 : decode b_Decimal_trim 1 = .ok (.getfield 17, 3) := by decide +kernel
theorem d_Decimal_trim_4 : decode b_Decimal_trim 4 = .ok (.aload_n 0, 1) := by decide +kernel
theorem d_Decimal_trim_5 : decode b_Decimal_trim 5 = .ok (.getfield 13, 3) := by decide +kernel
theorem d_Decimal_trim_8 : decode b_Decimal_trim 8 = .ok (.if_icmp .le 27, 3) := by decide +kernel
theorem d_Decimal_trim_11 : decode b_Decimal_trim 11 = .ok (.aload_n 0, 1) := by decide +kernel
theorem d_Decimal_trim_12 : decode b_Decimal_trim 12 = .ok (.aload_n 0, 1) := by decide +kernel
theorem d_Decimal_trim_13 : decode b_Decimal_trim 13 = .ok (.getfield 17, 3) := by decide +kernel
theorem d_Decimal_trim_16 : decode b_Decimal_trim 16 = .ok (.invokevirtual 23, 3) := by decide +kernel
theorem d_Decimal_trim_19 : decode b_Decimal_trim 19 = .ok (.ifCond .ne 16, 3) := by decide +kernel
theorem d_Decimal_trim_22 : decode b_Decimal_trim 22 = .ok (.aload_n 0, 1) := by decide +kernel
theorem d_Decimal_trim_23 : decode b_Decimal_trim 23 = .ok (.dup, 1) := by decide +kernel
theorem d_Decimal_trim_24 : decode b_Decimal_trim 24 = .ok (.getfield 17, 3) := by decide +kernel
theorem d_Decimal_trim_27 : decode b_Decimal_trim 27 = .ok (.iconst 1, 1) := by decide +kernel
theorem d_Decimal_trim_28 : decode b_Decimal_trim 28 = .ok (.isub, 1) := by decide +kernel
theorem d_Decimal_trim_29 : decode b_Decimal_trim 29 = .ok (.putfield 17, 3) := by decide +kernel
theorem d_Decimal_trim_32 : decode b_Decimal_trim 32 = .ok (.goto (-32), 3) := by decide +kernel
theorem d_Decimal_trim_35 : decode b_Decimal_trim 35 = .ok (.aload_n 0, 1) := by decide +kernel
theorem d_Decimal_trim_36 : decode b_Decimal_trim 36 = .ok (.getfield 13, 3) := by decide +kernel
theorem d_Decimal_trim_39 : decode b_Decimal_trim 39 = .ok (.aload_n 0, 1) := by decide +kernel
theorem d_Decimal_trim_40 : decode b_Decimal_trim 40 = .ok (.getfield 17, 3) := by decide +kernel
theorem d_Decimal_trim_43 : decode b_Decimal_trim 43 = .ok (.if_icmp .ge 27, 3) := by decide +kernel
theorem d_Decimal_trim_46 : decode b_Decimal_trim 46 = .ok (.aload_n 0, 1) := by decide +kernel
theorem d_Decimal_trim_47 : decode b_Decimal_trim 47 = .ok (.aload_n 0, 1) := by decide +kernel
theorem d_Decimal_trim_48 : decode b_Decimal_trim 48 = .ok (.getfield 13, 3) := by decide +kernel
theorem d_Decimal_trim_51 : decode b_Decimal_trim 51 = .ok (.invokevirtual 23, 3) := by decide +kernel
theorem d_Decimal_trim_54 : decode b_Decimal_trim 54 = .ok (.ifCond .ne 16, 3) := by decide +kernel
theorem d_Decimal_trim_57 : decode b_Decimal_trim 57 = .ok (.aload_n 0, 1) := by decide +kernel
theorem d_Decimal_trim_58 : decode b_Decimal_trim 58 = .ok (.dup, 1) := by decide +kernel
theorem d_Decimal_trim_59 : decode b_Decimal_trim 59 = .ok (.getfield 13, 3) := by decide +kernel
theorem d_Decimal_trim_62 : decode b_Decimal_trim 62 = .ok (.iconst 1, 1) := by decide +kernel
theorem d_Decimal_trim_63 : decode b_Decimal_trim 63 = .ok (.iadd, 1) := by decide +kernel
theorem d_Decimal_trim_64 : decode b_Decimal_trim 64 = .ok (.putfield 13, 3) := by decide +kernel
theorem d_Decimal_trim_67 : decode b_Decimal_trim 67 = .ok (.goto (-32), 3) := by decide +kernel
theorem d_Decimal_trim_70 : decode b_Decimal_trim 70 = .ok (.return_, 1) := by decide +kernel
theorem d_Decimal_addAt_0 : decode b_Decimal_addAt 0 = .ok (.iload_n 1, 1) := by decide +kernel
theorem d_Decimal_addAt_1 : decode b_Decimal_addAt 1 = .ok (.invokestatic 34, 3) := by decide +kernel
theorem d_Decimal_addAt_4 : decode b_Decimal_addAt 4 = .ok (.istore_n 3, 1) := by decide +kernel
theorem d_Decimal_addAt_5 : decode b_Decimal_addAt 5 = .ok (.aload_n 0, 1) := by decide +kernel
theorem d_Decimal_addAt_6 : decode b_Decimal_addAt 6 = .ok (.iload_n 3, 1) := by decide +kernel
theorem d_Decimal_addAt_7 : decode b_Decimal_addAt 7 = .ok (.invokevirtual 23, 3) := by decide +kernel
theorem d_Decimal_addAt_10 : decode b_Decimal_addAt 10 = .ok (.iload_n 2, 1) := by decide +kernel
theorem d_Decimal_addAt_11 : decode b_Decimal_addAt 11 = .ok (.iload_n 1, 1) := by decide +kernel
theorem d_Decimal_addAt_12 : decode b_Decimal_addAt 12 = .ok (.invokestatic 31, 3) := by decide +kernel
theorem d_Decimal_addAt_15 : decode b_Decimal_addAt 15 = .ok (.imul, 1) := by decide +kernel
theorem d_Decimal_addAt_16 : decode b_Decimal_addAt 16 = .ok (.iadd, 1) := by decide +kernel
theorem d_Decimal_addAt_17 : decode b_Decimal_addAt 17 = .ok (.istore 4, 2) := by decide +kernel
theorem d_Decimal_addAt_19 : decode b_Decimal_addAt 19 = .ok (.iconst 0, 1) := by decide +kernel
theorem d_Decimal_addAt_20 : decode b_Decimal_addAt 20 = .ok (.istore 5, 2) := by decide +kernel
theorem d_Decimal_addAt_22 : decode b_Decimal_addAt 22 = .ok (.iload 5, 2) := by decide +kernel
theorem d_Decimal_addAt_24 : decode b_Decimal_addAt 24 = .ok (.sipush 208, 3) := by decide +kernel
theorem d_Decimal_addAt_27 : decode b_Decimal_addAt 27 = .ok (.if_icmp .ge 38, 3) := by decide +kernel
theorem d_Decimal_addAt_30 : decode b_Decimal_addAt 30 = .ok (.iload 4, 2) := by decide +kernel
theorem d_Decimal_addAt_32 : decode b_Decimal_addAt 32 = .ok (.ldc 37, 2) := by decide +kernel
theorem d_Decimal_addAt_34 : decode b_Decimal_addAt 34 = .ok (.if_icmp .lt 31, 3) := by decide +kernel
theorem d_Decimal_addAt_37 : decode b_Decimal_addAt 37 = .ok (.aload_n 0, 1) := by decide +kernel
theorem d_Decimal_addAt_38 : decode b_Decimal_addAt 38 = .ok (.iload_n 3, 1) := by decide +kernel
theorem d_Decimal_addAt_39 : decode b_Decimal_addAt 39 = .ok (.iload 4, 2) := by decide +kernel
theorem d_Decimal_addAt_41 : decode b_Decimal_addAt 41 = .ok (.ldc 37, 2) := by decide +kernel
theorem d_Decimal_addAt_43 : decode b_Decimal_addAt 43 = .ok (.isub, 1) := by decide +kernel
theorem d_Decimal_addAt_44 : decode b_Decimal_addAt 44 = .ok (.invokevirtual 27, 3) := by decide +kernel
theorem d_Decimal_addAt_47 : decode b_Decimal_addAt 47 = .ok (.iinc 3 (-1), 3) := by decide +kernel
theorem d_Decimal_addAt_50 : decode b_Decimal_addAt 50 = .ok (.aload_n 0, 1) := by decide +kernel
theorem d_Decimal_addAt_51 : decode b_Decimal_addAt 51 = .ok (.iload_n 3, 1) := by decide +kernel
theorem d_Decimal_addAt_52 : decode b_Decimal_addAt 52 = .ok (.invokevirtual 23, 3) := by decide +kernel
theorem d_Decimal_addAt_55 : decode b_Decimal_addAt 55 = .ok (.iconst 1, 1) := by decide +kernel
theorem d_Decimal_addAt_56 : decode b_Decimal_addAt 56 = .ok (.iadd, 1) := by decide +kernel
theorem d_Decimal_addAt_57 : decode b_Decimal_addAt 57 = .ok (.istore 4, 2) := by decide +kernel
theorem d_Decimal_addAt_59 : decode b_Decimal_addAt 59 = .ok (.iinc 5 1, 3) := by decide +kernel
theorem d_Decimal_addAt_62 : decode b_Decimal_addAt 62 = .ok (.goto (-40), 3) := by decide +kernel
theorem d_Decimal_addAt_65 : decode b_Decimal_addAt 65 = .ok (.aload_n 0, 1) := by decide +kernel
theorem d_Decimal_addAt_66 : decode b_Decimal_addAt 66 = .ok (.iload_n 3, 1) := by decide +kernel
theorem d_Decimal_addAt_67 : decode b_Decimal_addAt 67 = .ok (.iload 4, 2) := by decide +kernel
theorem d_Decimal_addAt_69 : decode b_Decimal_addAt 69 = .ok (.invokevirtual 27, 3) := by decide +kernel
theorem d_Decimal_addAt_72 : decode b_Decimal_addAt 72 = .ok (.aload_n 0, 1) := by decide +kernel
theorem d_Decimal_addAt_73 : decode b_Decimal_addAt 73 = .ok (.invokevirtual 38, 3) := by decide +kernel
theorem d_Decimal_addAt_76 : decode b_Decimal_addAt 76 = .ok (.return_, 1) := by decide +kernel
theorem d_Numeral_putDigits_0 : decode b_Numeral_putDigits 0 = .ok (.aload_n 0, 1) := by decide +kernel
theorem d_Numeral_putDigits_1 : decode b_Numeral_putDigits 1 = .ok (.getfield 64, 3) := by decide +kernel
theorem d_Numeral_putDigits_4 : decode b_Numeral_putDigits 4 = .ok (.iconst 1, 1) := by decide +kernel
theorem d_Numeral_putDigits_5 : decode b_Numeral_putDigits 5 = .ok (.isub, 1) := by decide +kernel
theorem d_Numeral_putDigits_6 : decode b_Numeral_putDigits 6 = .ok (.aload_n 0, 1) := by decide +kernel
theorem d_Numeral_putDigits_7 : decode b_Numeral_putDigits 7 = .ok (.getfield 77, 3) := by decide +kernel
theorem d_Numeral_putDigits_10 : decode b_Numeral_putDigits 10 = .ok (.iadd, 1) := by decide +kernel
theorem d_Numeral_putDigits_11 : decode b_Numeral_putDigits 11 = .ok (.istore_n 2, 1) := by decide +kernel
theorem d_Numeral_putDigits_12 : decode b_Numeral_putDigits 12 = .ok (.aload_n 1, 1) := by decide +kernel
theorem d_Numeral_putDigits_13 : decode b_Numeral_putDigits 13 = .ok (.invokevirtual 112, 3) := by decide +kernel
theorem d_Numeral_putDigits_16 : decode b_Numeral_putDigits 16 = .ok (.aload_n 0, 1) := by decide +kernel
theorem d_Numeral_putDigits_17 : decode b_Numeral_putDigits 17 = .ok (.getfield 61, 3) := by decide +kernel
theorem d_Numeral_putDigits_20 : decode b_Numeral_putDigits 20 = .ok (.istore_n 3, 1) := by decide +kernel
theorem d_Numeral_putDigits_21 : decode b_Numeral_putDigits 21 = .ok (.iload_n 3, 1) := by decide +kernel
theorem d_Numeral_putDigits_22 : decode b_Numeral_putDigits 22 = .ok (.aload_n 0, 1) := by decide +kernel
theorem d_Numeral_putDigits_23 : decode b_Numeral_putDigits 23 = .ok (.getfield 74, 3) := by decide +kernel
theorem d_Numeral_putDigits_26 : decode b_Numeral_putDigits 26 = .ok (.if_icmp .ge 57, 3) := by decide +kernel
theorem d_Numeral_putDigits_29 : decode b_Numeral_putDigits 29 = .ok (.aload_n 0, 1) := by decide +kernel
theorem d_Numeral_putDigits_30 : decode b_Numeral_putDigits 30 = .ok (.getfield 7, 3) := by decide +kernel
theorem d_Numeral_putDigits_33 : decode b_Numeral_putDigits 33 = .ok (.iload_n 3, 1) := by decide +kernel
theorem d_Numeral_putDigits_34 : decode b_Numeral_putDigits 34 = .ok (.invokevirtual 50, 3) := by decide +kernel
theorem d_Numeral_putDigits_37 : decode b_Numeral_putDigits 37 = .ok (.iconst 0, 1) := by decide +kernel
theorem d_Numeral_putDigits_38 : decode b_Numeral_putDigits 38 = .ok (.invokestatic 70, 3) := by decide +kernel
theorem d_Numeral_putDigits_41 : decode b_Numeral_putDigits 41 = .ok (.istore 4, 2) := by decide +kernel
theorem d_Numeral_putDigits_43 : decode b_Numeral_putDigits 43 = .ok (.iload 4, 2) := by decide +kernel
theorem d_Numeral_putDigits_45 : decode b_Numeral_putDigits 45 = .ok (.ifCond .le 12, 3) := by decide +kernel
theorem d_Numeral_putDigits_48 : decode b_Numeral_putDigits 48 = .ok (.iload_n 2, 1) := by decide +kernel
theorem d_Numeral_putDigits_49 : decode b_Numeral_putDigits 49 = .ok (.sipush 309, 3) := by decide +kernel
theorem d_Numeral_putDigits_52 : decode b_Numeral_putDigits 52 = .ok (.if_icmp .le 5, 3) := by decide +kernel
theorem d_Numeral_putDigits_55 : decode b_Numeral_putDigits 55 = .ok (.iconst 0, 1) := by decide +kernel
theorem d_Numeral_putDigits_56 : decode b_Numeral_putDigits 56 = .ok (.ireturn, 1) := by decide +kernel
theorem d_Numeral_putDigits_57 : decode b_Numeral_putDigits 57 = .ok (.iload 4, 2) := by decide +kernel
theorem d_Numeral_putDigits_59 : decode b_Numeral_putDigits 59 = .ok (.ifCond .le 10, 3) := by decide +kernel
theorem d_Numeral_putDigits_62 : decode b_Numeral_putDigits 62 = .ok (.aload_n 1, 1) := by decide +kernel
theorem d_Numeral_putDigits_63 : decode b_Numeral_putDigits 63 = .ok (.iload_n 2, 1) := by decide +kernel
theorem d_Numeral_putDigits_64 : decode b_Numeral_putDigits 64 = .ok (.iload 4, 2) := by decide +kernel
theorem d_Numeral_putDigits_66 : decode b_Numeral_putDigits 66 = .ok (.invokevirtual 115, 3) := by decide +kernel
theorem d_Numeral_putDigits_69 : decode b_Numeral_putDigits 69 = .ok (.iload 4, 2) := by decide +kernel
theorem d_Numeral_putDigits_71 : decode b_Numeral_putDigits 71 = .ok (.ifCond .lt 6, 3) := by decide +kernel
theorem d_Numeral_putDigits_74 : decode b_Numeral_putDigits 74 = .ok (.iinc 2 (-1), 3) := by decide +kernel
theorem d_Numeral_putDigits_77 : decode b_Numeral_putDigits 77 = .ok (.iinc 3 1, 3) := by decide +kernel
theorem d_Numeral_putDigits_80 : decode b_Numeral_putDigits 80 = .ok (.goto (-59), 3) := by decide +kernel
theorem d_Numeral_putDigits_83 : decode b_Numeral_putDigits 83 = .ok (.iconst 1, 1) := by decide +kernel
theorem d_Numeral_putDigits_84 : decode b_Numeral_putDigits 84 = .ok (.ireturn, 1) := by decide +kernel
theorem d_Decimal_divide_0 : decode b_Decimal_divide 0 = .ok (.lconst 1, 1) := by decide +kernel
theorem d_Decimal_divide_1 : decode b_Decimal_divide 1 = .ok (.iload_n 1, 1) := by decide +kernel
theorem d_Decimal_divide_2 : decode b_Decimal_divide 2 = .ok (.lshl, 1) := by decide +kernel
theorem d_Decimal_divide_3 : decode b_Decimal_divide 3 = .ok (.lconst 1, 1) := by decide +kernel
theorem d_Decimal_divide_4 : decode b_Decimal_divide 4 = .ok (.lsub, 1) := by decide +kernel
theorem d_Decimal_divide_5 : decode b_Decimal_divide 5 = .ok (.lstore_n 2, 1) := by decide +kernel
theorem d_Decimal_divide_6 : decode b_Decimal_divide 6 = .ok (.lconst 0, 1) := by decide +kernel
theorem d_Decimal_divide_7 : decode b_Decimal_divide 7 = .ok (.lstore 4, 2) := by decide +kernel
theorem d_Decimal_divide_9 : decode b_Decimal_divide 9 = .ok (.aload_n 0, 1) := by decide +kernel
theorem d_Decimal_divide_10 : decode b_Decimal_divide 10 = .ok (.getfield 13, 3) := by decide +kernel
theorem d_Decimal_divide_13 : decode b_Decimal_divide 13 = .ok (.istore 6, 2) := by decide +kernel
theorem d_Decimal_divide_15 : decode b_Decimal_divide 15 = .ok (.iload 6, 2) := by decide +kernel
theorem d_Decimal_divide_17 : decode b_Decimal_divide 17 = .ok (.ifCond .lt 70, 3) := by decide +kernel
theorem d_Decimal_divide_20 : decode b_Decimal_divide 20 = .ok (.iload 6, 2) := by decide +kernel
theorem d_Decimal_divide_22 : decode b_Decimal_divide 22 = .ok (.aload_n 0, 1) := by decide +kernel
theorem d_Decimal_divide_23 : decode b_Decimal_divide 23 = .ok (.getfield 9, 3) := by decide +kernel
theorem d_Decimal_divide_26 : decode b_Decimal_divide 26 = .ok (.arraylength, 1) := by decide +kernel
theorem d_Decimal_divide_27 : decode b_Decimal_divide 27 = .ok (.if_icmp .ge 60, 3) := by decide +kernel
theorem d_Decimal_divide_30 : decode b_Decimal_divide 30 = .ok (.iload 6, 2) := by decide +kernel
theorem d_Decimal_divide_32 : decode b_Decimal_divide 32 = .ok (.aload_n 0, 1) := by decide +kernel
theorem d_Decimal_divide_33 : decode b_Decimal_divide 33 = .ok (.getfield 17, 3) := by decide +kernel
theorem d_Decimal_divide_36 : decode b_Decimal_divide 36 = .ok (.if_icmp .le 10, 3) := by decide +kernel
theorem d_Decimal_divide_39 : decode b_Decimal_divide 39 = .ok (.lload 4, 2) := by decide +kernel
theorem d_Decimal_divide_41 : decode b_Decimal_divide 41 = .ok (.lconst 0, 1) := by decide +kernel
theorem d_Decimal_divide_42 : decode b_Decimal_divide 42 = .ok (.lcmp, 1) := by decide +kernel
theorem d_Decimal_divide_43 : decode b_Decimal_divide 43 = .ok (.ifCond .le 44, 3) := by decide +kernel
theorem d_Decimal_divide_46 : decode b_Decimal_divide 46 = .ok (.lload 4, 2) := by decide +kernel
theorem d_Decimal_divide_48 : decode b_Decimal_divide 48 = .ok (.ldc2_w 67, 3) := by decide +kernel
theorem d_Decimal_divide_51 : decode b_Decimal_divide 51 = .ok (.lmul, 1) := by decide +kernel
theorem d_Decimal_divide_52 : decode b_Decimal_divide 52 = .ok (.aload_n 0, 1) := by decide +kernel
theorem d_Decimal_divide_53 : decode b_Decimal_divide 53 = .ok (.getfield 9, 3) := by decide +kernel
theorem d_Decimal_divide_56 : decode b_Decimal_divide 56 = .ok (.iload 6, 2) := by decide +kernel
theorem d_Decimal_divide_58 : decode b_Decimal_divide 58 = .ok (.iaload, 1) := by decide +kernel
theorem d_Decimal_divide_59 : decode b_Decimal_divide 59 = .ok (.i2l, 1) := by decide +kernel
theorem d_Decimal_divide_60 : decode b_Decimal_divide 60 = .ok (.ladd, 1) := by decide +kernel
theorem d_Decimal_divide_61 : decode b_Decimal_divide 61 = .ok (.lstore 7, 2) := by decide +kernel
theorem d_Decimal_divide_63 : decode b_Decimal_divide 63 = .ok (.aload_n 0, 1) := by decide +kernel
theorem d_Decimal_divide_64 : decode b_Decimal_divide 64 = .ok (.getfield 9, 3) := by decide +kernel
theorem d_Decimal_divide_67 : decode b_Decimal_divide 67 = .ok (.iload 6, 2) := by decide +kernel
theorem d_Decimal_divide_69 : decode b_Decimal_divide 69 = .ok (.lload 7, 2) := by decide +kernel
theorem d_Decimal_divide_71 : decode b_Decimal_divide 71 = .ok (.iload_n 1, 1) := by decide +kernel
theorem d_Decimal_divide_72 : decode b_Decimal_divide 72 = .ok (.lushr, 1) := by decide +kernel
theorem d_Decimal_divide_73 : decode b_Decimal_divide 73 = .ok (.l2i, 1) := by decide +kernel
theorem d_Decimal_divide_74 : decode b_Decimal_divide 74 = .ok (.iastore, 1) := by decide +kernel
theorem d_Decimal_divide_75 : decode b_Decimal_divide 75 = .ok (.lload 7, 2) := by decide +kernel
theorem d_Decimal_divide_77 : decode b_Decimal_divide 77 = .ok (.lload_n 2, 1) := by decide +kernel
theorem d_Decimal_divide_78 : decode b_Decimal_divide 78 = .ok (.land, 1) := by decide +kernel
theorem d_Decimal_divide_79 : decode b_Decimal_divide 79 = .ok (.lstore 4, 2) := by decide +kernel
theorem d_Decimal_divide_81 : decode b_Decimal_divide 81 = .ok (.iinc 6 1, 3) := by decide +kernel
theorem d_Decimal_divide_84 : decode b_Decimal_divide 84 = .ok (.goto (-69), 3) := by decide +kernel
theorem d_Decimal_divide_87 : decode b_Decimal_divide 87 = .ok (.aload_n 0, 1) := by decide +kernel
theorem d_Decimal_divide_88 : decode b_Decimal_divide 88 = .ok (.aload_n 0, 1) := by decide +kernel
theorem d_Decimal_divide_89 : decode b_Decimal_divide 89 = .ok (.getfield 17, 3) := by decide +kernel
theorem d_Decimal_divide_92 : decode b_Decimal_divide 92 = .ok (.iload 6, 2) := by decide +kernel
theorem d_Decimal_divide_94 : decode b_Decimal_divide 94 = .ok (.iconst 1, 1) := by decide +kernel
theorem d_Decimal_divide_95 : decode b_Decimal_divide 95 = .ok (.isub, 1) := by decide +kernel
theorem d_Decimal_divide_96 : decode b_Decimal_divide 96 = .ok (.invokestatic 41, 3) := by decide +kernel
theorem d_Decimal_divide_99 : decode b_Decimal_divide 99 = .ok (.putfield 17, 3) := by decide +kernel
theorem d_Decimal_divide_102 : decode b_Decimal_divide 102 = .ok (.aload_n 0, 1) := by decide +kernel
theorem d_Decimal_divide_103 : decode b_Decimal_divide 103 = .ok (.invokevirtual 38, 3) := by decide +kernel
theorem d_Decimal_divide_106 : decode b_Decimal_divide 106 = .ok (.return_, 1) := by decide +kernel
