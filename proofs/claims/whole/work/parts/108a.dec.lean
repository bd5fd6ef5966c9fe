theorem d_N_isWhole64_0 : decode b_N_isWhole64 0 = .ok (.aload_n 0, 1) := by decide +kernel
theorem d_N_isWhole64_1 : decode b_N_isWhole64 1 = .ok (.getfield 61, 3) := by decide +kernel
theorem d_N_isWhole64_4 : decode b_N_isWhole64 4 = .ok (.iconst 1, 1) := by decide +kernel
theorem d_N_isWhole64_5 : decode b_N_isWhole64 5 = .ok (.if_icmp .ne 5, 3) := by decide +kernel
theorem d_N_isWhole64_8 : decode b_N_isWhole64 8 = .ok (.iconst 1, 1) := by decide +kernel
theorem d_N_isWhole64_9 : decode b_N_isWhole64 9 = .ok (.ireturn, 1) := by decide +kernel
theorem d_N_isWhole64_10 : decode b_N_isWhole64 10 = .ok (.aload_n 0, 1) := by decide +kernel
theorem d_N_isWhole64_11 : decode b_N_isWhole64 11 = .ok (.getfield 61, 3) := by decide +kernel
theorem d_N_isWhole64_14 : decode b_N_isWhole64 14 = .ok (.iconst 2, 1) := by decide +kernel
theorem d_N_isWhole64_15 : decode b_N_isWhole64 15 = .ok (.if_icmp .ne 10, 3) := by decide +kernel
theorem d_N_isWhole64_18 : decode b_N_isWhole64 18 = .ok (.aload_n 0, 1) := by decide +kernel
theorem d_N_isWhole64_19 : decode b_N_isWhole64 19 = .ok (.getfield 69, 3) := by decide +kernel
theorem d_N_isWhole64_22 : decode b_N_isWhole64 22 = .ok (.ifCond .ge 5, 3) := by decide +kernel
theorem d_N_isWhole64_25 : decode b_N_isWhole64 25 = .ok (.iconst 0, 1) := by decide +kernel
theorem d_N_isWhole64_26 : decode b_N_isWhole64 26 = .ok (.ireturn, 1) := by decide +kernel
theorem d_N_isWhole64_27 : decode b_N_isWhole64 27 = .ok (.aload_n 0, 1) := by decide +kernel
theorem d_N_isWhole64_28 : decode b_N_isWhole64 28 = .ok (.getfield 65, 3) := by decide +kernel
theorem d_N_isWhole64_31 : decode b_N_isWhole64 31 = .ok (.lconst 0, 1) := by decide +kernel
theorem d_N_isWhole64_32 : decode b_N_isWhole64 32 = .ok (.lcmp, 1) := by decide +kernel
theorem d_N_isWhole64_33 : decode b_N_isWhole64 33 = .ok (.ifCond .ge 11, 3) := by decide +kernel
theorem d_N_isWhole64_36 : decode b_N_isWhole64 36 = .ok (.aload_n 0, 1) := by decide +kernel
theorem d_N_isWhole64_37 : decode b_N_isWhole64 37 = .ok (.getfield 65, 3) := by decide +kernel
theorem d_N_isWhole64_40 : decode b_N_isWhole64 40 = .ok (.lneg, 1) := by decide +kernel
theorem d_N_isWhole64_41 : decode b_N_isWhole64 41 = .ok (.goto 7, 3) := by decide +kernel
theorem d_N_isWhole64_44 : decode b_N_isWhole64 44 = .ok (.aload_n 0, 1) := by decide +kernel
theorem d_N_isWhole64_45 : decode b_N_isWhole64 45 = .ok (.getfield 65, 3) := by decide +kernel
theorem d_N_isWhole64_48 : decode b_N_isWhole64 48 = .ok (.lstore_n 1, 1) := by decide +kernel
theorem d_N_isWhole64_49 : decode b_N_isWhole64 49 = .ok (.lload_n 1, 1) := by decide +kernel
theorem d_N_isWhole64_50 : decode b_N_isWhole64 50 = .ok (.invokestatic 212, 3) := by decide +kernel
theorem d_N_isWhole64_53 : decode b_N_isWhole64 53 = .ok (.aload_n 0, 1) := by decide +kernel
theorem d_N_isWhole64_54 : decode b_N_isWhole64 54 = .ok (.getfield 69, 3) := by decide +kernel
theorem d_N_isWhole64_57 : decode b_N_isWhole64 57 = .ok (.iadd, 1) := by decide +kernel
theorem d_N_isWhole64_58 : decode b_N_isWhole64 58 = .ok (.bipush 63, 2) := by decide +kernel
theorem d_N_isWhole64_60 : decode b_N_isWhole64 60 = .ok (.if_icmp .le 23, 3) := by decide +kernel
theorem d_N_isWhole64_63 : decode b_N_isWhole64 63 = .ok (.aload_n 0, 1) := by decide +kernel
theorem d_N_isWhole64_64 : decode b_N_isWhole64 64 = .ok (.getfield 65, 3) := by decide +kernel
theorem d_N_isWhole64_67 : decode b_N_isWhole64 67 = .ok (.ldc2_w 216, 3) := by decide +kernel
theorem d_N_isWhole64_70 : decode b_N_isWhole64 70 = .ok (.lcmp, 1) := by decide +kernel
theorem d_N_isWhole64_71 : decode b_N_isWhole64 71 = .ok (.ifCond .ne 16, 3) := by decide +kernel
theorem d_N_isWhole64_74 : decode b_N_isWhole64 74 = .ok (.aload_n 0, 1) := by decide +kernel
theorem d_N_isWhole64_75 : decode b_N_isWhole64 75 = .ok (.getfield 69, 3) := by decide +kernel
theorem d_N_isWhole64_78 : decode b_N_isWhole64 78 = .ok (.bipush 63, 2) := by decide +kernel
theorem d_N_isWhole64_80 : decode b_N_isWhole64 80 = .ok (.if_icmp .ne 7, 3) := by decide +kernel
theorem d_N_isWhole64_83 : decode b_N_isWhole64 83 = .ok (.iconst 1, 1) := by decide +kernel
theorem d_N_isWhole64_84 : decode b_N_isWhole64 84 = .ok (.goto 4, 3) := by decide +kernel
theorem d_N_isWhole64_87 : decode b_N_isWhole64 87 = .ok (.iconst 0, 1) := by decide +kernel
theorem d_N_isWhole64_88 : decode b_N_isWhole64 88 = .ok (.ireturn, 1) := by decide +kernel
theorem d_N_toWhole64_0 : decode b_N_toWhole64 0 = .ok (.aload_n 0, 1) := by decide +kernel
theorem d_N_toWhole64_1 : decode b_N_toWhole64 1 = .ok (.getfield 61, 3) := by decide +kernel
theorem d_N_toWhole64_4 : decode b_N_toWhole64 4 = .ok (.iconst 2, 1) := by decide +kernel
theorem d_N_toWhole64_5 : decode b_N_toWhole64 5 = .ok (.if_icmp .ne 15, 3) := by decide +kernel
theorem d_N_toWhole64_8 : decode b_N_toWhole64 8 = .ok (.aload_n 0, 1) := by decide +kernel
theorem d_N_toWhole64_9 : decode b_N_toWhole64 9 = .ok (.getfield 65, 3) := by decide +kernel
theorem d_N_toWhole64_12 : decode b_N_toWhole64 12 = .ok (.aload_n 0, 1) := by decide +kernel
theorem d_N_toWhole64_13 : decode b_N_toWhole64 13 = .ok (.getfield 69, 3) := by decide +kernel
theorem d_N_toWhole64_16 : decode b_N_toWhole64 16 = .ok (.lshl, 1) := by decide +kernel
theorem d_N_toWhole64_17 : decode b_N_toWhole64 17 = .ok (.goto 7, 3) := by decide +kernel
theorem d_N_toWhole64_20 : decode b_N_toWhole64 20 = .ok (.aload_n 0, 1) := by decide +kernel
theorem d_N_toWhole64_21 : decode b_N_toWhole64 21 = .ok (.getfield 65, 3) := by decide +kernel
theorem d_N_toWhole64_24 : decode b_N_toWhole64 24 = .ok (.lreturn, 1) := by decide +kernel
theorem d_N_form_0 : decode b_N_form 0 = .ok (.iload_n 1, 1) := by decide +kernel
theorem d_N_form_1 : decode b_N_form 1 = .ok (.invokestatic 130, 3) := by decide +kernel
theorem d_N_form_4 : decode b_N_form 4 = .ok (.istore 5, 2) := by decide +kernel
theorem d_N_form_6 : decode b_N_form 6 = .ok (.iload 5, 2) := by decide +kernel
theorem d_N_form_8 : decode b_N_form 8 = .ok (.ifCond .ne 10, 3) := by decide +kernel
theorem d_N_form_11 : decode b_N_form 11 = .ok (.iload_n 1, 1) := by decide +kernel
theorem d_N_form_12 : decode b_N_form 12 = .ok (.invokestatic 134, 3) := by decide +kernel
theorem d_N_form_15 : decode b_N_form 15 = .ok (.ifCond .eq 15, 3) := by decide +kernel
theorem d_N_form_18 : decode b_N_form 18 = .ok (.iload 5, 2) := by decide +kernel
theorem d_N_form_20 : decode b_N_form 20 = .ok (.ifCond .eq 12, 3) := by decide +kernel
theorem d_N_form_23 : decode b_N_form 23 = .ok (.aload_n 0, 1) := by decide +kernel
theorem d_N_form_24 : decode b_N_form 24 = .ok (.invokevirtual 137, 3) := by decide +kernel
theorem d_N_form_27 : decode b_N_form 27 = .ok (.ifCond .ne 5, 3) := by decide +kernel
theorem d_N_form_30 : decode b_N_form 30 = .ok (.iconst (-1), 1) := by decide +kernel
theorem d_N_form_31 : decode b_N_form 31 = .ok (.ireturn, 1) := by decide +kernel
theorem d_N_form_32 : decode b_N_form 32 = .ok (.iload_n 2, 1) := by decide +kernel
theorem d_N_form_33 : decode b_N_form 33 = .ok (.ifCond .lt 19, 3) := by decide +kernel
theorem d_N_form_36 : decode b_N_form 36 = .ok (.iload_n 2, 1) := by decide +kernel
theorem d_N_form_37 : decode b_N_form 37 = .ok (.bipush 31, 2) := by decide +kernel
theorem d_N_form_39 : decode b_N_form 39 = .ok (.if_icmp .gt 13, 3) := by decide +kernel
theorem d_N_form_42 : decode b_N_form 42 = .ok (.iload_n 3, 1) := by decide +kernel
theorem d_N_form_43 : decode b_N_form 43 = .ok (.ifCond .lt 9, 3) := by decide +kernel
theorem d_N_form_46 : decode b_N_form 46 = .ok (.iload_n 3, 1) := by decide +kernel
theorem d_N_form_47 : decode b_N_form 47 = .ok (.bipush 99, 2) := by decide +kernel
theorem d_N_form_49 : decode b_N_form 49 = .ok (.if_icmp .le 5, 3) := by decide +kernel
theorem d_N_form_52 : decode b_N_form 52 = .ok (.iconst (-1), 1) := by decide +kernel
theorem d_N_form_53 : decode b_N_form 53 = .ok (.ireturn, 1) := by decide +kernel
theorem d_N_form_54 : decode b_N_form 54 = .ok (.iload 4, 2) := by decide +kernel
theorem d_N_form_56 : decode b_N_form 56 = .ok (.iconst (-1), 1) := by decide +kernel
theorem d_N_form_57 : decode b_N_form 57 = .ok (.if_icmp .lt 10, 3) := by decide +kernel
theorem d_N_form_60 : decode b_N_form 60 = .ok (.iload 4, 2) := by decide +kernel
theorem d_N_form_62 : decode b_N_form 62 = .ok (.bipush 99, 2) := by decide +kernel
theorem d_N_form_64 : decode b_N_form 64 = .ok (.if_icmp .le 5, 3) := by decide +kernel
theorem d_N_form_67 : decode b_N_form 67 = .ok (.iconst (-1), 1) := by decide +kernel
theorem d_N_form_68 : decode b_N_form 68 = .ok (.ireturn, 1) := by decide +kernel
theorem d_N_form_69 : decode b_N_form 69 = .ok (.aload_n 0, 1) := by decide +kernel
theorem d_N_form_70 : decode b_N_form 70 = .ok (.getfield 57, 3) := by decide +kernel
theorem d_N_form_73 : decode b_N_form 73 = .ok (.iload_n 1, 1) := by decide +kernel
theorem d_N_form_74 : decode b_N_form 74 = .ok (.iload_n 2, 1) := by decide +kernel
theorem d_N_form_75 : decode b_N_form 75 = .ok (.iload_n 3, 1) := by decide +kernel
theorem d_N_form_76 : decode b_N_form 76 = .ok (.iload 4, 2) := by decide +kernel
theorem d_N_form_78 : decode b_N_form 78 = .ok (.invokevirtual 109, 3) := by decide +kernel
theorem d_N_form_81 : decode b_N_form 81 = .ok (.iload 5, 2) := by decide +kernel
theorem d_N_form_83 : decode b_N_form 83 = .ok (.ifCond .eq 17, 3) := by decide +kernel
theorem d_N_form_86 : decode b_N_form 86 = .ok (.aload_n 0, 1) := by decide +kernel
theorem d_N_form_87 : decode b_N_form 87 = .ok (.getfield 57, 3) := by decide +kernel
theorem d_N_form_90 : decode b_N_form 90 = .ok (.aload_n 0, 1) := by decide +kernel
theorem d_N_form_91 : decode b_N_form 91 = .ok (.invokevirtual 141, 3) := by decide +kernel
theorem d_N_form_94 : decode b_N_form 94 = .ok (.invokevirtual 113, 3) := by decide +kernel
theorem d_N_form_97 : decode b_N_form 97 = .ok (.goto 7, 3) := by decide +kernel
theorem d_N_form_100 : decode b_N_form 100 = .ok (.aload_n 0, 1) := by decide +kernel
theorem d_N_form_101 : decode b_N_form 101 = .ok (.invokevirtual 118, 3) := by decide +kernel
theorem d_N_form_104 : decode b_N_form 104 = .ok (.aload_n 0, 1) := by decide +kernel
theorem d_N_form_105 : decode b_N_form 105 = .ok (.getfield 48, 3) := by decide +kernel
theorem d_N_form_108 : decode b_N_form 108 = .ok (.invokevirtual 117, 3) := by decide +kernel
theorem d_N_form_111 : decode b_N_form 111 = .ok (.ireturn, 1) := by decide +kernel
theorem d_Decimal_setRounded_0 : decode b_Decimal_setRounded 0 = .ok (.aload_n 0, 1) := by decide +kernel
theorem d_Decimal_setRounded_1 : decode b_Decimal_setRounded 1 = .ok (.invokevirtual 64, 3) := by decide +kernel
theorem d_Decimal_setRounded_4 : decode b_Decimal_setRounded 4 = .ok (.aload_n 1, 1) := by decide +kernel
theorem d_Decimal_setRounded_5 : decode b_Decimal_setRounded 5 = .ok (.getfield 13, 3) := by decide +kernel
theorem d_Decimal_setRounded_8 : decode b_Decimal_setRounded 8 = .ok (.istore_n 3, 1) := by decide +kernel
theorem d_Decimal_setRounded_9 : decode b_Decimal_setRounded 9 = .ok (.iload_n 3, 1) := by decide +kernel
theorem d_Decimal_setRounded_10 : decode b_Decimal_setRounded 10 = .ok (.iload_n 2, 1) := by decide +kernel
theorem d_Decimal_setRounded_11 : decode b_Decimal_setRounded 11 = .ok (.invokestatic 34, 3) := by decide +kernel
theorem d_Decimal_setRounded_14 : decode b_Decimal_setRounded 14 = .ok (.if_icmp .gt 19, 3) := by decide +kernel
theorem d_Decimal_setRounded_17 : decode b_Decimal_setRounded 17 = .ok (.aload_n 0, 1) := by decide +kernel
theorem d_Decimal_setRounded_18 : decode b_Decimal_setRounded 18 = .ok (.iload_n 3, 1) := by decide +kernel
theorem d_Decimal_setRounded_19 : decode b_Decimal_setRounded 19 = .ok (.aload_n 1, 1) := by decide +kernel
theorem d_Decimal_setRounded_20 : decode b_Decimal_setRounded 20 = .ok (.iload_n 3, 1) := by decide +kernel
theorem d_Decimal_setRounded_21 : decode b_Decimal_setRounded 21 = .ok (.invokevirtual 23, 3) := by decide +kernel
theorem d_Decimal_setRounded_24 : decode b_Decimal_setRounded 24 = .ok (.invokevirtual 27, 3) := by decide +kernel
theorem d_Decimal_setRounded_27 : decode b_Decimal_setRounded 27 = .ok (.iinc 3 1, 3) := by decide +kernel
theorem d_Decimal_setRounded_30 : decode b_Decimal_setRounded 30 = .ok (.goto (-21), 3) := by decide +kernel
theorem d_Decimal_setRounded_33 : decode b_Decimal_setRounded 33 = .ok (.aload_n 0, 1) := by decide +kernel
theorem d_Decimal_setRounded_34 : decode b_Decimal_setRounded 34 = .ok (.iload_n 2, 1) := by decide +kernel
theorem d_Decimal_setRounded_35 : decode b_Decimal_setRounded 35 = .ok (.invokevirtual 57, 3) := by decide +kernel
theorem d_Decimal_setRounded_38 : decode b_Decimal_setRounded 38 = .ok (.aload_n 1, 1) := by decide +kernel
theorem d_Decimal_setRounded_39 : decode b_Decimal_setRounded 39 = .ok (.iload_n 2, 1) := by decide +kernel
theorem d_Decimal_setRounded_40 : decode b_Decimal_setRounded 40 = .ok (.invokevirtual 54, 3) := by decide +kernel
theorem d_Decimal_setRounded_43 : decode b_Decimal_setRounded 43 = .ok (.ifCond .eq 9, 3) := by decide +kernel
theorem d_Decimal_setRounded_46 : decode b_Decimal_setRounded 46 = .ok (.aload_n 0, 1) := by decide +kernel
theorem d_Decimal_setRounded_47 : decode b_Decimal_setRounded 47 = .ok (.iload_n 2, 1) := by decide +kernel
theorem d_Decimal_setRounded_48 : decode b_Decimal_setRounded 48 = .ok (.iconst 1, 1) := by decide +kernel
theorem d_Decimal_setRounded_49 : decode b_Decimal_setRounded 49 = .ok (.invokevirtual 61, 3) := by decide +kernel
theorem d_Decimal_setRounded_52 : decode b_Decimal_setRounded 52 = .ok (.return_, 1) := by decide +kernel
theorem d_Size_isSame_0 : decode b_Size_isSame 0 = .ok (.aload_n 0, 1) := by decide +kernel
theorem d_Size_isSame_1 : decode b_Size_isSame 1 = .ok (.getfield 17, 3) := by decide +kernel
theorem d_Size_isSame_4 : decode b_Size_isSame 4 = .ok (.aload_n 1, 1) := by decide +kernel
theorem d_Size_isSame_5 : decode b_Size_isSame 5 = .ok (.getfield 17, 3) := by decide +kernel
theorem d_Size_isSame_8 : decode b_Size_isSame 8 = .ok (.if_icmp .ne 30, 3) := by decide +kernel
theorem d_Size_isSame_11 : decode b_Size_isSame 11 = .ok (.aload_n 0, 1) := by decide +kernel
theorem d_Size_isSame_12 : decode b_Size_isSame 12 = .ok (.getfield 7, 3) := by decide +kernel
theorem d_Size_isSame_15 : decode b_Size_isSame 15 = .ok (.aload_n 1, 1) := by decide +kernel
theorem d_Size_isSame_16 : decode b_Size_isSame 16 = .ok (.getfield 7, 3) := by decide +kernel
theorem d_Size_isSame_19 : decode b_Size_isSame 19 = .ok (.lcmp, 1) := by decide +kernel
theorem d_Size_isSame_20 : decode b_Size_isSame 20 = .ok (.ifCond .ne 18, 3) := by decide +kernel
theorem d_Size_isSame_23 : decode b_Size_isSame 23 = .ok (.aload_n 0, 1) := by decide +kernel
theorem d_Size_isSame_24 : decode b_Size_isSame 24 = .ok (.getfield 13, 3) := by decide +kernel
theorem d_Size_isSame_27 : decode b_Size_isSame 27 = .ok (.aload_n 1, 1) := by decide +kernel
theorem d_Size_isSame_28 : decode b_Size_isSame 28 = .ok (.getfield 13, 3) := by decide +kernel
theorem d_Size_isSame_31 : decode b_Size_isSame 31 = .ok (.if_icmp .ne 7, 3) := by decide +kernel
theorem d_Size_isSame_34 : decode b_Size_isSame 34 = .ok (.iconst 1, 1) := by decide +kernel
theorem d_Size_isSame_35 : decode b_Size_isSame 35 = .ok (.goto 4, 3) := by decide +kernel
theorem d_Size_isSame_38 : decode b_Size_isSame 38 = .ok (.iconst 0, 1) := by decide +kernel
theorem d_Size_isSame_39 : decode b_Size_isSame 39 = .ok (.ireturn, 1) := by decide +kernel
theorem d_N_leastPrecision_0 : decode b_N_leastPrecision 0 = .ok (.aload_n 0, 1) := by decide +kernel
theorem d_N_leastPrecision_1 : decode b_N_leastPrecision 1 = .ok (.getfield 32, 3) := by decide +kernel
theorem d_N_leastPrecision_4 : decode b_N_leastPrecision 4 = .ok (.aload_n 0, 1) := by decide +kernel
theorem d_N_leastPrecision_5 : decode b_N_leastPrecision 5 = .ok (.getfield 38, 3) := by decide +kernel
theorem d_N_leastPrecision_8 : decode b_N_leastPrecision 8 = .ok (.invokevirtual 175, 3) := by decide +kernel
theorem d_N_leastPrecision_11 : decode b_N_leastPrecision 11 = .ok (.aload_n 0, 1) := by decide +kernel
theorem d_N_leastPrecision_12 : decode b_N_leastPrecision 12 = .ok (.getfield 38, 3) := by decide +kernel
theorem d_N_leastPrecision_15 : decode b_N_leastPrecision 15 = .ok (.invokevirtual 178, 3) := by decide +kernel
theorem d_N_leastPrecision_18 : decode b_N_leastPrecision 18 = .ok (.invokevirtual 193, 3) := by decide +kernel
theorem d_N_leastPrecision_21 : decode b_N_leastPrecision 21 = .ok (.aload_n 0, 1) := by decide +kernel
theorem d_N_leastPrecision_22 : decode b_N_leastPrecision 22 = .ok (.getfield 32, 3) := by decide +kernel
theorem d_N_leastPrecision_25 : decode b_N_leastPrecision 25 = .ok (.invokevirtual 197, 3) := by decide +kernel
theorem d_N_leastPrecision_28 : decode b_N_leastPrecision 28 = .ok (.istore_n 1, 1) := by decide +kernel
theorem d_N_leastPrecision_29 : decode b_N_leastPrecision 29 = .ok (.iconst 0, 1) := by decide +kernel
theorem d_N_leastPrecision_30 : decode b_N_leastPrecision 30 = .ok (.istore_n 2, 1) := by decide +kernel
theorem d_N_leastPrecision_31 : decode b_N_leastPrecision 31 = .ok (.iload_n 2, 1) := by decide +kernel
theorem d_N_leastPrecision_32 : decode b_N_leastPrecision 32 = .ok (.bipush 16, 2) := by decide +kernel
theorem d_N_leastPrecision_34 : decode b_N_leastPrecision 34 = .ok (.if_icmp .ge 50, 3) := by decide +kernel
theorem d_N_leastPrecision_37 : decode b_N_leastPrecision 37 = .ok (.aload_n 0, 1) := by decide +kernel
theorem d_N_leastPrecision_38 : decode b_N_leastPrecision 38 = .ok (.getfield 28, 3) := by decide +kernel
theorem d_N_leastPrecision_41 : decode b_N_leastPrecision 41 = .ok (.aload_n 0, 1) := by decide +kernel
theorem d_N_leastPrecision_42 : decode b_N_leastPrecision 42 = .ok (.getfield 32, 3) := by decide +kernel
theorem d_N_leastPrecision_45 : decode b_N_leastPrecision 45 = .ok (.iload_n 1, 1) := by decide +kernel
theorem d_N_leastPrecision_46 : decode b_N_leastPrecision 46 = .ok (.iload_n 2, 1) := by decide +kernel
theorem d_N_leastPrecision_47 : decode b_N_leastPrecision 47 = .ok (.isub, 1) := by decide +kernel
theorem d_N_leastPrecision_48 : decode b_N_leastPrecision 48 = .ok (.invokevirtual 200, 3) := by decide +kernel
theorem d_N_leastPrecision_51 : decode b_N_leastPrecision 51 = .ok (.aload_n 0, 1) := by decide +kernel
theorem d_N_leastPrecision_52 : decode b_N_leastPrecision 52 = .ok (.getfield 28, 3) := by decide +kernel
theorem d_N_leastPrecision_55 : decode b_N_leastPrecision 55 = .ok (.aload_n 0, 1) := by decide +kernel
theorem d_N_leastPrecision_56 : decode b_N_leastPrecision 56 = .ok (.getfield 42, 3) := by decide +kernel
theorem d_N_leastPrecision_59 : decode b_N_leastPrecision 59 = .ok (.invokevirtual 204, 3) := by decide +kernel
theorem d_N_leastPrecision_62 : decode b_N_leastPrecision 62 = .ok (.aload_n 0, 1) := by decide +kernel
theorem d_N_leastPrecision_63 : decode b_N_leastPrecision 63 = .ok (.getfield 42, 3) := by decide +kernel
theorem d_N_leastPrecision_66 : decode b_N_leastPrecision 66 = .ok (.aload_n 0, 1) := by decide +kernel
theorem d_N_leastPrecision_67 : decode b_N_leastPrecision 67 = .ok (.getfield 38, 3) := by decide +kernel
theorem d_N_leastPrecision_70 : decode b_N_leastPrecision 70 = .ok (.invokevirtual 208, 3) := by decide +kernel
theorem d_N_leastPrecision_73 : decode b_N_leastPrecision 73 = .ok (.ifCond .eq 5, 3) := by decide +kernel
theorem d_N_leastPrecision_76 : decode b_N_leastPrecision 76 = .ok (.iload_n 2, 1) := by decide +kernel
theorem d_N_leastPrecision_77 : decode b_N_leastPrecision 77 = .ok (.ireturn, 1) := by decide +kernel
theorem d_N_leastPrecision_78 : decode b_N_leastPrecision 78 = .ok (.iinc 2 1, 3) := by decide +kernel
theorem d_N_leastPrecision_81 : decode b_N_leastPrecision 81 = .ok (.goto (-50), 3) := by decide +kernel
theorem d_N_leastPrecision_84 : decode b_N_leastPrecision 84 = .ok (.bipush 16, 2) := by decide +kernel
theorem d_N_leastPrecision_86 : decode b_N_leastPrecision 86 = .ok (.ireturn, 1) := by decide +kernel
theorem d_N_shortest_0 : decode b_N_shortest 0 = .ok (.aload_n 0, 1) := by decide +kernel
theorem d_N_shortest_1 : decode b_N_shortest 1 = .ok (.getfield 61, 3) := by decide +kernel
theorem d_N_shortest_4 : decode b_N_shortest 4 = .ok (.iconst 1, 1) := by decide +kernel
theorem d_N_shortest_5 : decode b_N_shortest 5 = .ok (.if_icmp .eq 13, 3) := by decide +kernel
theorem d_N_shortest_8 : decode b_N_shortest 8 = .ok (.aload_n 0, 1) := by decide +kernel
theorem d_N_shortest_9 : decode b_N_shortest 9 = .ok (.getfield 61, 3) := by decide +kernel
theorem d_N_shortest_12 : decode b_N_shortest 12 = .ok (.iconst 2, 1) := by decide +kernel
theorem d_N_shortest_13 : decode b_N_shortest 13 = .ok (.if_icmp .eq 5, 3) := by decide +kernel
theorem d_N_shortest_16 : decode b_N_shortest 16 = .ok (.iconst (-1), 1) := by decide +kernel
theorem d_N_shortest_17 : decode b_N_shortest 17 = .ok (.ireturn, 1) := by decide +kernel
theorem d_N_shortest_18 : decode b_N_shortest 18 = .ok (.aload_n 0, 1) := by decide +kernel
theorem d_N_shortest_19 : decode b_N_shortest 19 = .ok (.invokevirtual 145, 3) := by decide +kernel
theorem d_N_shortest_22 : decode b_N_shortest 22 = .ok (.aload_n 0, 1) := by decide +kernel
theorem d_N_shortest_23 : decode b_N_shortest 23 = .ok (.invokevirtual 148, 3) := by decide +kernel
theorem d_N_shortest_26 : decode b_N_shortest 26 = .ok (.istore_n 1, 1) := by decide +kernel
theorem d_N_shortest_27 : decode b_N_shortest 27 = .ok (.aload_n 0, 1) := by decide +kernel
theorem d_N_shortest_28 : decode b_N_shortest 28 = .ok (.getfield 57, 3) := by decide +kernel
theorem d_N_shortest_31 : decode b_N_shortest 31 = .ok (.bipush 101, 2) := by decide +kernel
theorem d_N_shortest_33 : decode b_N_shortest 33 = .ok (.iconst 0, 1) := by decide +kernel
theorem d_N_shortest_34 : decode b_N_shortest 34 = .ok (.iconst 0, 1) := by decide +kernel
theorem d_N_shortest_35 : decode b_N_shortest 35 = .ok (.iload_n 1, 1) := by decide +kernel
theorem d_N_shortest_36 : decode b_N_shortest 36 = .ok (.invokevirtual 109, 3) := by decide +kernel
theorem d_N_shortest_39 : decode b_N_shortest 39 = .ok (.aload_n 0, 1) := by decide +kernel
theorem d_N_shortest_40 : decode b_N_shortest 40 = .ok (.getfield 57, 3) := by decide +kernel
theorem d_N_shortest_43 : decode b_N_shortest 43 = .ok (.aload_n 0, 1) := by decide +kernel
theorem d_N_shortest_44 : decode b_N_shortest 44 = .ok (.getfield 65, 3) := by decide +kernel
theorem d_N_shortest_47 : decode b_N_shortest 47 = .ok (.lconst 0, 1) := by decide +kernel
theorem d_N_shortest_48 : decode b_N_shortest 48 = .ok (.lcmp, 1) := by decide +kernel
theorem d_N_shortest_49 : decode b_N_shortest 49 = .ok (.ifCond .ge 7, 3) := by decide +kernel
theorem d_N_shortest_52 : decode b_N_shortest 52 = .ok (.iconst 1, 1) := by decide +kernel
theorem d_N_shortest_53 : decode b_N_shortest 53 = .ok (.goto 4, 3) := by decide +kernel
theorem d_N_shortest_56 : decode b_N_shortest 56 = .ok (.iconst 0, 1) := by decide +kernel
theorem d_N_shortest_57 : decode b_N_shortest 57 = .ok (.aload_n 0, 1) := by decide +kernel
theorem d_N_shortest_58 : decode b_N_shortest 58 = .ok (.getfield 38, 3) := by decide +kernel
theorem d_N_shortest_61 : decode b_N_shortest 61 = .ok (.invokevirtual 151, 3) := by decide +kernel
theorem d_N_shortest_64 : decode b_N_shortest 64 = .ok (.iload_n 1, 1) := by decide +kernel
theorem d_N_shortest_65 : decode b_N_shortest 65 = .ok (.iconst 1, 1) := by decide +kernel
theorem d_N_shortest_66 : decode b_N_shortest 66 = .ok (.iadd, 1) := by decide +kernel
theorem d_N_shortest_67 : decode b_N_shortest 67 = .ok (.ireturn, 1) := by decide +kernel
theorem d_N_written_0 : decode b_N_written 0 = .ok (.aload_n 0, 1) := by decide +kernel
theorem d_N_written_1 : decode b_N_written 1 = .ok (.getfield 48, 3) := by decide +kernel
theorem d_N_written_4 : decode b_N_written 4 = .ok (.iload_n 1, 1) := by decide +kernel
theorem d_N_written_5 : decode b_N_written 5 = .ok (.invokevirtual 155, 3) := by decide +kernel
theorem d_N_written_8 : decode b_N_written 8 = .ok (.ireturn, 1) := by decide +kernel
