theorem d_Decimal_hasBelow_0 : decode b_Decimal_hasBelow 0 = .ok (.iload_n 1, 1) := by decide +kernel
theorem d_Decimal_hasBelow_1 : decode b_Decimal_hasBelow 1 = .ok (.invokestatic 31, 3) := by decide +kernel
theorem d_Decimal_hasBelow_4 : decode b_Decimal_hasBelow 4 = .ok (.istore_n 2, 1) := by decide +kernel
theorem d_Decimal_hasBelow_5 : decode b_Decimal_hasBelow 5 = .ok (.iload_n 1, 1) := by decide +kernel
theorem d_Decimal_hasBelow_6 : decode b_Decimal_hasBelow 6 = .ok (.invokestatic 34, 3) := by decide +kernel
theorem d_Decimal_hasBelow_9 : decode b_Decimal_hasBelow 9 = .ok (.istore_n 3, 1) := by decide +kernel
theorem d_Decimal_hasBelow_10 : decode b_Decimal_hasBelow 10 = .ok (.aload_n 0, 1) := by decide +kernel
theorem d_Decimal_hasBelow_11 : decode b_Decimal_hasBelow 11 = .ok (.getfield 17, 3) := by decide +kernel
theorem d_Decimal_hasBelow_14 : decode b_Decimal_hasBelow 14 = .ok (.iload_n 3, 1) := by decide +kernel
theorem d_Decimal_hasBelow_15 : decode b_Decimal_hasBelow 15 = .ok (.if_icmp .le 14, 3) := by decide +kernel
theorem d_Decimal_hasBelow_18 : decode b_Decimal_hasBelow 18 = .ok (.aload_n 0, 1) := by decide +kernel
theorem d_Decimal_hasBelow_19 : decode b_Decimal_hasBelow 19 = .ok (.aload_n 0, 1) := by decide +kernel
theorem d_Decimal_hasBelow_20 : decode b_Decimal_hasBelow 20 = .ok (.getfield 17, 3) := by decide +kernel
theorem d_Decimal_hasBelow_23 : decode b_Decimal_hasBelow 23 = .ok (.invokevirtual 23, 3) := by decide +kernel
theorem d_Decimal_hasBelow_26 : decode b_Decimal_hasBelow 26 = .ok (.ifCond .ne 17, 3) := by decide +kernel
theorem d_Decimal_hasBelow_29 : decode b_Decimal_hasBelow 29 = .ok (.iload_n 2, 1) := by decide +kernel
theorem d_Decimal_hasBelow_30 : decode b_Decimal_hasBelow 30 = .ok (.ifCond .le 17, 3) := by decide +kernel
theorem d_Decimal_hasBelow_33 : decode b_Decimal_hasBelow 33 = .ok (.aload_n 0, 1) := by decide +kernel
theorem d_Decimal_hasBelow_34 : decode b_Decimal_hasBelow 34 = .ok (.iload_n 3, 1) := by decide +kernel
theorem d_Decimal_hasBelow_35 : decode b_Decimal_hasBelow 35 = .ok (.invokevirtual 23, 3) := by decide +kernel
theorem d_Decimal_hasBelow_38 : decode b_Decimal_hasBelow 38 = .ok (.iload_n 2, 1) := by decide +kernel
theorem d_Decimal_hasBelow_39 : decode b_Decimal_hasBelow 39 = .ok (.irem, 1) := by decide +kernel
theorem d_Decimal_hasBelow_40 : decode b_Decimal_hasBelow 40 = .ok (.ifCond .eq 7, 3) := by decide +kernel
theorem d_Decimal_hasBelow_43 : decode b_Decimal_hasBelow 43 = .ok (.iconst 1, 1) := by decide +kernel
theorem d_Decimal_hasBelow_44 : decode b_Decimal_hasBelow 44 = .ok (.goto 4, 3) := by decide +kernel
theorem d_Decimal_hasBelow_47 : decode b_Decimal_hasBelow 47 = .ok (.iconst 0, 1) := by decide +kernel
theorem d_Decimal_hasBelow_48 : decode b_Decimal_hasBelow 48 = .ok (.ireturn, 1) := by decide +kernel
theorem d_Decimal_cutBelow_0 : decode b_Decimal_cutBelow 0 = .ok (.iload_n 1, 1) := by decide +kernel
theorem d_Decimal_cutBelow_1 : decode b_Decimal_cutBelow 1 = .ok (.invokestatic 31, 3) := by decide +kernel
theorem d_Decimal_cutBelow_4 : decode b_Decimal_cutBelow 4 = .ok (.istore_n 2, 1) := by decide +kernel
theorem d_Decimal_cutBelow_5 : decode b_Decimal_cutBelow 5 = .ok (.iload_n 1, 1) := by decide +kernel
theorem d_Decimal_cutBelow_6 : decode b_Decimal_cutBelow 6 = .ok (.invokestatic 34, 3) := by decide +kernel
theorem d_Decimal_cutBelow_9 : decode b_Decimal_cutBelow 9 = .ok (.istore_n 3, 1) := by decide +kernel
theorem d_Decimal_cutBelow_10 : decode b_Decimal_cutBelow 10 = .ok (.iload_n 3, 1) := by decide +kernel
theorem d_Decimal_cutBelow_11 : decode b_Decimal_cutBelow 11 = .ok (.iconst 1, 1) := by decide +kernel
theorem d_Decimal_cutBelow_12 : decode b_Decimal_cutBelow 12 = .ok (.iadd, 1) := by decide +kernel
theorem d_Decimal_cutBelow_13 : decode b_Decimal_cutBelow 13 = .ok (.aload_n 0, 1) := by decide +kernel
theorem d_Decimal_cutBelow_14 : decode b_Decimal_cutBelow 14 = .ok (.getfield 13, 3) := by decide +kernel
theorem d_Decimal_cutBelow_17 : decode b_Decimal_cutBelow 17 = .ok (.invokestatic 41, 3) := by decide +kernel
theorem d_Decimal_cutBelow_20 : decode b_Decimal_cutBelow 20 = .ok (.istore 4, 2) := by decide +kernel
theorem d_Decimal_cutBelow_22 : decode b_Decimal_cutBelow 22 = .ok (.iload 4, 2) := by decide +kernel
theorem d_Decimal_cutBelow_24 : decode b_Decimal_cutBelow 24 = .ok (.aload_n 0, 1) := by decide +kernel
theorem d_Decimal_cutBelow_25 : decode b_Decimal_cutBelow 25 = .ok (.getfield 17, 3) := by decide +kernel
theorem d_Decimal_cutBelow_28 : decode b_Decimal_cutBelow 28 = .ok (.if_icmp .gt 16, 3) := by decide +kernel
theorem d_Decimal_cutBelow_31 : decode b_Decimal_cutBelow 31 = .ok (.aload_n 0, 1) := by decide +kernel
theorem d_Decimal_cutBelow_32 : decode b_Decimal_cutBelow 32 = .ok (.iload 4, 2) := by decide +kernel
theorem d_Decimal_cutBelow_34 : decode b_Decimal_cutBelow 34 = .ok (.iconst 0, 1) := by decide +kernel
theorem d_Decimal_cutBelow_35 : decode b_Decimal_cutBelow 35 = .ok (.invokevirtual 27, 3) := by decide +kernel
theorem d_Decimal_cutBelow_38 : decode b_Decimal_cutBelow 38 = .ok (.iinc 4 1, 3) := by decide +kernel
theorem d_Decimal_cutBelow_41 : decode b_Decimal_cutBelow 41 = .ok (.goto (-19), 3) := by decide +kernel
theorem d_Decimal_cutBelow_44 : decode b_Decimal_cutBelow 44 = .ok (.iload_n 2, 1) := by decide +kernel
theorem d_Decimal_cutBelow_45 : decode b_Decimal_cutBelow 45 = .ok (.ifCond .le 37, 3) := by decide +kernel
theorem d_Decimal_cutBelow_48 : decode b_Decimal_cutBelow 48 = .ok (.iload_n 3, 1) := by decide +kernel
theorem d_Decimal_cutBelow_49 : decode b_Decimal_cutBelow 49 = .ok (.aload_n 0, 1) := by decide +kernel
theorem d_Decimal_cutBelow_50 : decode b_Decimal_cutBelow 50 = .ok (.getfield 13, 3) := by decide +kernel
theorem d_Decimal_cutBelow_53 : decode b_Decimal_cutBelow 53 = .ok (.if_icmp .lt 29, 3) := by decide +kernel
theorem d_Decimal_cutBelow_56 : decode b_Decimal_cutBelow 56 = .ok (.iload_n 3, 1) := by decide +kernel
theorem d_Decimal_cutBelow_57 : decode b_Decimal_cutBelow 57 = .ok (.aload_n 0, 1) := by decide +kernel
theorem d_Decimal_cutBelow_58 : decode b_Decimal_cutBelow 58 = .ok (.getfield 17, 3) := by decide +kernel
theorem d_Decimal_cutBelow_61 : decode b_Decimal_cutBelow 61 = .ok (.if_icmp .gt 21, 3) := by decide +kernel
theorem d_Decimal_cutBelow_64 : decode b_Decimal_cutBelow 64 = .ok (.aload_n 0, 1) := by decide +kernel
theorem d_Decimal_cutBelow_65 : decode b_Decimal_cutBelow 65 = .ok (.iload_n 3, 1) := by decide +kernel
theorem d_Decimal_cutBelow_66 : decode b_Decimal_cutBelow 66 = .ok (.aload_n 0, 1) := by decide +kernel
theorem d_Decimal_cutBelow_67 : decode b_Decimal_cutBelow 67 = .ok (.iload_n 3, 1) := by decide +kernel
theorem d_Decimal_cutBelow_68 : decode b_Decimal_cutBelow 68 = .ok (.invokevirtual 23, 3) := by decide +kernel
theorem d_Decimal_cutBelow_71 : decode b_Decimal_cutBelow 71 = .ok (.aload_n 0, 1) := by decide +kernel
theorem d_Decimal_cutBelow_72 : decode b_Decimal_cutBelow 72 = .ok (.iload_n 3, 1) := by decide +kernel
theorem d_Decimal_cutBelow_73 : decode b_Decimal_cutBelow 73 = .ok (.invokevirtual 23, 3) := by decide +kernel
theorem d_Decimal_cutBelow_76 : decode b_Decimal_cutBelow 76 = .ok (.iload_n 2, 1) := by decide +kernel
theorem d_Decimal_cutBelow_77 : decode b_Decimal_cutBelow 77 = .ok (.irem, 1) := by decide +kernel
theorem d_Decimal_cutBelow_78 : decode b_Decimal_cutBelow 78 = .ok (.isub, 1) := by decide +kernel
theorem d_Decimal_cutBelow_79 : decode b_Decimal_cutBelow 79 = .ok (.invokevirtual 27, 3) := by decide +kernel
theorem d_Decimal_cutBelow_82 : decode b_Decimal_cutBelow 82 = .ok (.aload_n 0, 1) := by decide +kernel
theorem d_Decimal_cutBelow_83 : decode b_Decimal_cutBelow 83 = .ok (.invokevirtual 38, 3) := by decide +kernel
theorem d_Decimal_cutBelow_86 : decode b_Decimal_cutBelow 86 = .ok (.return_, 1) := by decide +kernel
theorem d_Decimal_units_0 : decode b_Decimal_units 0 = .ok (.aload_n 0, 1) := by decide +kernel
theorem d_Decimal_units_1 : decode b_Decimal_units 1 = .ok (.bipush 34, 2) := by decide +kernel
theorem d_Decimal_units_3 : decode b_Decimal_units 3 = .ok (.invokevirtual 23, 3) := by decide +kernel
theorem d_Decimal_units_6 : decode b_Decimal_units 6 = .ok (.i2l, 1) := by decide +kernel
theorem d_Decimal_units_7 : decode b_Decimal_units 7 = .ok (.ldc2_w 67, 3) := by decide +kernel
theorem d_Decimal_units_10 : decode b_Decimal_units 10 = .ok (.lmul, 1) := by decide +kernel
theorem d_Decimal_units_11 : decode b_Decimal_units 11 = .ok (.aload_n 0, 1) := by decide +kernel
theorem d_Decimal_units_12 : decode b_Decimal_units 12 = .ok (.bipush 35, 2) := by decide +kernel
theorem d_Decimal_units_14 : decode b_Decimal_units 14 = .ok (.invokevirtual 23, 3) := by decide +kernel
theorem d_Decimal_units_17 : decode b_Decimal_units 17 = .ok (.i2l, 1) := by decide +kernel
theorem d_Decimal_units_18 : decode b_Decimal_units 18 = .ok (.ladd, 1) := by decide +kernel
theorem d_Decimal_units_19 : decode b_Decimal_units 19 = .ok (.lreturn, 1) := by decide +kernel
theorem d_Decimal_multiply_0 : decode b_Decimal_multiply 0 = .ok (.lconst 0, 1) := by decide +kernel
theorem d_Decimal_multiply_1 : decode b_Decimal_multiply 1 = .ok (.lstore_n 2, 1) := by decide +kernel
theorem d_Decimal_multiply_2 : decode b_Decimal_multiply 2 = .ok (.aload_n 0, 1) := by decide +kernel
theorem d_Decimal_multiply_3 : decode b_Decimal_multiply 3 = .ok (.getfield 17, 3) := by decide +kernel
theorem d_Decimal_multiply_6 : decode b_Decimal_multiply 6 = .ok (.istore 4, 2) := by decide +kernel
theorem d_Decimal_multiply_8 : decode b_Decimal_multiply 8 = .ok (.iload 4, 2) := by decide +kernel
theorem d_Decimal_multiply_10 : decode b_Decimal_multiply 10 = .ok (.aload_n 0, 1) := by decide +kernel
theorem d_Decimal_multiply_11 : decode b_Decimal_multiply 11 = .ok (.getfield 13, 3) := by decide +kernel
theorem d_Decimal_multiply_14 : decode b_Decimal_multiply 14 = .ok (.if_icmp .lt 61, 3) := by decide +kernel
theorem d_Decimal_multiply_17 : decode b_Decimal_multiply 17 = .ok (.iload 4, 2) := by decide +kernel
theorem d_Decimal_multiply_19 : decode b_Decimal_multiply 19 = .ok (.ifCond .lt 56, 3) := by decide +kernel
theorem d_Decimal_multiply_22 : decode b_Decimal_multiply 22 = .ok (.iload 4, 2) := by decide +kernel
theorem d_Decimal_multiply_24 : decode b_Decimal_multiply 24 = .ok (.aload_n 0, 1) := by decide +kernel
theorem d_Decimal_multiply_25 : decode b_Decimal_multiply 25 = .ok (.getfield 9, 3) := by decide +kernel
theorem d_Decimal_multiply_28 : decode b_Decimal_multiply 28 = .ok (.arraylength, 1) := by decide +kernel
theorem d_Decimal_multiply_29 : decode b_Decimal_multiply 29 = .ok (.if_icmp .ge 46, 3) := by decide +kernel
theorem d_Decimal_multiply_32 : decode b_Decimal_multiply 32 = .ok (.aload_n 0, 1) := by decide +kernel
theorem d_Decimal_multiply_33 : decode b_Decimal_multiply 33 = .ok (.getfield 9, 3) := by decide +kernel
theorem d_Decimal_multiply_36 : decode b_Decimal_multiply 36 = .ok (.iload 4, 2) := by decide +kernel
theorem d_Decimal_multiply_38 : decode b_Decimal_multiply 38 = .ok (.iaload, 1) := by decide +kernel
theorem d_Decimal_multiply_39 : decode b_Decimal_multiply 39 = .ok (.i2l, 1) := by decide +kernel
theorem d_Decimal_multiply_40 : decode b_Decimal_multiply 40 = .ok (.iload_n 1, 1) := by decide +kernel
theorem d_Decimal_multiply_41 : decode b_Decimal_multiply 41 = .ok (.lshl, 1) := by decide +kernel
theorem d_Decimal_multiply_42 : decode b_Decimal_multiply 42 = .ok (.lload_n 2, 1) := by decide +kernel
theorem d_Decimal_multiply_43 : decode b_Decimal_multiply 43 = .ok (.ladd, 1) := by decide +kernel
theorem d_Decimal_multiply_44 : decode b_Decimal_multiply 44 = .ok (.lstore 5, 2) := by decide +kernel
theorem d_Decimal_multiply_46 : decode b_Decimal_multiply 46 = .ok (.lload 5, 2) := by decide +kernel
theorem d_Decimal_multiply_48 : decode b_Decimal_multiply 48 = .ok (.ldc2_w 67, 3) := by decide +kernel
theorem d_Decimal_multiply_51 : decode b_Decimal_multiply 51 = .ok (.ldiv, 1) := by decide +kernel
theorem d_Decimal_multiply_52 : decode b_Decimal_multiply 52 = .ok (.lstore_n 2, 1) := by decide +kernel
theorem d_Decimal_multiply_53 : decode b_Decimal_multiply 53 = .ok (.aload_n 0, 1) := by decide +kernel
theorem d_Decimal_multiply_54 : decode b_Decimal_multiply 54 = .ok (.getfield 9, 3) := by decide +kernel
theorem d_Decimal_multiply_57 : decode b_Decimal_multiply 57 = .ok (.iload 4, 2) := by decide +kernel
theorem d_Decimal_multiply_59 : decode b_Decimal_multiply 59 = .ok (.lload 5, 2) := by decide +kernel
theorem d_Decimal_multiply_61 : decode b_Decimal_multiply 61 = .ok (.lload_n 2, 1) := by decide +kernel
theorem d_Decimal_multiply_62 : decode b_Decimal_multiply 62 = .ok (.ldc2_w 67, 3) := by decide +kernel
theorem d_Decimal_multiply_65 : decode b_Decimal_multiply 65 = .ok (.lmul, 1) := by decide +kernel
theorem d_Decimal_multiply_66 : decode b_Decimal_multiply 66 = .ok (.lsub, 1) := by decide +kernel
theorem d_Decimal_multiply_67 : decode b_Decimal_multiply 67 = .ok (.l2i, 1) := by decide +kernel
theorem d_Decimal_multiply_68 : decode b_Decimal_multiply 68 = .ok (.iastore, 1) := by decide +kernel
theorem d_Decimal_multiply_69 : decode b_Decimal_multiply 69 = .ok (.iinc 4 (-1), 3) := by decide +kernel
theorem d_Decimal_multiply_72 : decode b_Decimal_multiply 72 = .ok (.goto (-64), 3) := by decide +kernel
theorem d_Decimal_multiply_75 : decode b_Decimal_multiply 75 = .ok (.lload_n 2, 1) := by decide +kernel
theorem d_Decimal_multiply_76 : decode b_Decimal_multiply 76 = .ok (.lconst 0, 1) := by decide +kernel
theorem d_Decimal_multiply_77 : decode b_Decimal_multiply 77 = .ok (.lcmp, 1) := by decide +kernel
theorem d_Decimal_multiply_78 : decode b_Decimal_multiply 78 = .ok (.ifCond .le 15, 3) := by decide +kernel
theorem d_Decimal_multiply_81 : decode b_Decimal_multiply 81 = .ok (.aload_n 0, 1) := by decide +kernel
theorem d_Decimal_multiply_82 : decode b_Decimal_multiply 82 = .ok (.aload_n 0, 1) := by decide +kernel
theorem d_Decimal_multiply_83 : decode b_Decimal_multiply 83 = .ok (.getfield 13, 3) := by decide +kernel
theorem d_Decimal_multiply_86 : decode b_Decimal_multiply 86 = .ok (.iconst 1, 1) := by decide +kernel
theorem d_Decimal_multiply_87 : decode b_Decimal_multiply 87 = .ok (.isub, 1) := by decide +kernel
theorem d_Decimal_multiply_88 : decode b_Decimal_multiply 88 = .ok (.lload_n 2, 1) := by decide +kernel
theorem d_Decimal_multiply_89 : decode b_Decimal_multiply 89 = .ok (.l2i, 1) := by decide +kernel
theorem d_Decimal_multiply_90 : decode b_Decimal_multiply 90 = .ok (.invokevirtual 27, 3) := by decide +kernel
theorem d_Decimal_multiply_93 : decode b_Decimal_multiply 93 = .ok (.aload_n 0, 1) := by decide +kernel
theorem d_Decimal_multiply_94 : decode b_Decimal_multiply 94 = .ok (.invokevirtual 38, 3) := by decide +kernel
theorem d_Decimal_multiply_97 : decode b_Decimal_multiply 97 = .ok (.return_, 1) := by decide +kernel
theorem d_Decimal_findNearest_0 : decode b_Decimal_findNearest 0 = .ok (.iconst 0, 1) := by decide +kernel
theorem d_Decimal_findNearest_1 : decode b_Decimal_findNearest 1 = .ok (.istore_n 2, 1) := by decide +kernel
theorem d_Decimal_findNearest_2 : decode b_Decimal_findNearest 2 = .ok (.iconst 0, 1) := by decide +kernel
theorem d_Decimal_findNearest_3 : decode b_Decimal_findNearest 3 = .ok (.istore_n 3, 1) := by decide +kernel
theorem d_Decimal_findNearest_4 : decode b_Decimal_findNearest 4 = .ok (.iconst 0, 1) := by decide +kernel
theorem d_Decimal_findNearest_5 : decode b_Decimal_findNearest 5 = .ok (.istore 4, 2) := by decide +kernel
theorem d_Decimal_findNearest_7 : decode b_Decimal_findNearest 7 = .ok (.iload 4, 2) := by decide +kernel
theorem d_Decimal_findNearest_9 : decode b_Decimal_findNearest 9 = .ok (.bipush 64, 2) := by decide +kernel
theorem d_Decimal_findNearest_11 : decode b_Decimal_findNearest 11 = .ok (.if_icmp .ge 80, 3) := by decide +kernel
theorem d_Decimal_findNearest_14 : decode b_Decimal_findNearest 14 = .ok (.aload_n 0, 1) := by decide +kernel
theorem d_Decimal_findNearest_15 : decode b_Decimal_findNearest 15 = .ok (.getfield 13, 3) := by decide +kernel
theorem d_Decimal_findNearest_18 : decode b_Decimal_findNearest 18 = .ok (.bipush 34, 2) := by decide +kernel
theorem d_Decimal_findNearest_20 : decode b_Decimal_findNearest 20 = .ok (.if_icmp .ge 71, 3) := by decide +kernel
theorem d_Decimal_findNearest_23 : decode b_Decimal_findNearest 23 = .ok (.aload_n 0, 1) := by decide +kernel
theorem d_Decimal_findNearest_24 : decode b_Decimal_findNearest 24 = .ok (.getfield 13, 3) := by decide +kernel
theorem d_Decimal_findNearest_27 : decode b_Decimal_findNearest 27 = .ok (.bipush 33, 2) := by decide +kernel
theorem d_Decimal_findNearest_29 : decode b_Decimal_findNearest 29 = .ok (.if_icmp .ge 8, 3) := by decide +kernel
theorem d_Decimal_findNearest_32 : decode b_Decimal_findNearest 32 = .ok (.bipush 29, 2) := by decide +kernel
theorem d_Decimal_findNearest_34 : decode b_Decimal_findNearest 34 = .ok (.goto 15, 3) := by decide +kernel
theorem d_Decimal_findNearest_37 : decode b_Decimal_findNearest 37 = .ok (.aload_n 0, 1) := by decide +kernel
theorem d_Decimal_findNearest_38 : decode b_Decimal_findNearest 38 = .ok (.aload_n 0, 1) := by decide +kernel
theorem d_Decimal_findNearest_39 : decode b_Decimal_findNearest 39 = .ok (.getfield 13, 3) := by decide +kernel
theorem d_Decimal_findNearest_42 : decode b_Decimal_findNearest 42 = .ok (.invokevirtual 23, 3) := by decide +kernel
theorem d_Decimal_findNearest_45 : decode b_Decimal_findNearest 45 = .ok (.i2l, 1) := by decide +kernel
theorem d_Decimal_findNearest_46 : decode b_Decimal_findNearest 46 = .ok (.invokestatic 78, 3) := by decide +kernel
theorem d_Decimal_findNearest_49 : decode b_Decimal_findNearest 49 = .ok (.istore 5, 2) := by decide +kernel
theorem d_Decimal_findNearest_51 : decode b_Decimal_findNearest 51 = .ok (.aload_n 0, 1) := by decide +kernel
theorem d_Decimal_findNearest_52 : decode b_Decimal_findNearest 52 = .ok (.iload 5, 2) := by decide +kernel
theorem d_Decimal_findNearest_54 : decode b_Decimal_findNearest 54 = .ok (.invokevirtual 72, 3) := by decide +kernel
theorem d_Decimal_findNearest_57 : decode b_Decimal_findNearest 57 = .ok (.iload_n 3, 1) := by decide +kernel
theorem d_Decimal_findNearest_58 : decode b_Decimal_findNearest 58 = .ok (.ifCond .ne 11, 3) := by decide +kernel
theorem d_Decimal_findNearest_61 : decode b_Decimal_findNearest 61 = .ok (.aload_n 0, 1) := by decide +kernel
theorem d_Decimal_findNearest_62 : decode b_Decimal_findNearest 62 = .ok (.iconst 0, 1) := by decide +kernel
theorem d_Decimal_findNearest_63 : decode b_Decimal_findNearest 63 = .ok (.invokevirtual 50, 3) := by decide +kernel
theorem d_Decimal_findNearest_66 : decode b_Decimal_findNearest 66 = .ok (.ifCond .eq 7, 3) := by decide +kernel
theorem d_Decimal_findNearest_69 : decode b_Decimal_findNearest 69 = .ok (.iconst 1, 1) := by decide +kernel
theorem d_Decimal_findNearest_70 : decode b_Decimal_findNearest 70 = .ok (.goto 4, 3) := by decide +kernel
theorem d_Decimal_findNearest_73 : decode b_Decimal_findNearest 73 = .ok (.iconst 0, 1) := by decide +kernel
theorem d_Decimal_findNearest_74 : decode b_Decimal_findNearest 74 = .ok (.istore_n 3, 1) := by decide +kernel
theorem d_Decimal_findNearest_75 : decode b_Decimal_findNearest 75 = .ok (.aload_n 0, 1) := by decide +kernel
theorem d_Decimal_findNearest_76 : decode b_Decimal_findNearest 76 = .ok (.iconst 0, 1) := by decide +kernel
theorem d_Decimal_findNearest_77 : decode b_Decimal_findNearest 77 = .ok (.invokevirtual 57, 3) := by decide +kernel
theorem d_Decimal_findNearest_80 : decode b_Decimal_findNearest 80 = .ok (.iload_n 2, 1) := by decide +kernel
theorem d_Decimal_findNearest_81 : decode b_Decimal_findNearest 81 = .ok (.iload 5, 2) := by decide +kernel
theorem d_Decimal_findNearest_83 : decode b_Decimal_findNearest 83 = .ok (.iadd, 1) := by decide +kernel
theorem d_Decimal_findNearest_84 : decode b_Decimal_findNearest 84 = .ok (.istore_n 2, 1) := by decide +kernel
theorem d_Decimal_findNearest_85 : decode b_Decimal_findNearest 85 = .ok (.iinc 4 1, 3) := by decide +kernel
theorem d_Decimal_findNearest_88 : decode b_Decimal_findNearest 88 = .ok (.goto (-81), 3) := by decide +kernel
theorem d_Decimal_findNearest_91 : decode b_Decimal_findNearest 91 = .ok (.iconst 0, 1) := by decide +kernel
theorem d_Decimal_findNearest_92 : decode b_Decimal_findNearest 92 = .ok (.istore 4, 2) := by decide +kernel
theorem d_Decimal_findNearest_94 : decode b_Decimal_findNearest 94 = .ok (.iload 4, 2) := by decide +kernel
theorem d_Decimal_findNearest_96 : decode b_Decimal_findNearest 96 = .ok (.bipush 64, 2) := by decide +kernel
theorem d_Decimal_findNearest_98 : decode b_Decimal_findNearest 98 = .ok (.if_icmp .ge 64, 3) := by decide +kernel
theorem d_Decimal_findNearest_101 : decode b_Decimal_findNearest 101 = .ok (.iload_n 2, 1) := by decide +kernel
theorem d_Decimal_findNearest_102 : decode b_Decimal_findNearest 102 = .ok (.sipush (-1075), 3) := by decide +kernel
theorem d_Decimal_findNearest_105 : decode b_Decimal_findNearest 105 = .ok (.if_icmp .le 57, 3) := by decide +kernel
theorem d_Decimal_findNearest_108 : decode b_Decimal_findNearest 108 = .ok (.aload_n 0, 1) := by decide +kernel
theorem d_Decimal_findNearest_109 : decode b_Decimal_findNearest 109 = .ok (.invokevirtual 84, 3) := by decide +kernel
theorem d_Decimal_findNearest_112 : decode b_Decimal_findNearest 112 = .ok (.invokestatic 78, 3) := by decide +kernel
theorem d_Decimal_findNearest_115 : decode b_Decimal_findNearest 115 = .ok (.bipush 54, 2) := by decide +kernel
theorem d_Decimal_findNearest_117 : decode b_Decimal_findNearest 117 = .ok (.if_icmp .ge 45, 3) := by decide +kernel
theorem d_Decimal_findNearest_120 : decode b_Decimal_findNearest 120 = .ok (.bipush 29, 2) := by decide +kernel
theorem d_Decimal_findNearest_122 : decode b_Decimal_findNearest 122 = .ok (.bipush 54, 2) := by decide +kernel
theorem d_Decimal_findNearest_124 : decode b_Decimal_findNearest 124 = .ok (.aload_n 0, 1) := by decide +kernel
theorem d_Decimal_findNearest_125 : decode b_Decimal_findNearest 125 = .ok (.invokevirtual 84, 3) := by decide +kernel
theorem d_Decimal_findNearest_128 : decode b_Decimal_findNearest 128 = .ok (.invokestatic 78, 3) := by decide +kernel
theorem d_Decimal_findNearest_131 : decode b_Decimal_findNearest 131 = .ok (.isub, 1) := by decide +kernel
theorem d_Decimal_findNearest_132 : decode b_Decimal_findNearest 132 = .ok (.sipush 1075, 3) := by decide +kernel
theorem d_Decimal_findNearest_135 : decode b_Decimal_findNearest 135 = .ok (.iload_n 2, 1) := by decide +kernel
theorem d_Decimal_findNearest_136 : decode b_Decimal_findNearest 136 = .ok (.iadd, 1) := by decide +kernel
theorem d_Decimal_findNearest_137 : decode b_Decimal_findNearest 137 = .ok (.invokestatic 69, 3) := by decide +kernel
theorem d_Decimal_findNearest_140 : decode b_Decimal_findNearest 140 = .ok (.invokestatic 69, 3) := by decide +kernel
theorem d_Decimal_findNearest_143 : decode b_Decimal_findNearest 143 = .ok (.istore 5, 2) := by decide +kernel
theorem d_Decimal_findNearest_145 : decode b_Decimal_findNearest 145 = .ok (.aload_n 0, 1) := by decide +kernel
theorem d_Decimal_findNearest_146 : decode b_Decimal_findNearest 146 = .ok (.iload 5, 2) := by decide +kernel
theorem d_Decimal_findNearest_148 : decode b_Decimal_findNearest 148 = .ok (.invokevirtual 75, 3) := by decide +kernel
theorem d_Decimal_findNearest_151 : decode b_Decimal_findNearest 151 = .ok (.iload_n 2, 1) := by decide +kernel
theorem d_Decimal_findNearest_152 : decode b_Decimal_findNearest 152 = .ok (.iload 5, 2) := by decide +kernel
theorem d_Decimal_findNearest_154 : decode b_Decimal_findNearest 154 = .ok (.isub, 1) := by decide +kernel
theorem d_Decimal_findNearest_155 : decode b_Decimal_findNearest 155 = .ok (.istore_n 2, 1) := by decide +kernel
theorem d_Decimal_findNearest_156 : decode b_Decimal_findNearest 156 = .ok (.iinc 4 1, 3) := by decide +kernel
theorem d_Decimal_findNearest_159 : decode b_Decimal_findNearest 159 = .ok (.goto (-65), 3) := by decide +kernel
theorem d_Decimal_findNearest_162 : decode b_Decimal_findNearest 162 = .ok (.aload_n 1, 1) := by decide +kernel
theorem d_Decimal_findNearest_163 : decode b_Decimal_findNearest 163 = .ok (.aload_n 0, 1) := by decide +kernel
theorem d_Decimal_findNearest_164 : decode b_Decimal_findNearest 164 = .ok (.invokevirtual 84, 3) := by decide +kernel
theorem d_Decimal_findNearest_167 : decode b_Decimal_findNearest 167 = .ok (.iload_n 3, 1) := by decide +kernel
theorem d_Decimal_findNearest_168 : decode b_Decimal_findNearest 168 = .ok (.ifCond .ne 11, 3) := by decide +kernel
theorem d_Decimal_findNearest_171 : decode b_Decimal_findNearest 171 = .ok (.aload_n 0, 1) := by decide +kernel
theorem d_Decimal_findNearest_172 : decode b_Decimal_findNearest 172 = .ok (.iconst 0, 1) := by decide +kernel
theorem d_Decimal_findNearest_173 : decode b_Decimal_findNearest 173 = .ok (.invokevirtual 50, 3) := by decide +kernel
theorem d_Decimal_findNearest_176 : decode b_Decimal_findNearest 176 = .ok (.ifCond .eq 7, 3) := by decide +kernel
theorem d_Decimal_findNearest_179 : decode b_Decimal_findNearest 179 = .ok (.iconst 1, 1) := by decide +kernel
theorem d_Decimal_findNearest_180 : decode b_Decimal_findNearest 180 = .ok (.goto 4, 3) := by decide +kernel
theorem d_Decimal_findNearest_183 : decode b_Decimal_findNearest 183 = .ok (.iconst 0, 1) := by decide +kernel
theorem d_Decimal_findNearest_184 : decode b_Decimal_findNearest 184 = .ok (.iload_n 2, 1) := by decide +kernel
theorem d_Decimal_findNearest_185 : decode b_Decimal_findNearest 185 = .ok (.invokevirtual 88, 3) := by decide +kernel
theorem d_Decimal_findNearest_188 : decode b_Decimal_findNearest 188 = .ok (.return_, 1) := by decide +kernel
theorem d_Numeral_findSize_0 : decode b_Numeral_findSize 0 = .ok (.aload_n 0, 1) := by decide +kernel
theorem d_Numeral_findSize_1 : decode b_Numeral_findSize 1 = .ok (.getfield 58, 3) := by decide +kernel
theorem d_Numeral_findSize_4 : decode b_Numeral_findSize 4 = .ok (.ifCond .eq 11, 3) := by decide +kernel
theorem d_Numeral_findSize_7 : decode b_Numeral_findSize 7 = .ok (.aload_n 0, 1) := by decide +kernel
theorem d_Numeral_findSize_8 : decode b_Numeral_findSize 8 = .ok (.aload_n 2, 1) := by decide +kernel
theorem d_Numeral_findSize_9 : decode b_Numeral_findSize 9 = .ok (.invokevirtual 94, 3) := by decide +kernel
theorem d_Numeral_findSize_12 : decode b_Numeral_findSize 12 = .ok (.goto 23, 3) := by decide +kernel
theorem d_Numeral_findSize_15 : decode b_Numeral_findSize 15 = .ok (.aload_n 0, 1) := by decide +kernel
theorem d_Numeral_findSize_16 : decode b_Numeral_findSize 16 = .ok (.aload_n 1, 1) := by decide +kernel
theorem d_Numeral_findSize_17 : decode b_Numeral_findSize 17 = .ok (.invokevirtual 98, 3) := by decide +kernel
theorem d_Numeral_findSize_20 : decode b_Numeral_findSize 20 = .ok (.ifCond .eq 11, 3) := by decide +kernel
theorem d_Numeral_findSize_23 : decode b_Numeral_findSize 23 = .ok (.aload_n 1, 1) := by decide +kernel
theorem d_Numeral_findSize_24 : decode b_Numeral_findSize 24 = .ok (.aload_n 2, 1) := by decide +kernel
theorem d_Numeral_findSize_25 : decode b_Numeral_findSize 25 = .ok (.invokevirtual 102, 3) := by decide +kernel
theorem d_Numeral_findSize_28 : decode b_Numeral_findSize 28 = .ok (.goto 7, 3) := by decide +kernel
theorem d_Numeral_findSize_31 : decode b_Numeral_findSize 31 = .ok (.aload_n 2, 1) := by decide +kernel
theorem d_Numeral_findSize_32 : decode b_Numeral_findSize 32 = .ok (.invokevirtual 107, 3) := by decide +kernel
theorem d_Numeral_findSize_35 : decode b_Numeral_findSize 35 = .ok (.return_, 1) := by decide +kernel
theorem d_Size_isInfinite_0 : decode b_Size_isInfinite 0 = .ok (.aload_n 0, 1) := by decide +kernel
theorem d_Size_isInfinite_1 : decode b_Size_isInfinite 1 = .ok (.getfield 17, 3) := by decide +kernel
theorem d_Size_isInfinite_4 : decode b_Size_isInfinite 4 = .ok (.ireturn, 1) := by decide +kernel
theorem d_Size_factor_0 : decode b_Size_factor 0 = .ok (.aload_n 0, 1) := by decide +kernel
theorem d_Size_factor_1 : decode b_Size_factor 1 = .ok (.getfield 7, 3) := by decide +kernel
theorem d_Size_factor_4 : decode b_Size_factor 4 = .ok (.lreturn, 1) := by decide +kernel
theorem d_Size_power_0 : decode b_Size_power 0 = .ok (.aload_n 0, 1) := by decide +kernel
theorem d_Size_power_1 : decode b_Size_power 1 = .ok (.getfield 13, 3) := by decide +kernel
theorem d_Size_power_4 : decode b_Size_power 4 = .ok (.ireturn, 1) := by decide +kernel
theorem d_N_takeSize_0 : decode b_N_takeSize 0 = .ok (.aload_n 0, 1) := by decide +kernel
theorem d_N_takeSize_1 : decode b_N_takeSize 1 = .ok (.getfield 38, 3) := by decide +kernel
theorem d_N_takeSize_4 : decode b_N_takeSize 4 = .ok (.invokevirtual 172, 3) := by decide +kernel
theorem d_N_takeSize_7 : decode b_N_takeSize 7 = .ok (.ifCond .eq 19, 3) := by decide +kernel
theorem d_N_takeSize_10 : decode b_N_takeSize 10 = .ok (.aload_n 0, 1) := by decide +kernel
theorem d_N_takeSize_11 : decode b_N_takeSize 11 = .ok (.iload_n 1, 1) := by decide +kernel
theorem d_N_takeSize_12 : decode b_N_takeSize 12 = .ok (.ifCond .eq 7, 3) := by decide +kernel
theorem d_N_takeSize_15 : decode b_N_takeSize 15 = .ok (.iconst 4, 1) := by decide +kernel
theorem d_N_takeSize_16 : decode b_N_takeSize 16 = .ok (.goto 4, 3) := by decide +kernel
theorem d_N_takeSize_19 : decode b_N_takeSize 19 = .ok (.iconst 3, 1) := by decide +kernel
theorem d_N_takeSize_20 : decode b_N_takeSize 20 = .ok (.lconst 0, 1) := by decide +kernel
theorem d_N_takeSize_21 : decode b_N_takeSize 21 = .ok (.iconst 0, 1) := by decide +kernel
theorem d_N_takeSize_22 : decode b_N_takeSize 22 = .ok (.invokevirtual 93, 3) := by decide +kernel
theorem d_N_takeSize_25 : decode b_N_takeSize 25 = .ok (.return_, 1) := by decide +kernel
theorem d_N_takeSize_26 : decode b_N_takeSize 26 = .ok (.aload_n 0, 1) := by decide +kernel
theorem d_N_takeSize_27 : decode b_N_takeSize 27 = .ok (.getfield 38, 3) := by decide +kernel
theorem d_N_takeSize_30 : decode b_N_takeSize 30 = .ok (.invokevirtual 175, 3) := by decide +kernel
theorem d_N_takeSize_33 : decode b_N_takeSize 33 = .ok (.lstore_n 2, 1) := by decide +kernel
theorem d_N_takeSize_34 : decode b_N_takeSize 34 = .ok (.aload_n 0, 1) := by decide +kernel
theorem d_N_takeSize_35 : decode b_N_takeSize 35 = .ok (.iconst 2, 1) := by decide +kernel
theorem d_N_takeSize_36 : decode b_N_takeSize 36 = .ok (.iload_n 1, 1) := by decide +kernel
theorem d_N_takeSize_37 : decode b_N_takeSize 37 = .ok (.ifCond .eq 8, 3) := by decide +kernel
theorem d_N_takeSize_40 : decode b_N_takeSize 40 = .ok (.lload_n 2, 1) := by decide +kernel
theorem d_N_takeSize_41 : decode b_N_takeSize 41 = .ok (.lneg, 1) := by decide +kernel
theorem d_N_takeSize_42 : decode b_N_takeSize 42 = .ok (.goto 4, 3) := by decide +kernel
theorem d_N_takeSize_45 : decode b_N_takeSize 45 = .ok (.lload_n 2, 1) := by decide +kernel
theorem d_N_takeSize_46 : decode b_N_takeSize 46 = .ok (.aload_n 0, 1) := by decide +kernel
theorem d_N_takeSize_47 : decode b_N_takeSize 47 = .ok (.getfield 38, 3) := by decide +kernel
theorem d_N_takeSize_50 : decode b_N_takeSize 50 = .ok (.invokevirtual 178, 3) := by decide +kernel
theorem d_N_takeSize_53 : decode b_N_takeSize 53 = .ok (.invokevirtual 93, 3) := by decide +kernel
theorem d_N_takeSize_56 : decode b_N_takeSize 56 = .ok (.return_, 1) := by decide +kernel
theorem d_N_takeNumeral_0 : decode b_N_takeNumeral 0 = .ok (.aload_n 0, 1) := by decide +kernel
theorem d_N_takeNumeral_1 : decode b_N_takeNumeral 1 = .ok (.getfield 21, 3) := by decide +kernel
theorem d_N_takeNumeral_4 : decode b_N_takeNumeral 4 = .ok (.invokevirtual 159, 3) := by decide +kernel
theorem d_N_takeNumeral_7 : decode b_N_takeNumeral 7 = .ok (.istore_n 1, 1) := by decide +kernel
theorem d_N_takeNumeral_8 : decode b_N_takeNumeral 8 = .ok (.aload_n 0, 1) := by decide +kernel
theorem d_N_takeNumeral_9 : decode b_N_takeNumeral 9 = .ok (.getfield 21, 3) := by decide +kernel
theorem d_N_takeNumeral_12 : decode b_N_takeNumeral 12 = .ok (.invokevirtual 162, 3) := by decide +kernel
theorem d_N_takeNumeral_15 : decode b_N_takeNumeral 15 = .ok (.ifCond .eq 28, 3) := by decide +kernel
theorem d_N_takeNumeral_18 : decode b_N_takeNumeral 18 = .ok (.aload_n 0, 1) := by decide +kernel
theorem d_N_takeNumeral_19 : decode b_N_takeNumeral 19 = .ok (.getfield 21, 3) := by decide +kernel
theorem d_N_takeNumeral_22 : decode b_N_takeNumeral 22 = .ok (.invokevirtual 165, 3) := by decide +kernel
theorem d_N_takeNumeral_25 : decode b_N_takeNumeral 25 = .ok (.lstore_n 2, 1) := by decide +kernel
theorem d_N_takeNumeral_26 : decode b_N_takeNumeral 26 = .ok (.aload_n 0, 1) := by decide +kernel
theorem d_N_takeNumeral_27 : decode b_N_takeNumeral 27 = .ok (.iconst 1, 1) := by decide +kernel
theorem d_N_takeNumeral_28 : decode b_N_takeNumeral 28 = .ok (.iload_n 1, 1) := by decide +kernel
theorem d_N_takeNumeral_29 : decode b_N_takeNumeral 29 = .ok (.ifCond .eq 8, 3) := by decide +kernel
theorem d_N_takeNumeral_32 : decode b_N_takeNumeral 32 = .ok (.lload_n 2, 1) := by decide +kernel
theorem d_N_takeNumeral_33 : decode b_N_takeNumeral 33 = .ok (.lneg, 1) := by decide +kernel
theorem d_N_takeNumeral_34 : decode b_N_takeNumeral 34 = .ok (.goto 4, 3) := by decide +kernel
theorem d_N_takeNumeral_37 : decode b_N_takeNumeral 37 = .ok (.lload_n 2, 1) := by decide +kernel
theorem d_N_takeNumeral_38 : decode b_N_takeNumeral 38 = .ok (.iconst 0, 1) := by decide +kernel
theorem d_N_takeNumeral_39 : decode b_N_takeNumeral 39 = .ok (.invokevirtual 93, 3) := by decide +kernel
theorem d_N_takeNumeral_42 : decode b_N_takeNumeral 42 = .ok (.return_, 1) := by decide +kernel
theorem d_N_takeNumeral_43 : decode b_N_takeNumeral 43 = .ok (.aload_n 0, 1) := by decide +kernel
theorem d_N_takeNumeral_44 : decode b_N_takeNumeral 44 = .ok (.getfield 21, 3) := by decide +kernel
theorem d_N_takeNumeral_47 : decode b_N_takeNumeral 47 = .ok (.aload_n 0, 1) := by decide +kernel
theorem d_N_takeNumeral_48 : decode b_N_takeNumeral 48 = .ok (.getfield 28, 3) := by decide +kernel
theorem d_N_takeNumeral_51 : decode b_N_takeNumeral 51 = .ok (.aload_n 0, 1) := by decide +kernel
theorem d_N_takeNumeral_52 : decode b_N_takeNumeral 52 = .ok (.getfield 38, 3) := by decide +kernel
theorem d_N_takeNumeral_55 : decode b_N_takeNumeral 55 = .ok (.invokevirtual 168, 3) := by decide +kernel
theorem d_N_takeNumeral_58 : decode b_N_takeNumeral 58 = .ok (.aload_n 0, 1) := by decide +kernel
theorem d_N_takeNumeral_59 : decode b_N_takeNumeral 59 = .ok (.iload_n 1, 1) := by decide +kernel
theorem d_N_takeNumeral_60 : decode b_N_takeNumeral 60 = .ok (.invokevirtual 105, 3) := by decide +kernel
theorem d_N_takeNumeral_63 : decode b_N_takeNumeral 63 = .ok (.return_, 1) := by decide +kernel
