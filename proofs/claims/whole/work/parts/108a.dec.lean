theorem d_Decimal_setRounded_0 : decode b_Decimal_setRounded 0 = .ok (.aload_n 0, 1) := by decide +kernel
theorem d_Decimal_setRounded_1 : decode b_Decimal_setRounded 1 = .ok (.invokevirtual 64, 3) := by decide +kernel
theorem d_Decimal_setRounded_4 : decode b_Decimal_setRounded 4 = .ok (.aload_n 1, 1) := by decide +kernel
theorem d_Decimal_setRounded_5 : decode b_Decimal_setRounded 5 = .ok (.getfield 13, 3) := by decide +kernel
theorem d_Decimal_setRounded_8 : decode b_Decimal_setRounded 8 = .ok (.istore_n 3, 1) := by decide +kernel
theorem d_Decimal_setRounded_9 : decode b_Decimal_setRounded 9 = .ok (.iload_n 3, 1) := by decide +kernel
theorem d_Decimal_setRounded_10 : decode b_Decimal_setRounded 10 = .ok (.iload_n 2, 1) := by decide +kernel
theorem d_Decimal_setRounded_11 : decode b_Decimal_setRounded 11 = .ok (.invokestatic 34, 3) := by decide +kernel
theorem d_Decimal_setRounded_14 : decode b_Decimal_setRounded 14 = .ok (.if_icmp .gt 19, 3) := by decide +kernel
theorem d_Decimal_setRounded_17 : decode b_Decimal_setRounded 17 = .ok (.aload_n 0, 1) := by decide +kernel
theorem d_Decimal_setRounded_18 : decode b_Decimal_setRounded 18 = .ok (.iload_n 3, 1) := by decide +kernel
theorem d_Decimal_setRounded_19 : decode b_Decimal_setRounded 19 = .ok (.aload_n 1, 1) := by decide +kernel
theorem d_Decimal_setRounded_20 : decode b_Decimal_setRounded 20 = .ok (.iload_n 3, 1) := by decide +kernel
theorem d_Decimal_setRounded_21 : decode b_Decimal_setRounded 21 = .ok (.invokevirtual 23, 3) := by decide +kernel
theorem d_Decimal_setRounded_24 : decode b_Decimal_setRounded 24 = .ok (.invokevirtual 27, 3) := by decide +kernel
theorem d_Decimal_setRounded_27 : decode b_Decimal_setRounded 27 = .ok (.iinc 3 1, 3) := by decide +kernel
theorem d_Decimal_setRounded_30 : decode b_Decimal_setRounded 30 = .ok (.goto (-21), 3) := by decide +kernel
theorem d_Decimal_setRounded_33 : decode b_Decimal_setRounded 33 = .ok (.aload_n 0, 1) := by decide +kernel
theorem d_Decimal_setRounded_34 : decode b_Decimal_setRounded 34 = .ok (.iload_n 2, 1) := by decide +kernel
theorem d_Decimal_setRounded_35 : decode b_Decimal_setRounded 35 = .ok (.invokevirtual 57, 3) := by decide +kernel
theorem d_Decimal_setRounded_38 : decode b_Decimal_setRounded 38 = .ok (.aload_n 1, 1) := by decide +kernel
theorem d_Decimal_setRounded_39 : decode b_Decimal_setRounded 39 = .ok (.iload_n 2, 1) := by decide +kernel
theorem d_Decimal_setRounded_40 : decode b_Decimal_setRounded 40 = .ok (.invokevirtual 54, 3) := by decide +kernel
theorem d_Decimal_setRounded_43 : decode b_Decimal_setRounded 43 = .ok (.ifCond .eq 9, 3) := by decide +kernel
theorem d_Decimal_setRounded_46 : decode b_Decimal_setRounded 46 = .ok (.aload_n 0, 1) := by decide +kernel
theorem d_Decimal_setRounded_47 : decode b_Decimal_setRounded 47 = .ok (.iload_n 2, 1) := by decide +kernel
theorem d_Decimal_setRounded_48 : decode b_Decimal_setRounded 48 = .ok (.iconst 1, 1) := by decide +kernel
theorem d_Decimal_setRounded_49 : decode b_Decimal_setRounded 49 = .ok (.invokevirtual 61, 3) := by decide +kernel
theorem d_Decimal_setRounded_52 : decode b_Decimal_setRounded 52 = .ok (.return_, 1) := by decide +kernel
theorem d_Size_isSame_0 : decode b_Size_isSame 0 = .ok (.aload_n 0, 1) := by decide +kernel
theorem d_Size_isSame_1 : decode b_Size_isSame 1 = .ok (.getfield 17, 3) := by decide +kernel
theorem d_Size_isSame_4 : decode b_Size_isSame 4 = .ok (.aload_n 1, 1) := by decide +kernel
theorem d_Size_isSame_5 : decode b_Size_isSame 5 = .ok (.getfield 17, 3) := by decide +kernel
theorem d_Size_isSame_8 : decode b_Size_isSame 8 = .ok (.if_icmp .ne 30, 3) := by decide +kernel
theorem d_Size_isSame_11 : decode b_Size_isSame 11 = .ok (.aload_n 0, 1) := by decide +kernel
theorem d_Size_isSame_12 : decode b_Size_isSame 12 = .ok (.getfield 7, 3) := by decide +kernel
theorem d_Size_isSame_15 : decode b_Size_isSame 15 = .ok (.aload_n 1, 1) := by decide +kernel
theorem d_Size_isSame_16 : decode b_Size_isSame 16 = .ok (.getfield 7, 3) := by decide +kernel
theorem d_Size_isSame_19 : decode b_Size_isSame 19 = .ok (.lcmp, 1) := by decide +kernel
theorem d_Size_isSame_20 : decode b_Size_isSame 20 = .ok (.ifCond .ne 18, 3) := by decide +kernel
theorem d_Size_isSame_23 : decode b_Size_isSame 23 = .ok (.aload_n 0, 1) := by decide +kernel
theorem d_Size_isSame_24 : decode b_Size_isSame 24 = .ok (.getfield 13, 3) := by decide +kernel
theorem d_Size_isSame_27 : decode b_Size_isSame 27 = .ok (.aload_n 1, 1) := by decide +kernel
theorem d_Size_isSame_28 : decode b_Size_isSame 28 = .ok (.getfield 13, 3) := by decide +kernel
theorem d_Size_isSame_31 : decode b_Size_isSame 31 = .ok (.if_icmp .ne 7, 3) := by decide +kernel
theorem d_Size_isSame_34 : decode b_Size_isSame 34 = .ok (.iconst 1, 1) := by decide +kernel
theorem d_Size_isSame_35 : decode b_Size_isSame 35 = .ok (.goto 4, 3) := by decide +kernel
theorem d_Size_isSame_38 : decode b_Size_isSame 38 = .ok (.iconst 0, 1) := by decide +kernel
theorem d_Size_isSame_39 : decode b_Size_isSame 39 = .ok (.ireturn, 1) := by decide +kernel
theorem d_N_leastPrecision_0 : decode b_N_leastPrecision 0 = .ok (.aload_n 0, 1) := by decide +kernel
theorem d_N_leastPrecision_1 : decode b_N_leastPrecision 1 = .ok (.getfield 32, 3) := by decide +kernel
theorem d_N_leastPrecision_4 : decode b_N_leastPrecision 4 = .ok (.aload_n 0, 1) := by decide +kernel
theorem d_N_leastPrecision_5 : decode b_N_leastPrecision 5 = .ok (.getfield 38, 3) := by decide +kernel
theorem d_N_leastPrecision_8 : decode b_N_leastPrecision 8 = .ok (.invokevirtual 175, 3) := by decide +kernel
theorem d_N_leastPrecision_11 : decode b_N_leastPrecision 11 = .ok (.aload_n 0, 1) := by decide +kernel
theorem d_N_leastPrecision_12 : decode b_N_leastPrecision 12 = .ok (.getfield 38, 3) := by decide +kernel
theorem d_N_leastPrecision_15 : decode b_N_leastPrecision 15 = .ok (.invokevirtual 178, 3) := by decide +kernel
theorem d_N_leastPrecision_18 : decode b_N_leastPrecision 18 = .ok (.invokevirtual 193, 3) := by decide +kernel
theorem d_N_leastPrecision_21 : decode b_N_leastPrecision 21 = .ok (.aload_n 0, 1) := by decide +kernel
theorem d_N_leastPrecision_22 : decode b_N_leastPrecision 22 = .ok (.getfield 32, 3) := by decide +kernel
theorem d_N_leastPrecision_25 : decode b_N_leastPrecision 25 = .ok (.invokevirtual 197, 3) := by decide +kernel
theorem d_N_leastPrecision_28 : decode b_N_leastPrecision 28 = .ok (.istore_n 1, 1) := by decide +kernel
theorem d_N_leastPrecision_29 : decode b_N_leastPrecision 29 = .ok (.iconst 0, 1) := by decide +kernel
theorem d_N_leastPrecision_30 : decode b_N_leastPrecision 30 = .ok (.istore_n 2, 1) := by decide +kernel
theorem d_N_leastPrecision_31 : decode b_N_leastPrecision 31 = .ok (.iload_n 2, 1) := by decide +kernel
theorem d_N_leastPrecision_32 : decode b_N_leastPrecision 32 = .ok (.bipush 16, 2) := by decide +kernel
theorem d_N_leastPrecision_34 : decode b_N_leastPrecision 34 = .ok (.if_icmp .ge 50, 3) := by decide +kernel
theorem d_N_leastPrecision_37 : decode b_N_leastPrecision 37 = .ok (.aload_n 0, 1) := by decide +kernel
theorem d_N_leastPrecision_38 : decode b_N_leastPrecision 38 = .ok (.getfield 28, 3) := by decide +kernel
theorem d_N_leastPrecision_41 : decode b_N_leastPrecision 41 = .ok (.aload_n 0, 1) := by decide +kernel
theorem d_N_leastPrecision_42 : decode b_N_leastPrecision 42 = .ok (.getfield 32, 3) := by decide +kernel
theorem d_N_leastPrecision_45 : decode b_N_leastPrecision 45 = .ok (.iload_n 1, 1) := by decide +kernel
theorem d_N_leastPrecision_46 : decode b_N_leastPrecision 46 = .ok (.iload_n 2, 1) := by decide +kernel
theorem d_N_leastPrecision_47 : decode b_N_leastPrecision 47 = .ok (.isub, 1) := by decide +kernel
theorem d_N_leastPrecision_48 : decode b_N_leastPrecision 48 = .ok (.invokevirtual 200, 3) := by decide +kernel
theorem d_N_leastPrecision_51 : decode b_N_leastPrecision 51 = .ok (.aload_n 0, 1) := by decide +kernel
theorem d_N_leastPrecision_52 : decode b_N_leastPrecision 52 = .ok (.getfield 28, 3) := by decide +kernel
theorem d_N_leastPrecision_55 : decode b_N_leastPrecision 55 = .ok (.aload_n 0, 1) := by decide +kernel
theorem d_N_leastPrecision_56 : decode b_N_leastPrecision 56 = .ok (.getfield 42, 3) := by decide +kernel
theorem d_N_leastPrecision_59 : decode b_N_leastPrecision 59 = .ok (.invokevirtual 204, 3) := by decide +kernel
theorem d_N_leastPrecision_62 : decode b_N_leastPrecision 62 = .ok (.aload_n 0, 1) := by decide +kernel
theorem d_N_leastPrecision_63 : decode b_N_leastPrecision 63 = .ok (.getfield 42, 3) := by decide +kernel
theorem d_N_leastPrecision_66 : decode b_N_leastPrecision 66 = .ok (.aload_n 0, 1) := by decide +kernel
theorem d_N_leastPrecision_67 : decode b_N_leastPrecision 67 = .ok (.getfield 38, 3) := by decide +kernel
theorem d_N_leastPrecision_70 : decode b_N_leastPrecision 70 = .ok (.invokevirtual 208, 3) := by decide +kernel
theorem d_N_leastPrecision_73 : decode b_N_leastPrecision 73 = .ok (.ifCond .eq 5, 3) := by decide +kernel
theorem d_N_leastPrecision_76 : decode b_N_leastPrecision 76 = .ok (.iload_n 2, 1) := by decide +kernel
theorem d_N_leastPrecision_77 : decode b_N_leastPrecision 77 = .ok (.ireturn, 1) := by decide +kernel
theorem d_N_leastPrecision_78 : decode b_N_leastPrecision 78 = .ok (.iinc 2 1, 3) := by decide +kernel
theorem d_N_leastPrecision_81 : decode b_N_leastPrecision 81 = .ok (.goto (-50), 3) := by decide +kernel
theorem d_N_leastPrecision_84 : decode b_N_leastPrecision 84 = .ok (.bipush 16, 2) := by decide +kernel
theorem d_N_leastPrecision_86 : decode b_N_leastPrecision 86 = .ok (.ireturn, 1) := by decide +kernel
theorem d_N_shortest_0 : decode b_N_shortest 0 = .ok (.aload_n 0, 1) := by decide +kernel
theorem d_N_shortest_1 : decode b_N_shortest 1 = .ok (.getfield 61, 3) := by decide +kernel
theorem d_N_shortest_4 : decode b_N_shortest 4 = .ok (.iconst 1, 1) := by decide +kernel
theorem d_N_shortest_5 : decode b_N_shortest 5 = .ok (.if_icmp .eq 13, 3) := by decide +kernel
theorem d_N_shortest_8 : decode b_N_shortest 8 = .ok (.aload_n 0, 1) := by decide +kernel
theorem d_N_shortest_9 : decode b_N_shortest 9 = .ok (.getfield 61, 3) := by decide +kernel
theorem d_N_shortest_12 : decode b_N_shortest 12 = .ok (.iconst 2, 1) := by decide +kernel
theorem d_N_shortest_13 : decode b_N_shortest 13 = .ok (.if_icmp .eq 5, 3) := by decide +kernel
theorem d_N_shortest_16 : decode b_N_shortest 16 = .ok (.iconst (-1), 1) := by decide +kernel
theorem d_N_shortest_17 : decode b_N_shortest 17 = .ok (.ireturn, 1) := by decide +kernel
theorem d_N_shortest_18 : decode b_N_shortest 18 = .ok (.aload_n 0, 1) := by decide +kernel
theorem d_N_shortest_19 : decode b_N_shortest 19 = .ok (.invokevirtual 145, 3) := by decide +kernel
theorem d_N_shortest_22 : decode b_N_shortest 22 = .ok (.aload_n 0, 1) := by decide +kernel
theorem d_N_shortest_23 : decode b_N_shortest 23 = .ok (.invokevirtual 148, 3) := by decide +kernel
theorem d_N_shortest_26 : decode b_N_shortest 26 = .ok (.istore_n 1, 1) := by decide +kernel
theorem d_N_shortest_27 : decode b_N_shortest 27 = .ok (.aload_n 0, 1) := by decide +kernel
theorem d_N_shortest_28 : decode b_N_shortest 28 = .ok (.getfield 57, 3) := by decide +kernel
theorem d_N_shortest_31 : decode b_N_shortest 31 = .ok (.bipush 101, 2) := by decide +kernel
theorem d_N_shortest_33 : decode b_N_shortest 33 = .ok (.iconst 0, 1) := by decide +kernel
theorem d_N_shortest_34 : decode b_N_shortest 34 = .ok (.iconst 0, 1) := by decide +kernel
theorem d_N_shortest_35 : decode b_N_shortest 35 = .ok (.iload_n 1, 1) := by decide +kernel
theorem d_N_shortest_36 : decode b_N_shortest 36 = .ok (.invokevirtual 109, 3) := by decide +kernel
theorem d_N_shortest_39 : decode b_N_shortest 39 = .ok (.aload_n 0, 1) := by decide +kernel
theorem d_N_shortest_40 : decode b_N_shortest 40 = .ok (.getfield 57, 3) := by decide +kernel
theorem d_N_shortest_43 : decode b_N_shortest 43 = .ok (.aload_n 0, 1) := by decide +kernel
theorem d_N_shortest_44 : decode b_N_shortest 44 = .ok (.getfield 65, 3) := by decide +kernel
theorem d_N_shortest_47 : decode b_N_shortest 47 = .ok (.lconst 0, 1) := by decide +kernel
theorem d_N_shortest_48 : decode b_N_shortest 48 = .ok (.lcmp, 1) := by decide +kernel
theorem d_N_shortest_49 : decode b_N_shortest 49 = .ok (.ifCond .ge 7, 3) := by decide +kernel
theorem d_N_shortest_52 : decode b_N_shortest 52 = .ok (.iconst 1, 1) := by decide +kernel
theorem d_N_shortest_53 : decode b_N_shortest 53 = .ok (.goto 4, 3) := by decide +kernel
theorem d_N_shortest_56 : decode b_N_shortest 56 = .ok (.iconst 0, 1) := by decide +kernel
theorem d_N_shortest_57 : decode b_N_shortest 57 = .ok (.aload_n 0, 1) := by decide +kernel
theorem d_N_shortest_58 : decode b_N_shortest 58 = .ok (.getfield 38, 3) := by decide +kernel
theorem d_N_shortest_61 : decode b_N_shortest 61 = .ok (.invokevirtual 151, 3) := by decide +kernel
theorem d_N_shortest_64 : decode b_N_shortest 64 = .ok (.iload_n 1, 1) := by decide +kernel
theorem d_N_shortest_65 : decode b_N_shortest 65 = .ok (.iconst 1, 1) := by decide +kernel
theorem d_N_shortest_66 : decode b_N_shortest 66 = .ok (.iadd, 1) := by decide +kernel
theorem d_N_shortest_67 : decode b_N_shortest 67 = .ok (.ireturn, 1) := by decide +kernel
theorem d_N_written_0 : decode b_N_written 0 = .ok (.aload_n 0, 1) := by decide +kernel
theorem d_N_written_1 : decode b_N_written 1 = .ok (.getfield 48, 3) := by decide +kernel
theorem d_N_written_4 : decode b_N_written 4 = .ok (.iload_n 1, 1) := by decide +kernel
theorem d_N_written_5 : decode b_N_written 5 = .ok (.invokevirtual 155, 3) := by decide +kernel
theorem d_N_written_8 : decode b_N_written 8 = .ok (.ireturn, 1) := by decide +kernel
