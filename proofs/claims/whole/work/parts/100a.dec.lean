theorem d_Tape_hasRoomFor_0 : decode b_Tape_hasRoomFor 0 = .ok (.iload_n 1, 1) := by decide +kernel
theorem d_Tape_hasRoomFor_1 : decode b_Tape_hasRoomFor 1 = .ok (.sipush 1200, 3) := by decide +kernel
theorem d_Tape_hasRoomFor_4 : decode b_Tape_hasRoomFor 4 = .ok (.aload_n 0, 1) := by decide +kernel
theorem d_Tape_hasRoomFor_5 : decode b_Tape_hasRoomFor 5 = .ok (.getfield 13, 3) := by decide +kernel
theorem d_Tape_hasRoomFor_8 : decode b_Tape_hasRoomFor 8 = .ok (.isub, 1) := by decide +kernel
theorem d_Tape_hasRoomFor_9 : decode b_Tape_hasRoomFor 9 = .ok (.if_icmp .gt 7, 3) := by decide +kernel
theorem d_Tape_hasRoomFor_12 : decode b_Tape_hasRoomFor 12 = .ok (.iconst 1, 1) := by decide +kernel
theorem d_Tape_hasRoomFor_13 : decode b_Tape_hasRoomFor 13 = .ok (.goto 4, 3) := by decide +kernel
theorem d_Tape_hasRoomFor_16 : decode b_Tape_hasRoomFor 16 = .ok (.iconst 0, 1) := by decide +kernel
theorem d_Tape_hasRoomFor_17 : decode b_Tape_hasRoomFor 17 = .ok (.ireturn, 1) := by decide +kernel
theorem d_Tape_add_0 : decode b_Tape_add 0 = .ok (.aload_n 0, 1) := by decide +kernel
theorem d_Tape_add_1 : decode b_Tape_add 1 = .ok (.getfield 13, 3) := by decide +kernel
theorem d_Tape_add_4 : decode b_Tape_add 4 = .ok (.ifCond .lt 36, 3) := by decide +kernel
theorem d_Tape_add_7 : decode b_Tape_add 7 = .ok (.aload_n 0, 1) := by decide +kernel
theorem d_Tape_add_8 : decode b_Tape_add 8 = .ok (.getfield 13, 3) := by decide +kernel
theorem d_Tape_add_11 : decode b_Tape_add 11 = .ok (.aload_n 0, 1) := by decide +kernel
theorem d_Tape_add_12 : decode b_Tape_add 12 = .ok (.getfield 9, 3) := by decide +kernel
theorem d_Tape_add_15 : decode b_Tape_add 15 = .ok (.arraylength, 1) := by decide +kernel
theorem d_Tape_add_16 : decode b_Tape_add 16 = .ok (.if_icmp .ge 24, 3) := by decide +kernel
theorem d_Tape_add_19 : decode b_Tape_add 19 = .ok (.aload_n 0, 1) := by decide +kernel
theorem d_Tape_add_20 : decode b_Tape_add 20 = .ok (.getfield 9, 3) := by decide +kernel
theorem d_Tape_add_23 : decode b_Tape_add 23 = .ok (.aload_n 0, 1) := by decide +kernel
theorem d_Tape_add_24 : decode b_Tape_add 24 = .ok (.getfield 13, 3) := by decide +kernel
theorem d_Tape_add_27 : decode b_Tape_add 27 = .ok (.iload_n 1, 1) := by decide +kernel
theorem d_Tape_add_28 : decode b_Tape_add 28 = .ok (.i2b, 1) := by decide +kernel
theorem d_Tape_add_29 : decode b_Tape_add 29 = .ok (.bastore, 1) := by decide +kernel
theorem d_Tape_add_30 : decode b_Tape_add 30 = .ok (.aload_n 0, 1) := by decide +kernel
theorem d_Tape_add_31 : decode b_Tape_add 31 = .ok (.dup, 1) := by decide +kernel
theorem d_Tape_add_32 : decode b_Tape_add 32 = .ok (.getfield 13, 3) := by decide +kernel
theorem d_Tape_add_35 : decode b_Tape_add 35 = .ok (.iconst 1, 1) := by decide +kernel
theorem d_Tape_add_36 : decode b_Tape_add 36 = .ok (.iadd, 1) := by decide +kernel
theorem d_Tape_add_37 : decode b_Tape_add 37 = .ok (.putfield 13, 3) := by decide +kernel
theorem d_Tape_add_40 : decode b_Tape_add 40 = .ok (.return_, 1) := by decide +kernel
theorem d_Tape_length_0 : decode b_Tape_length 0 = .ok (.aload_n 0, 1) := by decide +kernel
theorem d_Tape_length_1 : decode b_Tape_length 1 = .ok (.getfield 13, 3) := by decide +kernel
theorem d_Tape_length_4 : decode b_Tape_length 4 = .ok (.ireturn, 1) := by decide +kernel
theorem d_N_type_0 : decode b_N_type 0 = .ok (.iload_n 3, 1) := by decide +kernel
theorem d_N_type_1 : decode b_N_type 1 = .ok (.iconst 1, 1) := by decide +kernel
theorem d_N_type_2 : decode b_N_type 2 = .ok (.if_icmp .lt 9, 3) := by decide +kernel
theorem d_N_type_5 : decode b_N_type 5 = .ok (.iload_n 3, 1) := by decide +kernel
theorem d_N_type_6 : decode b_N_type 6 = .ok (.bipush 8, 2) := by decide +kernel
theorem d_N_type_8 : decode b_N_type 8 = .ok (.if_icmp .le 5, 3) := by decide +kernel
theorem d_N_type_11 : decode b_N_type 11 = .ok (.iconst (-1), 1) := by decide +kernel
theorem d_N_type_12 : decode b_N_type 12 = .ok (.ireturn, 1) := by decide +kernel
theorem d_N_type_13 : decode b_N_type 13 = .ok (.aload_n 0, 1) := by decide +kernel
theorem d_N_type_14 : decode b_N_type 14 = .ok (.getfield 10, 3) := by decide +kernel
theorem d_N_type_17 : decode b_N_type 17 = .ok (.iload_n 3, 1) := by decide +kernel
theorem d_N_type_18 : decode b_N_type 18 = .ok (.invokevirtual 72, 3) := by decide +kernel
theorem d_N_type_21 : decode b_N_type 21 = .ok (.ifCond .ne 6, 3) := by decide +kernel
theorem d_N_type_24 : decode b_N_type 24 = .ok (.bipush (-3), 2) := by decide +kernel
theorem d_N_type_26 : decode b_N_type 26 = .ok (.ireturn, 1) := by decide +kernel
theorem d_N_type_27 : decode b_N_type 27 = .ok (.iload_n 3, 1) := by decide +kernel
theorem d_N_type_28 : decode b_N_type 28 = .ok (.iconst 1, 1) := by decide +kernel
theorem d_N_type_29 : decode b_N_type 29 = .ok (.isub, 1) := by decide +kernel
theorem d_N_type_30 : decode b_N_type 30 = .ok (.istore 4, 2) := by decide +kernel
theorem d_N_type_32 : decode b_N_type 32 = .ok (.iload 4, 2) := by decide +kernel
theorem d_N_type_34 : decode b_N_type 34 = .ok (.ifCond .lt 28, 3) := by decide +kernel
theorem d_N_type_37 : decode b_N_type 37 = .ok (.aload_n 0, 1) := by decide +kernel
theorem d_N_type_38 : decode b_N_type 38 = .ok (.getfield 10, 3) := by decide +kernel
theorem d_N_type_41 : decode b_N_type 41 = .ok (.lload_n 1, 1) := by decide +kernel
theorem d_N_type_42 : decode b_N_type 42 = .ok (.bipush 8, 2) := by decide +kernel
theorem d_N_type_44 : decode b_N_type 44 = .ok (.iload 4, 2) := by decide +kernel
theorem d_N_type_46 : decode b_N_type 46 = .ok (.imul, 1) := by decide +kernel
theorem d_N_type_47 : decode b_N_type 47 = .ok (.lushr, 1) := by decide +kernel
theorem d_N_type_48 : decode b_N_type 48 = .ok (.l2i, 1) := by decide +kernel
theorem d_N_type_49 : decode b_N_type 49 = .ok (.sipush 255, 3) := by decide +kernel
theorem d_N_type_52 : decode b_N_type 52 = .ok (.iand, 1) := by decide +kernel
theorem d_N_type_53 : decode b_N_type 53 = .ok (.invokevirtual 76, 3) := by decide +kernel
theorem d_N_type_56 : decode b_N_type 56 = .ok (.iinc 4 (-1), 3) := by decide +kernel
theorem d_N_type_59 : decode b_N_type 59 = .ok (.goto (-27), 3) := by decide +kernel
theorem d_N_type_62 : decode b_N_type 62 = .ok (.aload_n 0, 1) := by decide +kernel
theorem d_N_type_63 : decode b_N_type 63 = .ok (.getfield 10, 3) := by decide +kernel
theorem d_N_type_66 : decode b_N_type 66 = .ok (.invokevirtual 80, 3) := by decide +kernel
theorem d_N_type_69 : decode b_N_type 69 = .ok (.ireturn, 1) := by decide +kernel
theorem d_Tape_at_0 : decode b_Tape_at 0 = .ok (.iload_n 1, 1) := by decide +kernel
theorem d_Tape_at_1 : decode b_Tape_at 1 = .ok (.ifCond .lt 20, 3) := by decide +kernel
theorem d_Tape_at_4 : decode b_Tape_at 4 = .ok (.iload_n 1, 1) := by decide +kernel
theorem d_Tape_at_5 : decode b_Tape_at 5 = .ok (.aload_n 0, 1) := by decide +kernel
theorem d_Tape_at_6 : decode b_Tape_at 6 = .ok (.getfield 13, 3) := by decide +kernel
theorem d_Tape_at_9 : decode b_Tape_at 9 = .ok (.if_icmp .ge 12, 3) := by decide +kernel
theorem d_Tape_at_12 : decode b_Tape_at 12 = .ok (.iload_n 1, 1) := by decide +kernel
theorem d_Tape_at_13 : decode b_Tape_at 13 = .ok (.aload_n 0, 1) := by decide +kernel
theorem d_Tape_at_14 : decode b_Tape_at 14 = .ok (.getfield 9, 3) := by decide +kernel
theorem d_Tape_at_17 : decode b_Tape_at 17 = .ok (.arraylength, 1) := by decide +kernel
theorem d_Tape_at_18 : decode b_Tape_at 18 = .ok (.if_icmp .lt 7, 3) := by decide +kernel
theorem d_Tape_at_21 : decode b_Tape_at 21 = .ok (.iconst (-1), 1) := by decide +kernel
theorem d_Tape_at_22 : decode b_Tape_at 22 = .ok (.goto 13, 3) := by decide +kernel
theorem d_Tape_at_25 : decode b_Tape_at 25 = .ok (.aload_n 0, 1) := by decide +kernel
theorem d_Tape_at_26 : decode b_Tape_at 26 = .ok (.getfield 9, 3) := by decide +kernel
theorem d_Tape_at_29 : decode b_Tape_at 29 = .ok (.iload_n 1, 1) := by decide +kernel
theorem d_Tape_at_30 : decode b_Tape_at 30 = .ok (.baload, 1) := by decide +kernel
theorem d_Tape_at_31 : decode b_Tape_at 31 = .ok (.sipush 255, 3) := by decide +kernel
theorem d_Tape_at_34 : decode b_Tape_at 34 = .ok (.iand, 1) := by decide +kernel
theorem d_Tape_at_35 : decode b_Tape_at 35 = .ok (.ireturn, 1) := by decide +kernel
theorem d_Numeral_isBlank_0 : decode b_Numeral_isBlank 0 = .ok (.iload_n 0, 1) := by decide +kernel
theorem d_Numeral_isBlank_1 : decode b_Numeral_isBlank 1 = .ok (.bipush 9, 2) := by decide +kernel
theorem d_Numeral_isBlank_3 : decode b_Numeral_isBlank 3 = .ok (.if_icmp .lt 9, 3) := by decide +kernel
theorem d_Numeral_isBlank_6 : decode b_Numeral_isBlank 6 = .ok (.iload_n 0, 1) := by decide +kernel
theorem d_Numeral_isBlank_7 : decode b_Numeral_isBlank 7 = .ok (.bipush 13, 2) := by decide +kernel
theorem d_Numeral_isBlank_9 : decode b_Numeral_isBlank 9 = .ok (.if_icmp .le 9, 3) := by decide +kernel
theorem d_Numeral_isBlank_12 : decode b_Numeral_isBlank 12 = .ok (.iload_n 0, 1) := by decide +kernel
theorem d_Numeral_isBlank_13 : decode b_Numeral_isBlank 13 = .ok (.bipush 32, 2) := by decide +kernel
theorem d_Numeral_isBlank_15 : decode b_Numeral_isBlank 15 = .ok (.if_icmp .ne 7, 3) := by decide +kernel
theorem d_Numeral_isBlank_18 : decode b_Numeral_isBlank 18 = .ok (.iconst 1, 1) := by decide +kernel
theorem d_Numeral_isBlank_19 : decode b_Numeral_isBlank 19 = .ok (.goto 4, 3) := by decide +kernel
theorem d_Numeral_isBlank_22 : decode b_Numeral_isBlank 22 = .ok (.iconst 0, 1) := by decide +kernel
theorem d_Numeral_isBlank_23 : decode b_Numeral_isBlank 23 = .ok (.ireturn, 1) := by decide +kernel
theorem d_Numeral_passBlanks_0 : decode b_Numeral_passBlanks 0 = .ok (.aload_n 0, 1) := by decide +kernel
theorem d_Numeral_passBlanks_1 : decode b_Numeral_passBlanks 1 = .ok (.getfield 7, 3) := by decide +kernel
theorem d_Numeral_passBlanks_4 : decode b_Numeral_passBlanks 4 = .ok (.invokevirtual 44, 3) := by decide +kernel
theorem d_Numeral_passBlanks_7 : decode b_Numeral_passBlanks 7 = .ok (.istore_n 1, 1) := by decide +kernel
theorem d_Numeral_passBlanks_8 : decode b_Numeral_passBlanks 8 = .ok (.aload_n 0, 1) := by decide +kernel
theorem d_Numeral_passBlanks_9 : decode b_Numeral_passBlanks 9 = .ok (.getfield 21, 3) := by decide +kernel
theorem d_Numeral_passBlanks_12 : decode b_Numeral_passBlanks 12 = .ok (.iload_n 1, 1) := by decide +kernel
theorem d_Numeral_passBlanks_13 : decode b_Numeral_passBlanks 13 = .ok (.if_icmp .ge 33, 3) := by decide +kernel
theorem d_Numeral_passBlanks_16 : decode b_Numeral_passBlanks 16 = .ok (.aload_n 0, 1) := by decide +kernel
theorem d_Numeral_passBlanks_17 : decode b_Numeral_passBlanks 17 = .ok (.getfield 7, 3) := by decide +kernel
theorem d_Numeral_passBlanks_20 : decode b_Numeral_passBlanks 20 = .ok (.aload_n 0, 1) := by decide +kernel
theorem d_Numeral_passBlanks_21 : decode b_Numeral_passBlanks 21 = .ok (.getfield 21, 3) := by decide +kernel
theorem d_Numeral_passBlanks_24 : decode b_Numeral_passBlanks 24 = .ok (.invokevirtual 50, 3) := by decide +kernel
theorem d_Numeral_passBlanks_27 : decode b_Numeral_passBlanks 27 = .ok (.invokestatic 54, 3) := by decide +kernel
theorem d_Numeral_passBlanks_30 : decode b_Numeral_passBlanks 30 = .ok (.ifCond .eq 16, 3) := by decide +kernel
theorem d_Numeral_passBlanks_33 : decode b_Numeral_passBlanks 33 = .ok (.aload_n 0, 1) := by decide +kernel
theorem d_Numeral_passBlanks_34 : decode b_Numeral_passBlanks 34 = .ok (.dup, 1) := by decide +kernel
theorem d_Numeral_passBlanks_35 : decode b_Numeral_passBlanks 35 = .ok (.getfield 21, 3) := by decide +kernel
theorem d_Numeral_passBlanks_38 : decode b_Numeral_passBlanks 38 = .ok (.iconst 1, 1) := by decide +kernel
theorem d_Numeral_passBlanks_39 : decode b_Numeral_passBlanks 39 = .ok (.iadd, 1) := by decide +kernel
theorem d_Numeral_passBlanks_40 : decode b_Numeral_passBlanks 40 = .ok (.putfield 21, 3) := by decide +kernel
theorem d_Numeral_passBlanks_43 : decode b_Numeral_passBlanks 43 = .ok (.goto (-35), 3) := by decide +kernel
theorem d_Numeral_passBlanks_46 : decode b_Numeral_passBlanks 46 = .ok (.return_, 1) := by decide +kernel
theorem d_Numeral_passSign_0 : decode b_Numeral_passSign 0 = .ok (.aload_n 0, 1) := by decide +kernel
theorem d_Numeral_passSign_1 : decode b_Numeral_passSign 1 = .ok (.getfield 7, 3) := by decide +kernel
theorem d_Numeral_passSign_4 : decode b_Numeral_passSign 4 = .ok (.aload_n 0, 1) := by decide +kernel
theorem d_Numeral_passSign_5 : decode b_Numeral_passSign 5 = .ok (.getfield 21, 3) := by decide +kernel
theorem d_Numeral_passSign_8 : decode b_Numeral_passSign 8 = .ok (.invokevirtual 50, 3) := by decide +kernel
theorem d_Numeral_passSign_11 : decode b_Numeral_passSign 11 = .ok (.istore_n 1, 1) := by decide +kernel
theorem d_Numeral_passSign_12 : decode b_Numeral_passSign 12 = .ok (.iload_n 1, 1) := by decide +kernel
theorem d_Numeral_passSign_13 : decode b_Numeral_passSign 13 = .ok (.bipush 43, 2) := by decide +kernel
theorem d_Numeral_passSign_15 : decode b_Numeral_passSign 15 = .ok (.if_icmp .eq 9, 3) := by decide +kernel
theorem d_Numeral_passSign_18 : decode b_Numeral_passSign 18 = .ok (.iload_n 1, 1) := by decide +kernel
theorem d_Numeral_passSign_19 : decode b_Numeral_passSign 19 = .ok (.bipush 45, 2) := by decide +kernel
theorem d_Numeral_passSign_21 : decode b_Numeral_passSign 21 = .ok (.if_icmp .ne 13, 3) := by decide +kernel
theorem d_Numeral_passSign_24 : decode b_Numeral_passSign 24 = .ok (.aload_n 0, 1) := by decide +kernel
theorem d_Numeral_passSign_25 : decode b_Numeral_passSign 25 = .ok (.dup, 1) := by decide +kernel
theorem d_Numeral_passSign_26 : decode b_Numeral_passSign 26 = .ok (.getfield 21, 3) := by decide +kernel
theorem d_Numeral_passSign_29 : decode b_Numeral_passSign 29 = .ok (.iconst 1, 1) := by decide +kernel
theorem d_Numeral_passSign_30 : decode b_Numeral_passSign 30 = .ok (.iadd, 1) := by decide +kernel
theorem d_Numeral_passSign_31 : decode b_Numeral_passSign 31 = .ok (.putfield 21, 3) := by decide +kernel
theorem d_Numeral_passSign_34 : decode b_Numeral_passSign 34 = .ok (.iload_n 1, 1) := by decide +kernel
theorem d_Numeral_passSign_35 : decode b_Numeral_passSign 35 = .ok (.bipush 45, 2) := by decide +kernel
theorem d_Numeral_passSign_37 : decode b_Numeral_passSign 37 = .ok (.if_icmp .ne 7, 3) := by decide +kernel
theorem d_Numeral_passSign_40 : decode b_Numeral_passSign 40 = .ok (.iconst 1, 1) := by decide +kernel
theorem d_Numeral_passSign_41 : decode b_Numeral_passSign 41 = .ok (.goto 4, 3) := by decide +kernel
theorem d_Numeral_passSign_44 : decode b_Numeral_passSign 44 = .ok (.iconst 0, 1) := by decide +kernel
theorem d_Numeral_passSign_45 : decode b_Numeral_passSign 45 = .ok (.ireturn, 1) := by decide +kernel
theorem d_Numeral_passPrefix_0 : decode b_Numeral_passPrefix 0 = .ok (.aload_n 0, 1) := by decide +kernel
theorem d_Numeral_passPrefix_1 : decode b_Numeral_passPrefix 1 = .ok (.getfield 7, 3) := by decide +kernel
theorem d_Numeral_passPrefix_4 : decode b_Numeral_passPrefix 4 = .ok (.aload_n 0, 1) := by decide +kernel
theorem d_Numeral_passPrefix_5 : decode b_Numeral_passPrefix 5 = .ok (.getfield 21, 3) := by decide +kernel
theorem d_Numeral_passPrefix_8 : decode b_Numeral_passPrefix 8 = .ok (.iconst 1, 1) := by decide +kernel
theorem d_Numeral_passPrefix_9 : decode b_Numeral_passPrefix 9 = .ok (.iadd, 1) := by decide +kernel
theorem d_Numeral_passPrefix_10 : decode b_Numeral_passPrefix 10 = .ok (.invokevirtual 50, 3) := by decide +kernel
theorem d_Numeral_passPrefix_13 : decode b_Numeral_passPrefix 13 = .ok (.istore_n 1, 1) := by decide +kernel
theorem d_Numeral_passPrefix_14 : decode b_Numeral_passPrefix 14 = .ok (.aload_n 0, 1) := by decide +kernel
theorem d_Numeral_passPrefix_15 : decode b_Numeral_passPrefix 15 = .ok (.aload_n 0, 1) := by decide +kernel
theorem d_Numeral_passPrefix_16 : decode b_Numeral_passPrefix 16 = .ok (.getfield 7, 3) := by decide +kernel
theorem d_Numeral_passPrefix_19 : decode b_Numeral_passPrefix 19 = .ok (.aload_n 0, 1) := by decide +kernel
theorem d_Numeral_passPrefix_20 : decode b_Numeral_passPrefix 20 = .ok (.getfield 21, 3) := by decide +kernel
theorem d_Numeral_passPrefix_23 : decode b_Numeral_passPrefix 23 = .ok (.invokevirtual 50, 3) := by decide +kernel
theorem d_Numeral_passPrefix_26 : decode b_Numeral_passPrefix 26 = .ok (.bipush 48, 2) := by decide +kernel
theorem d_Numeral_passPrefix_28 : decode b_Numeral_passPrefix 28 = .ok (.if_icmp .ne 19, 3) := by decide +kernel
theorem d_Numeral_passPrefix_31 : decode b_Numeral_passPrefix 31 = .ok (.iload_n 1, 1) := by decide +kernel
theorem d_Numeral_passPrefix_32 : decode b_Numeral_passPrefix 32 = .ok (.bipush 120, 2) := by decide +kernel
theorem d_Numeral_passPrefix_34 : decode b_Numeral_passPrefix 34 = .ok (.if_icmp .eq 9, 3) := by decide +kernel
theorem d_Numeral_passPrefix_37 : decode b_Numeral_passPrefix 37 = .ok (.iload_n 1, 1) := by decide +kernel
theorem d_Numeral_passPrefix_38 : decode b_Numeral_passPrefix 38 = .ok (.bipush 88, 2) := by decide +kernel
theorem d_Numeral_passPrefix_40 : decode b_Numeral_passPrefix 40 = .ok (.if_icmp .ne 7, 3) := by decide +kernel
theorem d_Numeral_passPrefix_43 : decode b_Numeral_passPrefix 43 = .ok (.iconst 1, 1) := by decide +kernel
theorem d_Numeral_passPrefix_44 : decode b_Numeral_passPrefix 44 = .ok (.goto 4, 3) := by decide +kernel
theorem d_Numeral_passPrefix_47 : decode b_Numeral_passPrefix 47 = .ok (.iconst 0, 1) := by decide +kernel
theorem d_Numeral_passPrefix_48 : decode b_Numeral_passPrefix 48 = .ok (.putfield 58, 3) := by decide +kernel
theorem d_Numeral_passPrefix_51 : decode b_Numeral_passPrefix 51 = .ok (.aload_n 0, 1) := by decide +kernel
theorem d_Numeral_passPrefix_52 : decode b_Numeral_passPrefix 52 = .ok (.getfield 58, 3) := by decide +kernel
theorem d_Numeral_passPrefix_55 : decode b_Numeral_passPrefix 55 = .ok (.ifCond .eq 13, 3) := by decide +kernel
theorem d_Numeral_passPrefix_58 : decode b_Numeral_passPrefix 58 = .ok (.aload_n 0, 1) := by decide +kernel
theorem d_Numeral_passPrefix_59 : decode b_Numeral_passPrefix 59 = .ok (.dup, 1) := by decide +kernel
theorem d_Numeral_passPrefix_60 : decode b_Numeral_passPrefix 60 = .ok (.getfield 21, 3) := by decide +kernel
theorem d_Numeral_passPrefix_63 : decode b_Numeral_passPrefix 63 = .ok (.iconst 2, 1) := by decide +kernel
theorem d_Numeral_passPrefix_64 : decode b_Numeral_passPrefix 64 = .ok (.iadd, 1) := by decide +kernel
theorem d_Numeral_passPrefix_65 : decode b_Numeral_passPrefix 65 = .ok (.putfield 21, 3) := by decide +kernel
theorem d_Numeral_passPrefix_68 : decode b_Numeral_passPrefix 68 = .ok (.return_, 1) := by decide +kernel
theorem d_Numeral_digitOf_0 : decode b_Numeral_digitOf 0 = .ok (.iload_n 0, 1) := by decide +kernel
theorem d_Numeral_digitOf_1 : decode b_Numeral_digitOf 1 = .ok (.bipush 48, 2) := by decide +kernel
theorem d_Numeral_digitOf_3 : decode b_Numeral_digitOf 3 = .ok (.if_icmp .lt 14, 3) := by decide +kernel
theorem d_Numeral_digitOf_6 : decode b_Numeral_digitOf 6 = .ok (.iload_n 0, 1) := by decide +kernel
theorem d_Numeral_digitOf_7 : decode b_Numeral_digitOf 7 = .ok (.bipush 57, 2) := by decide +kernel
theorem d_Numeral_digitOf_9 : decode b_Numeral_digitOf 9 = .ok (.if_icmp .gt 8, 3) := by decide +kernel
theorem d_Numeral_digitOf_12 : decode b_Numeral_digitOf 12 = .ok (.iload_n 0, 1) := by decide +kernel
theorem d_Numeral_digitOf_13 : decode b_Numeral_digitOf 13 = .ok (.bipush 48, 2) := by decide +kernel
theorem d_Numeral_digitOf_15 : decode b_Numeral_digitOf 15 = .ok (.isub, 1) := by decide +kernel
theorem d_Numeral_digitOf_16 : decode b_Numeral_digitOf 16 = .ok (.ireturn, 1) := by decide +kernel
theorem d_Numeral_digitOf_17 : decode b_Numeral_digitOf 17 = .ok (.iload_n 1, 1) := by decide +kernel
theorem d_Numeral_digitOf_18 : decode b_Numeral_digitOf 18 = .ok (.ifCond .eq 23, 3) := by decide +kernel
theorem d_Numeral_digitOf_21 : decode b_Numeral_digitOf 21 = .ok (.iload_n 0, 1) := by decide +kernel
theorem d_Numeral_digitOf_22 : decode b_Numeral_digitOf 22 = .ok (.bipush 97, 2) := by decide +kernel
theorem d_Numeral_digitOf_24 : decode b_Numeral_digitOf 24 = .ok (.if_icmp .lt 17, 3) := by decide +kernel
theorem d_Numeral_digitOf_27 : decode b_Numeral_digitOf 27 = .ok (.iload_n 0, 1) := by decide +kernel
theorem d_Numeral_digitOf_28 : decode b_Numeral_digitOf 28 = .ok (.bipush 102, 2) := by decide +kernel
theorem d_Numeral_digitOf_30 : decode b_Numeral_digitOf 30 = .ok (.if_icmp .gt 11, 3) := by decide +kernel
theorem d_Numeral_digitOf_33 : decode b_Numeral_digitOf 33 = .ok (.iload_n 0, 1) := by decide +kernel
theorem d_Numeral_digitOf_34 : decode b_Numeral_digitOf 34 = .ok (.bipush 97, 2) := by decide +kernel
theorem d_Numeral_digitOf_36 : decode b_Numeral_digitOf 36 = .ok (.isub, 1) := by decide +kernel
theorem d_Numeral_digitOf_37 : decode b_Numeral_digitOf 37 = .ok (.bipush 10, 2) := by decide +kernel
theorem d_Numeral_digitOf_39 : decode b_Numeral_digitOf 39 = .ok (.iadd, 1) := by decide +kernel
theorem d_Numeral_digitOf_40 : decode b_Numeral_digitOf 40 = .ok (.ireturn, 1) := by decide +kernel
theorem d_Numeral_digitOf_41 : decode b_Numeral_digitOf 41 = .ok (.iload_n 1, 1) := by decide +kernel
theorem d_Numeral_digitOf_42 : decode b_Numeral_digitOf 42 = .ok (.ifCond .eq 23, 3) := by decide +kernel
theorem d_Numeral_digitOf_45 : decode b_Numeral_digitOf 45 = .ok (.iload_n 0, 1) := by decide +kernel
theorem d_Numeral_digitOf_46 : decode b_Numeral_digitOf 46 = .ok (.bipush 65, 2) := by decide +kernel
theorem d_Numeral_digitOf_48 : decode b_Numeral_digitOf 48 = .ok (.if_icmp .lt 17, 3) := by decide +kernel
theorem d_Numeral_digitOf_51 : decode b_Numeral_digitOf 51 = .ok (.iload_n 0, 1) := by decide +kernel
theorem d_Numeral_digitOf_52 : decode b_Numeral_digitOf 52 = .ok (.bipush 70, 2) := by decide +kernel
theorem d_Numeral_digitOf_54 : decode b_Numeral_digitOf 54 = .ok (.if_icmp .gt 11, 3) := by decide +kernel
theorem d_Numeral_digitOf_57 : decode b_Numeral_digitOf 57 = .ok (.iload_n 0, 1) := by decide +kernel
theorem d_Numeral_digitOf_58 : decode b_Numeral_digitOf 58 = .ok (.bipush 65, 2) := by decide +kernel
theorem d_Numeral_digitOf_60 : decode b_Numeral_digitOf 60 = .ok (.isub, 1) := by decide +kernel
theorem d_Numeral_digitOf_61 : decode b_Numeral_digitOf 61 = .ok (.bipush 10, 2) := by decide +kernel
theorem d_Numeral_digitOf_63 : decode b_Numeral_digitOf 63 = .ok (.iadd, 1) := by decide +kernel
theorem d_Numeral_digitOf_64 : decode b_Numeral_digitOf 64 = .ok (.ireturn, 1) := by decide +kernel
theorem d_Numeral_digitOf_65 : decode b_Numeral_digitOf 65 = .ok (.iconst (-1), 1) := by decide +kernel
theorem d_Numeral_digitOf_66 : decode b_Numeral_digitOf 66 = .ok (.ireturn, 1) := by decide +kernel
theorem d_Numeral_passDigits_0 : decode b_Numeral_passDigits 0 = .ok (.aload_n 0, 1) := by decide +kernel
theorem d_Numeral_passDigits_1 : decode b_Numeral_passDigits 1 = .ok (.getfield 7, 3) := by decide +kernel
theorem d_Numeral_passDigits_4 : decode b_Numeral_passDigits 4 = .ok (.invokevirtual 44, 3) := by decide +kernel
theorem d_Numeral_passDigits_7 : decode b_Numeral_passDigits 7 = .ok (.istore_n 1, 1) := by decide +kernel
theorem d_Numeral_passDigits_8 : decode b_Numeral_passDigits 8 = .ok (.aload_n 0, 1) := by decide +kernel
theorem d_Numeral_passDigits_9 : decode b_Numeral_passDigits 9 = .ok (.aload_n 0, 1) := by decide +kernel
theorem d_Numeral_passDigits_10 : decode b_Numeral_passDigits 10 = .ok (.getfield 21, 3) := by decide +kernel
theorem d_Numeral_passDigits_13 : decode b_Numeral_passDigits 13 = .ok (.putfield 61, 3) := by decide +kernel
theorem d_Numeral_passDigits_16 : decode b_Numeral_passDigits 16 = .ok (.aload_n 0, 1) := by decide +kernel
theorem d_Numeral_passDigits_17 : decode b_Numeral_passDigits 17 = .ok (.iconst 0, 1) := by decide +kernel
theorem d_Numeral_passDigits_18 : decode b_Numeral_passDigits 18 = .ok (.putfield 64, 3) := by decide +kernel
theorem d_Numeral_passDigits_21 : decode b_Numeral_passDigits 21 = .ok (.aload_n 0, 1) := by decide +kernel
theorem d_Numeral_passDigits_22 : decode b_Numeral_passDigits 22 = .ok (.iconst 0, 1) := by decide +kernel
theorem d_Numeral_passDigits_23 : decode b_Numeral_passDigits 23 = .ok (.putfield 38, 3) := by decide +kernel
theorem d_Numeral_passDigits_26 : decode b_Numeral_passDigits 26 = .ok (.aload_n 0, 1) := by decide +kernel
theorem d_Numeral_passDigits_27 : decode b_Numeral_passDigits 27 = .ok (.iconst 0, 1) := by decide +kernel
theorem d_Numeral_passDigits_28 : decode b_Numeral_passDigits 28 = .ok (.putfield 67, 3) := by decide +kernel
theorem d_Numeral_passDigits_31 : decode b_Numeral_passDigits 31 = .ok (.aload_n 0, 1) := by decide +kernel
theorem d_Numeral_passDigits_32 : decode b_Numeral_passDigits 32 = .ok (.getfield 21, 3) := by decide +kernel
theorem d_Numeral_passDigits_35 : decode b_Numeral_passDigits 35 = .ok (.iload_n 1, 1) := by decide +kernel
theorem d_Numeral_passDigits_36 : decode b_Numeral_passDigits 36 = .ok (.if_icmp .ge 91, 3) := by decide +kernel
theorem d_Numeral_passDigits_39 : decode b_Numeral_passDigits 39 = .ok (.aload_n 0, 1) := by decide +kernel
theorem d_Numeral_passDigits_40 : decode b_Numeral_passDigits 40 = .ok (.getfield 7, 3) := by decide +kernel
theorem d_Numeral_passDigits_43 : decode b_Numeral_passDigits 43 = .ok (.aload_n 0, 1) := by decide +kernel
theorem d_Numeral_passDigits_44 : decode b_Numeral_passDigits 44 = .ok (.getfield 21, 3) := by decide +kernel
theorem d_Numeral_passDigits_47 : decode b_Numeral_passDigits 47 = .ok (.invokevirtual 50, 3) := by decide +kernel
theorem d_Numeral_passDigits_50 : decode b_Numeral_passDigits 50 = .ok (.istore_n 2, 1) := by decide +kernel
theorem d_Numeral_passDigits_51 : decode b_Numeral_passDigits 51 = .ok (.iload_n 2, 1) := by decide +kernel
theorem d_Numeral_passDigits_52 : decode b_Numeral_passDigits 52 = .ok (.aload_n 0, 1) := by decide +kernel
theorem d_Numeral_passDigits_53 : decode b_Numeral_passDigits 53 = .ok (.getfield 58, 3) := by decide +kernel
theorem d_Numeral_passDigits_56 : decode b_Numeral_passDigits 56 = .ok (.invokestatic 70, 3) := by decide +kernel
theorem d_Numeral_passDigits_59 : decode b_Numeral_passDigits 59 = .ok (.ifCond .lt 37, 3) := by decide +kernel
theorem d_Numeral_passDigits_62 : decode b_Numeral_passDigits 62 = .ok (.aload_n 0, 1) := by decide +kernel
theorem d_Numeral_passDigits_63 : decode b_Numeral_passDigits 63 = .ok (.dup, 1) := by decide +kernel
theorem d_Numeral_passDigits_64 : decode b_Numeral_passDigits 64 = .ok (.getfield 38, 3) := by decide +kernel
theorem d_Numeral_passDigits_67 : decode b_Numeral_passDigits 67 = .ok (.iconst 1, 1) := by decide +kernel
theorem d_Numeral_passDigits_68 : decode b_Numeral_passDigits 68 = .ok (.iadd, 1) := by decide +kernel
theorem d_Numeral_passDigits_69 : decode b_Numeral_passDigits 69 = .ok (.putfield 38, 3) := by decide +kernel
theorem d_Numeral_passDigits_72 : decode b_Numeral_passDigits 72 = .ok (.aload_n 0, 1) := by decide +kernel
theorem d_Numeral_passDigits_73 : decode b_Numeral_passDigits 73 = .ok (.dup, 1) := by decide +kernel
theorem d_Numeral_passDigits_74 : decode b_Numeral_passDigits 74 = .ok (.getfield 64, 3) := by decide +kernel
theorem d_Numeral_passDigits_77 : decode b_Numeral_passDigits 77 = .ok (.aload_n 0, 1) := by decide +kernel
theorem d_Numeral_passDigits_78 : decode b_Numeral_passDigits 78 = .ok (.getfield 67, 3) := by decide +kernel
theorem d_Numeral_passDigits_81 : decode b_Numeral_passDigits 81 = .ok (.ifCond .eq 7, 3) := by decide +kernel
theorem d_Numeral_passDigits_84 : decode b_Numeral_passDigits 84 = .ok (.iconst 0, 1) := by decide +kernel
theorem d_Numeral_passDigits_85 : decode b_Numeral_passDigits 85 = .ok (.goto 4, 3) := by decide +kernel
theorem d_Numeral_passDigits_88 : decode b_Numeral_passDigits 88 = .ok (.iconst 1, 1) := by decide +kernel
theorem d_Numeral_passDigits_89 : decode b_Numeral_passDigits 89 = .ok (.iadd, 1) := by decide +kernel
theorem d_Numeral_passDigits_90 : decode b_Numeral_passDigits 90 = .ok (.putfield 64, 3) := by decide +kernel
theorem d_Numeral_passDigits_93 : decode b_Numeral_passDigits 93 = .ok (.goto 21, 3) := by decide +kernel
theorem d_Numeral_passDigits_96 : decode b_Numeral_passDigits 96 = .ok (.iload_n 2, 1) := by decide +kernel
theorem d_Numeral_passDigits_97 : decode b_Numeral_passDigits 97 = .ok (.bipush 46, 2) := by decide +kernel
theorem d_Numeral_passDigits_99 : decode b_Numeral_passDigits 99 = .ok (.if_icmp .ne 28, 3) := by decide +kernel
theorem d_Numeral_passDigits_102 : decode b_Numeral_passDigits 102 = .ok (.aload_n 0, 1) := by decide +kernel
theorem d_Numeral_passDigits_103 : decode b_Numeral_passDigits 103 = .ok (.getfield 67, 3) := by decide +kernel
theorem d_Numeral_passDigits_106 : decode b_Numeral_passDigits 106 = .ok (.ifCond .ne 21, 3) := by decide +kernel
theorem d_Numeral_passDigits_109 : decode b_Numeral_passDigits 109 = .ok (.aload_n 0, 1) := by decide +kernel
theorem d_Numeral_passDigits_110 : decode b_Numeral_passDigits 110 = .ok (.iconst 1, 1) := by decide +kernel
theorem d_Numeral_passDigits_111 : decode b_Numeral_passDigits 111 = .ok (.putfield 67, 3) := by decide +kernel
theorem d_Numeral_passDigits_114 : decode b_Numeral_passDigits 114 = .ok (.aload_n 0, 1) := by decide +kernel
theorem d_Numeral_passDigits_115 : decode b_Numeral_passDigits 115 = .ok (.dup, 1) := by decide +kernel
theorem d_Numeral_passDigits_116 : decode b_Numeral_passDigits 116 = .ok (.getfield 21, 3) := by decide +kernel
theorem d_Numeral_passDigits_119 : decode b_Numeral_passDigits 119 = .ok (.iconst 1, 1) := by decide +kernel
theorem d_Numeral_passDigits_120 : decode b_Numeral_passDigits 120 = .ok (.iadd, 1) := by decide +kernel
theorem d_Numeral_passDigits_121 : decode b_Numeral_passDigits 121 = .ok (.putfield 21, 3) := by decide +kernel
theorem d_Numeral_passDigits_124 : decode b_Numeral_passDigits 124 = .ok (.goto (-93), 3) := by decide +kernel
theorem d_Numeral_passDigits_127 : decode b_Numeral_passDigits 127 = .ok (.aload_n 0, 1) := by decide +kernel
theorem d_Numeral_passDigits_128 : decode b_Numeral_passDigits 128 = .ok (.aload_n 0, 1) := by decide +kernel
theorem d_Numeral_passDigits_129 : decode b_Numeral_passDigits 129 = .ok (.getfield 21, 3) := by decide +kernel
theorem d_Numeral_passDigits_132 : decode b_Numeral_passDigits 132 = .ok (.putfield 74, 3) := by decide +kernel
theorem d_Numeral_passDigits_135 : decode b_Numeral_passDigits 135 = .ok (.return_, 1) := by decide +kernel
theorem d_Numeral_passPower_0 : decode b_Numeral_passPower 0 = .ok (.aload_n 0, 1) := by decide +kernel
theorem d_Numeral_passPower_1 : decode b_Numeral_passPower 1 = .ok (.getfield 7, 3) := by decide +kernel
theorem d_Numeral_passPower_4 : decode b_Numeral_passPower 4 = .ok (.aload_n 0, 1) := by decide +kernel
theorem d_Numeral_passPower_5 : decode b_Numeral_passPower 5 = .ok (.getfield 21, 3) := by decide +kernel
theorem d_Numeral_passPower_8 : decode b_Numeral_passPower 8 = .ok (.invokevirtual 50, 3) := by decide +kernel
theorem d_Numeral_passPower_11 : decode b_Numeral_passPower 11 = .ok (.istore_n 1, 1) := by decide +kernel
theorem d_Numeral_passPower_12 : decode b_Numeral_passPower 12 = .ok (.aload_n 0, 1) := by decide +kernel
theorem d_Numeral_passPower_13 : decode b_Numeral_passPower 13 = .ok (.iconst 0, 1) := by decide +kernel
theorem d_Numeral_passPower_14 : decode b_Numeral_passPower 14 = .ok (.putfield 77, 3) := by decide +kernel
theorem d_Numeral_passPower_17 : decode b_Numeral_passPower 17 = .ok (.aload_n 0, 1) := by decide +kernel
theorem d_Numeral_passPower_18 : decode b_Numeral_passPower 18 = .ok (.aload_n 0, 1) := by decide +kernel
theorem d_Numeral_passPower_19 : decode b_Numeral_passPower 19 = .ok (.getfield 58, 3) := by decide +kernel
theorem d_Numeral_passPower_22 : decode b_Numeral_passPower 22 = .ok (.ifCond .eq 23, 3) := by decide +kernel
theorem d_Numeral_passPower_25 : decode b_Numeral_passPower 25 = .ok (.iload_n 1, 1) := by decide +kernel
theorem d_Numeral_passPower_26 : decode b_Numeral_passPower 26 = .ok (.bipush 112, 2) := by decide +kernel
theorem d_Numeral_passPower_28 : decode b_Numeral_passPower 28 = .ok (.if_icmp .eq 9, 3) := by decide +kernel
theorem d_Numeral_passPower_31 : decode b_Numeral_passPower 31 = .ok (.iload_n 1, 1) := by decide +kernel
theorem d_Numeral_passPower_32 : decode b_Numeral_passPower 32 = .ok (.bipush 80, 2) := by decide +kernel
theorem d_Numeral_passPower_34 : decode b_Numeral_passPower 34 = .ok (.if_icmp .ne 7, 3) := by decide +kernel
theorem d_Numeral_passPower_37 : decode b_Numeral_passPower 37 = .ok (.iconst 1, 1) := by decide +kernel
theorem d_Numeral_passPower_38 : decode b_Numeral_passPower 38 = .ok (.goto 24, 3) := by decide +kernel
theorem d_Numeral_passPower_41 : decode b_Numeral_passPower 41 = .ok (.iconst 0, 1) := by decide +kernel
theorem d_Numeral_passPower_42 : decode b_Numeral_passPower 42 = .ok (.goto 20, 3) := by decide +kernel
theorem d_Numeral_passPower_45 : decode b_Numeral_passPower 45 = .ok (.iload_n 1, 1) := by decide +kernel
theorem d_Numeral_passPower_46 : decode b_Numeral_passPower 46 = .ok (.bipush 101, 2) := by decide +kernel
theorem d_Numeral_passPower_48 : decode b_Numeral_passPower 48 = .ok (.if_icmp .eq 9, 3) := by decide +kernel
theorem d_Numeral_passPower_51 : decode b_Numeral_passPower 51 = .ok (.iload_n 1, 1) := by decide +kernel
theorem d_Numeral_passPower_52 : decode b_Numeral_passPower 52 = .ok (.bipush 69, 2) := by decide +kernel
theorem d_Numeral_passPower_54 : decode b_Numeral_passPower 54 = .ok (.if_icmp .ne 7, 3) := by decide +kernel
theorem d_Numeral_passPower_57 : decode b_Numeral_passPower 57 = .ok (.iconst 1, 1) := by decide +kernel
theorem d_Numeral_passPower_58 : decode b_Numeral_passPower 58 = .ok (.goto 4, 3) := by decide +kernel
theorem d_Numeral_passPower_61 : decode b_Numeral_passPower 61 = .ok (.iconst 0, 1) := by decide +kernel
theorem d_Numeral_passPower_62 : decode b_Numeral_passPower 62 = .ok (.putfield 80, 3) := by decide +kernel
theorem d_Numeral_passPower_65 : decode b_Numeral_passPower 65 = .ok (.aload_n 0, 1) := by decide +kernel
theorem d_Numeral_passPower_66 : decode b_Numeral_passPower 66 = .ok (.getfield 80, 3) := by decide +kernel
theorem d_Numeral_passPower_69 : decode b_Numeral_passPower 69 = .ok (.ifCond .ne 5, 3) := by decide +kernel
theorem d_Numeral_passPower_72 : decode b_Numeral_passPower 72 = .ok (.iconst 1, 1) := by decide +kernel
theorem d_Numeral_passPower_73 : decode b_Numeral_passPower 73 = .ok (.ireturn, 1) := by decide +kernel
theorem d_Numeral_passPower_74 : decode b_Numeral_passPower 74 = .ok (.aload_n 0, 1) := by decide +kernel
theorem d_Numeral_passPower_75 : decode b_Numeral_passPower 75 = .ok (.dup, 1) := by decide +kernel
theorem d_Numeral_passPower_76 : decode b_Numeral_passPower 76 = .ok (.getfield 21, 3) := by decide +kernel
theorem d_Numeral_passPower_79 : decode b_Numeral_passPower 79 = .ok (.iconst 1, 1) := by decide +kernel
theorem d_Numeral_passPower_80 : decode b_Numeral_passPower 80 = .ok (.iadd, 1) := by decide +kernel
theorem d_Numeral_passPower_81 : decode b_Numeral_passPower 81 = .ok (.putfield 21, 3) := by decide +kernel
theorem d_Numeral_passPower_84 : decode b_Numeral_passPower 84 = .ok (.aload_n 0, 1) := by decide +kernel
theorem d_Numeral_passPower_85 : decode b_Numeral_passPower 85 = .ok (.invokevirtual 28, 3) := by decide +kernel
theorem d_Numeral_passPower_88 : decode b_Numeral_passPower 88 = .ok (.istore_n 2, 1) := by decide +kernel
theorem d_Numeral_passPower_89 : decode b_Numeral_passPower 89 = .ok (.aload_n 0, 1) := by decide +kernel
theorem d_Numeral_passPower_90 : decode b_Numeral_passPower 90 = .ok (.getfield 21, 3) := by decide +kernel
theorem d_Numeral_passPower_93 : decode b_Numeral_passPower 93 = .ok (.istore_n 3, 1) := by decide +kernel
theorem d_Numeral_passPower_94 : decode b_Numeral_passPower 94 = .ok (.aload_n 0, 1) := by decide +kernel
theorem d_Numeral_passPower_95 : decode b_Numeral_passPower 95 = .ok (.getfield 7, 3) := by decide +kernel
theorem d_Numeral_passPower_98 : decode b_Numeral_passPower 98 = .ok (.invokevirtual 44, 3) := by decide +kernel
theorem d_Numeral_passPower_101 : decode b_Numeral_passPower 101 = .ok (.istore 4, 2) := by decide +kernel
theorem d_Numeral_passPower_103 : decode b_Numeral_passPower 103 = .ok (.aload_n 0, 1) := by decide +kernel
theorem d_Numeral_passPower_104 : decode b_Numeral_passPower 104 = .ok (.getfield 21, 3) := by decide +kernel
theorem d_Numeral_passPower_107 : decode b_Numeral_passPower 107 = .ok (.iload 4, 2) := by decide +kernel
theorem d_Numeral_passPower_109 : decode b_Numeral_passPower 109 = .ok (.if_icmp .ge 66, 3) := by decide +kernel
theorem d_Numeral_passPower_112 : decode b_Numeral_passPower 112 = .ok (.aload_n 0, 1) := by decide +kernel
theorem d_Numeral_passPower_113 : decode b_Numeral_passPower 113 = .ok (.getfield 7, 3) := by decide +kernel
theorem d_Numeral_passPower_116 : decode b_Numeral_passPower 116 = .ok (.aload_n 0, 1) := by decide +kernel
theorem d_Numeral_passPower_117 : decode b_Numeral_passPower 117 = .ok (.getfield 21, 3) := by decide +kernel
theorem d_Numeral_passPower_120 : decode b_Numeral_passPower 120 = .ok (.invokevirtual 50, 3) := by decide +kernel
theorem d_Numeral_passPower_123 : decode b_Numeral_passPower 123 = .ok (.iconst 0, 1) := by decide +kernel
theorem d_Numeral_passPower_124 : decode b_Numeral_passPower 124 = .ok (.invokestatic 70, 3) := by decide +kernel
theorem d_Numeral_passPower_127 : decode b_Numeral_passPower 127 = .ok (.ifCond .lt 48, 3) := by decide +kernel
theorem d_Numeral_passPower_130 : decode b_Numeral_passPower 130 = .ok (.aload_n 0, 1) := by decide +kernel
theorem d_Numeral_passPower_131 : decode b_Numeral_passPower 131 = .ok (.ldc 83, 2) := by decide +kernel
theorem d_Numeral_passPower_133 : decode b_Numeral_passPower 133 = .ok (.aload_n 0, 1) := by decide +kernel
theorem d_Numeral_passPower_134 : decode b_Numeral_passPower 134 = .ok (.getfield 77, 3) := by decide +kernel
theorem d_Numeral_passPower_137 : decode b_Numeral_passPower 137 = .ok (.bipush 10, 2) := by decide +kernel
theorem d_Numeral_passPower_139 : decode b_Numeral_passPower 139 = .ok (.imul, 1) := by decide +kernel
theorem d_Numeral_passPower_140 : decode b_Numeral_passPower 140 = .ok (.aload_n 0, 1) := by decide +kernel
theorem d_Numeral_passPower_141 : decode b_Numeral_passPower 141 = .ok (.getfield 7, 3) := by decide +kernel
theorem d_Numeral_passPower_144 : decode b_Numeral_passPower 144 = .ok (.aload_n 0, 1) := by decide +kernel
theorem d_Numeral_passPower_145 : decode b_Numeral_passPower 145 = .ok (.getfield 21, 3) := by decide +kernel
theorem d_Numeral_passPower_148 : decode b_Numeral_passPower 148 = .ok (.invokevirtual 50, 3) := by decide +kernel
theorem d_Numeral_passPower_151 : decode b_Numeral_passPower 151 = .ok (.iconst 0, 1) := by decide +kernel
theorem d_Numeral_passPower_152 : decode b_Numeral_passPower 152 = .ok (.invokestatic 70, 3) := by decide +kernel
theorem d_Numeral_passPower_155 : decode b_Numeral_passPower 155 = .ok (.iadd, 1) := by decide +kernel
theorem d_Numeral_passPower_156 : decode b_Numeral_passPower 156 = .ok (.invokestatic 84, 3) := by decide +kernel
theorem d_Numeral_passPower_159 : decode b_Numeral_passPower 159 = .ok (.putfield 77, 3) := by decide +kernel
theorem d_Numeral_passPower_162 : decode b_Numeral_passPower 162 = .ok (.aload_n 0, 1) := by decide +kernel
theorem d_Numeral_passPower_163 : decode b_Numeral_passPower 163 = .ok (.dup, 1) := by decide +kernel
theorem d_Numeral_passPower_164 : decode b_Numeral_passPower 164 = .ok (.getfield 21, 3) := by decide +kernel
theorem d_Numeral_passPower_167 : decode b_Numeral_passPower 167 = .ok (.iconst 1, 1) := by decide +kernel
theorem d_Numeral_passPower_168 : decode b_Numeral_passPower 168 = .ok (.iadd, 1) := by decide +kernel
theorem d_Numeral_passPower_169 : decode b_Numeral_passPower 169 = .ok (.putfield 21, 3) := by decide +kernel
theorem d_Numeral_passPower_172 : decode b_Numeral_passPower 172 = .ok (.goto (-69), 3) := by decide +kernel
theorem d_Numeral_passPower_175 : decode b_Numeral_passPower 175 = .ok (.aload_n 0, 1) := by decide +kernel
theorem d_Numeral_passPower_176 : decode b_Numeral_passPower 176 = .ok (.iload_n 2, 1) := by decide +kernel
theorem d_Numeral_passPower_177 : decode b_Numeral_passPower 177 = .ok (.ifCond .eq 11, 3) := by decide +kernel
theorem d_Numeral_passPower_180 : decode b_Numeral_passPower 180 = .ok (.aload_n 0, 1) := by decide +kernel
theorem d_Numeral_passPower_181 : decode b_Numeral_passPower 181 = .ok (.getfield 77, 3) := by decide +kernel
theorem d_Numeral_passPower_184 : decode b_Numeral_passPower 184 = .ok (.ineg, 1) := by decide +kernel
theorem d_Numeral_passPower_185 : decode b_Numeral_passPower 185 = .ok (.goto 7, 3) := by decide +kernel
theorem d_Numeral_passPower_188 : decode b_Numeral_passPower 188 = .ok (.aload_n 0, 1) := by decide +kernel
theorem d_Numeral_passPower_189 : decode b_Numeral_passPower 189 = .ok (.getfield 77, 3) := by decide +kernel
theorem d_Numeral_passPower_192 : decode b_Numeral_passPower 192 = .ok (.putfield 77, 3) := by decide +kernel
theorem d_Numeral_passPower_195 : decode b_Numeral_passPower 195 = .ok (.aload_n 0, 1) := by decide +kernel
theorem d_Numeral_passPower_196 : decode b_Numeral_passPower 196 = .ok (.getfield 21, 3) := by decide +kernel
theorem d_Numeral_passPower_199 : decode b_Numeral_passPower 199 = .ok (.iload_n 3, 1) := by decide +kernel
theorem d_Numeral_passPower_200 : decode b_Numeral_passPower 200 = .ok (.if_icmp .le 7, 3) := by decide +kernel
theorem d_Numeral_passPower_203 : decode b_Numeral_passPower 203 = .ok (.iconst 1, 1) := by decide +kernel
theorem d_Numeral_passPower_204 : decode b_Numeral_passPower 204 = .ok (.goto 4, 3) := by decide +kernel
theorem d_Numeral_passPower_207 : decode b_Numeral_passPower 207 = .ok (.iconst 0, 1) := by decide +kernel
theorem d_Numeral_passPower_208 : decode b_Numeral_passPower 208 = .ok (.ireturn, 1) := by decide +kernel
