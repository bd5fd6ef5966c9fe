theorem d_Tape_clear_0 : decode b_Tape_clear 0 = .ok (.aload_n 0, 1) := by decide +kernel
theorem d_Tape_clear_1 : decode b_Tape_clear 1 = .ok (.iconst 0, 1) := by decide +kernel
theorem d_Tape_clear_2 : decode b_Tape_clear 2 = .ok (.putfield 13, 3) := by decide +kernel
theorem d_Tape_clear_5 : decode b_Tape_clear 5 = .ok (.return_, 1) := by decide +kernel
theorem d_N_read_0 : decode b_N_read 0 = .ok (.aload_n 0, 1) := by decide +kernel
theorem d_N_read_1 : decode b_N_read 1 = .ok (.getfield 21, 3) := by decide +kernel
theorem d_N_read_4 : decode b_N_read 4 = .ok (.invokevirtual 84, 3) := by decide +kernel
theorem d_N_read_7 : decode b_N_read 7 = .ok (.istore_n 1, 1) := by decide +kernel
theorem d_N_read_8 : decode b_N_read 8 = .ok (.iload_n 1, 1) := by decide +kernel
theorem d_N_read_9 : decode b_N_read 9 = .ok (.iconst (-1), 1) := by decide +kernel
theorem d_N_read_10 : decode b_N_read 10 = .ok (.if_icmp .ne 7, 3) := by decide +kernel
theorem d_N_read_13 : decode b_N_read 13 = .ok (.aload_n 0, 1) := by decide +kernel
theorem d_N_read_14 : decode b_N_read 14 = .ok (.invokevirtual 87, 3) := by decide +kernel
theorem d_N_read_17 : decode b_N_read 17 = .ok (.aload_n 0, 1) := by decide +kernel
theorem d_N_read_18 : decode b_N_read 18 = .ok (.getfield 10, 3) := by decide +kernel
theorem d_N_read_21 : decode b_N_read 21 = .ok (.invokevirtual 90, 3) := by decide +kernel
theorem d_N_read_24 : decode b_N_read 24 = .ok (.iload_n 1, 1) := by decide +kernel
theorem d_N_read_25 : decode b_N_read 25 = .ok (.iconst (-1), 1) := by decide +kernel
theorem d_N_read_26 : decode b_N_read 26 = .ok (.if_icmp .ne 10, 3) := by decide +kernel
theorem d_N_read_29 : decode b_N_read 29 = .ok (.aload_n 0, 1) := by decide +kernel
theorem d_N_read_30 : decode b_N_read 30 = .ok (.getfield 61, 3) := by decide +kernel
theorem d_N_read_33 : decode b_N_read 33 = .ok (.goto 7, 3) := by decide +kernel
theorem d_N_read_36 : decode b_N_read 36 = .ok (.bipush (-100), 2) := by decide +kernel
theorem d_N_read_38 : decode b_N_read 38 = .ok (.iload_n 1, 1) := by decide +kernel
theorem d_N_read_39 : decode b_N_read 39 = .ok (.isub, 1) := by decide +kernel
theorem d_N_read_40 : decode b_N_read 40 = .ok (.ireturn, 1) := by decide +kernel
theorem d_N_whole_0 : decode b_N_whole 0 = .ok (.aload_n 0, 1) := by decide +kernel
theorem d_N_whole_1 : decode b_N_whole 1 = .ok (.iconst 1, 1) := by decide +kernel
theorem d_N_whole_2 : decode b_N_whole 2 = .ok (.lload_n 1, 1) := by decide +kernel
theorem d_N_whole_3 : decode b_N_whole 3 = .ok (.iconst 0, 1) := by decide +kernel
theorem d_N_whole_4 : decode b_N_whole 4 = .ok (.invokevirtual 93, 3) := by decide +kernel
theorem d_N_whole_7 : decode b_N_whole 7 = .ok (.return_, 1) := by decide +kernel
theorem d_N_real_0 : decode b_N_real 0 = .ok (.lload_n 1, 1) := by decide +kernel
theorem d_N_real_1 : decode b_N_real 1 = .ok (.ldc2_w 97, 3) := by decide +kernel
theorem d_N_real_4 : decode b_N_real 4 = .ok (.lcmp, 1) := by decide +kernel
theorem d_N_real_5 : decode b_N_real 5 = .ok (.ifCond .lt 25, 3) := by decide +kernel
theorem d_N_real_8 : decode b_N_real 8 = .ok (.lload_n 1, 1) := by decide +kernel
theorem d_N_real_9 : decode b_N_real 9 = .ok (.ldc2_w 99, 3) := by decide +kernel
theorem d_N_real_12 : decode b_N_real 12 = .ok (.lcmp, 1) := by decide +kernel
theorem d_N_real_13 : decode b_N_real 13 = .ok (.ifCond .gt 17, 3) := by decide +kernel
theorem d_N_real_16 : decode b_N_real 16 = .ok (.iload_n 3, 1) := by decide +kernel
theorem d_N_real_17 : decode b_N_real 17 = .ok (.sipush (-1200), 3) := by decide +kernel
theorem d_N_real_20 : decode b_N_real 20 = .ok (.if_icmp .lt 10, 3) := by decide +kernel
theorem d_N_real_23 : decode b_N_real 23 = .ok (.iload_n 3, 1) := by decide +kernel
theorem d_N_real_24 : decode b_N_real 24 = .ok (.sipush 1200, 3) := by decide +kernel
theorem d_N_real_27 : decode b_N_real 27 = .ok (.if_icmp .le 5, 3) := by decide +kernel
theorem d_N_real_30 : decode b_N_real 30 = .ok (.iconst (-1), 1) := by decide +kernel
theorem d_N_real_31 : decode b_N_real 31 = .ok (.ireturn, 1) := by decide +kernel
theorem d_N_real_32 : decode b_N_real 32 = .ok (.aload_n 0, 1) := by decide +kernel
theorem d_N_real_33 : decode b_N_real 33 = .ok (.getfield 38, 3) := by decide +kernel
theorem d_N_real_36 : decode b_N_real 36 = .ok (.lload_n 1, 1) := by decide +kernel
theorem d_N_real_37 : decode b_N_real 37 = .ok (.lconst 0, 1) := by decide +kernel
theorem d_N_real_38 : decode b_N_real 38 = .ok (.lcmp, 1) := by decide +kernel
theorem d_N_real_39 : decode b_N_real 39 = .ok (.ifCond .ge 8, 3) := by decide +kernel
theorem d_N_real_42 : decode b_N_real 42 = .ok (.lload_n 1, 1) := by decide +kernel
theorem d_N_real_43 : decode b_N_real 43 = .ok (.lneg, 1) := by decide +kernel
theorem d_N_real_44 : decode b_N_real 44 = .ok (.goto 4, 3) := by decide +kernel
theorem d_N_real_47 : decode b_N_real 47 = .ok (.lload_n 1, 1) := by decide +kernel
theorem d_N_real_48 : decode b_N_real 48 = .ok (.iconst 0, 1) := by decide +kernel
theorem d_N_real_49 : decode b_N_real 49 = .ok (.iload_n 3, 1) := by decide +kernel
theorem d_N_real_50 : decode b_N_real 50 = .ok (.invokevirtual 101, 3) := by decide +kernel
theorem d_N_real_53 : decode b_N_real 53 = .ok (.aload_n 0, 1) := by decide +kernel
theorem d_N_real_54 : decode b_N_real 54 = .ok (.lload_n 1, 1) := by decide +kernel
theorem d_N_real_55 : decode b_N_real 55 = .ok (.lconst 0, 1) := by decide +kernel
theorem d_N_real_56 : decode b_N_real 56 = .ok (.lcmp, 1) := by decide +kernel
theorem d_N_real_57 : decode b_N_real 57 = .ok (.ifCond .ge 7, 3) := by decide +kernel
theorem d_N_real_60 : decode b_N_real 60 = .ok (.iconst 1, 1) := by decide +kernel
theorem d_N_real_61 : decode b_N_real 61 = .ok (.goto 4, 3) := by decide +kernel
theorem d_N_real_64 : decode b_N_real 64 = .ok (.iconst 0, 1) := by decide +kernel
theorem d_N_real_65 : decode b_N_real 65 = .ok (.invokevirtual 105, 3) := by decide +kernel
theorem d_N_real_68 : decode b_N_real 68 = .ok (.aload_n 0, 1) := by decide +kernel
theorem d_N_real_69 : decode b_N_real 69 = .ok (.getfield 61, 3) := by decide +kernel
theorem d_N_real_72 : decode b_N_real 72 = .ok (.ireturn, 1) := by decide +kernel
theorem d_N_special_0 : decode b_N_special 0 = .ok (.iload_n 1, 1) := by decide +kernel
theorem d_N_special_1 : decode b_N_special 1 = .ok (.iconst 3, 1) := by decide +kernel
theorem d_N_special_2 : decode b_N_special 2 = .ok (.if_icmp .lt 8, 3) := by decide +kernel
theorem d_N_special_5 : decode b_N_special 5 = .ok (.iload_n 1, 1) := by decide +kernel
theorem d_N_special_6 : decode b_N_special 6 = .ok (.iconst 5, 1) := by decide +kernel
theorem d_N_special_7 : decode b_N_special 7 = .ok (.if_icmp .le 5, 3) := by decide +kernel
theorem d_N_special_10 : decode b_N_special 10 = .ok (.iconst 0, 1) := by decide +kernel
theorem d_N_special_11 : decode b_N_special 11 = .ok (.ireturn, 1) := by decide +kernel
theorem d_N_special_12 : decode b_N_special 12 = .ok (.aload_n 0, 1) := by decide +kernel
theorem d_N_special_13 : decode b_N_special 13 = .ok (.iload_n 1, 1) := by decide +kernel
theorem d_N_special_14 : decode b_N_special 14 = .ok (.lconst 0, 1) := by decide +kernel
theorem d_N_special_15 : decode b_N_special 15 = .ok (.iconst 0, 1) := by decide +kernel
theorem d_N_special_16 : decode b_N_special 16 = .ok (.invokevirtual 93, 3) := by decide +kernel
theorem d_N_special_19 : decode b_N_special 19 = .ok (.iconst 1, 1) := by decide +kernel
theorem d_N_special_20 : decode b_N_special 20 = .ok (.ireturn, 1) := by decide +kernel
theorem d_N_kind_0 : decode b_N_kind 0 = .ok (.aload_n 0, 1) := by decide +kernel
theorem d_N_kind_1 : decode b_N_kind 1 = .ok (.getfield 61, 3) := by decide +kernel
theorem d_N_kind_4 : decode b_N_kind 4 = .ok (.ireturn, 1) := by decide +kernel
theorem d_N_number_0 : decode b_N_number 0 = .ok (.aload_n 0, 1) := by decide +kernel
theorem d_N_number_1 : decode b_N_number 1 = .ok (.getfield 65, 3) := by decide +kernel
theorem d_N_number_4 : decode b_N_number 4 = .ok (.lreturn, 1) := by decide +kernel
theorem d_N_exponent_0 : decode b_N_exponent 0 = .ok (.aload_n 0, 1) := by decide +kernel
theorem d_N_exponent_1 : decode b_N_exponent 1 = .ok (.getfield 69, 3) := by decide +kernel
theorem d_N_exponent_4 : decode b_N_exponent 4 = .ok (.ireturn, 1) := by decide +kernel
theorem d_Writer_begin_0 : decode b_Writer_begin 0 = .ok (.aload_n 0, 1) := by decide +kernel
theorem d_Writer_begin_1 : decode b_Writer_begin 1 = .ok (.iload_n 1, 1) := by decide +kernel
theorem d_Writer_begin_2 : decode b_Writer_begin 2 = .ok (.putfield 17, 3) := by decide +kernel
theorem d_Writer_begin_5 : decode b_Writer_begin 5 = .ok (.aload_n 0, 1) := by decide +kernel
theorem d_Writer_begin_6 : decode b_Writer_begin 6 = .ok (.iload_n 2, 1) := by decide +kernel
theorem d_Writer_begin_7 : decode b_Writer_begin 7 = .ok (.putfield 21, 3) := by decide +kernel
theorem d_Writer_begin_10 : decode b_Writer_begin 10 = .ok (.aload_n 0, 1) := by decide +kernel
theorem d_Writer_begin_11 : decode b_Writer_begin 11 = .ok (.iload_n 3, 1) := by decide +kernel
theorem d_Writer_begin_12 : decode b_Writer_begin 12 = .ok (.putfield 24, 3) := by decide +kernel
theorem d_Writer_begin_15 : decode b_Writer_begin 15 = .ok (.aload_n 0, 1) := by decide +kernel
theorem d_Writer_begin_16 : decode b_Writer_begin 16 = .ok (.iload 4, 2) := by decide +kernel
theorem d_Writer_begin_18 : decode b_Writer_begin 18 = .ok (.putfield 27, 3) := by decide +kernel
theorem d_Writer_begin_21 : decode b_Writer_begin 21 = .ok (.return_, 1) := by decide +kernel
theorem d_Page_clear_0 : decode b_Page_clear 0 = .ok (.aload_n 0, 1) := by decide +kernel
theorem d_Page_clear_1 : decode b_Page_clear 1 = .ok (.iconst 0, 1) := by decide +kernel
theorem d_Page_clear_2 : decode b_Page_clear 2 = .ok (.putfield 15, 3) := by decide +kernel
theorem d_Page_clear_5 : decode b_Page_clear 5 = .ok (.return_, 1) := by decide +kernel
theorem d_Page_put_0 : decode b_Page_put 0 = .ok (.aload_n 0, 1) := by decide +kernel
theorem d_Page_put_1 : decode b_Page_put 1 = .ok (.getfield 15, 3) := by decide +kernel
theorem d_Page_put_4 : decode b_Page_put 4 = .ok (.ifCond .lt 36, 3) := by decide +kernel
theorem d_Page_put_7 : decode b_Page_put 7 = .ok (.aload_n 0, 1) := by decide +kernel
theorem d_Page_put_8 : decode b_Page_put 8 = .ok (.getfield 15, 3) := by decide +kernel
theorem d_Page_put_11 : decode b_Page_put 11 = .ok (.aload_n 0, 1) := by decide +kernel
theorem d_Page_put_12 : decode b_Page_put 12 = .ok (.getfield 11, 3) := by decide +kernel
theorem d_Page_put_15 : decode b_Page_put 15 = .ok (.arraylength, 1) := by decide +kernel
theorem d_Page_put_16 : decode b_Page_put 16 = .ok (.if_icmp .ge 24, 3) := by decide +kernel
theorem d_Page_put_19 : decode b_Page_put 19 = .ok (.aload_n 0, 1) := by decide +kernel
theorem d_Page_put_20 : decode b_Page_put 20 = .ok (.getfield 11, 3) := by decide +kernel
theorem d_Page_put_23 : decode b_Page_put 23 = .ok (.aload_n 0, 1) := by decide +kernel
theorem d_Page_put_24 : decode b_Page_put 24 = .ok (.getfield 15, 3) := by decide +kernel
theorem d_Page_put_27 : decode b_Page_put 27 = .ok (.iload_n 1, 1) := by decide +kernel
theorem d_Page_put_28 : decode b_Page_put 28 = .ok (.i2b, 1) := by decide +kernel
theorem d_Page_put_29 : decode b_Page_put 29 = .ok (.bastore, 1) := by decide +kernel
theorem d_Page_put_30 : decode b_Page_put 30 = .ok (.aload_n 0, 1) := by decide +kernel
theorem d_Page_put_31 : decode b_Page_put 31 = .ok (.dup, 1) := by decide +kernel
theorem d_Page_put_32 : decode b_Page_put 32 = .ok (.getfield 15, 3) := by decide +kernel
theorem d_Page_put_35 : decode b_Page_put 35 = .ok (.iconst 1, 1) := by decide +kernel
theorem d_Page_put_36 : decode b_Page_put 36 = .ok (.iadd, 1) := by decide +kernel
theorem d_Page_put_37 : decode b_Page_put 37 = .ok (.putfield 15, 3) := by decide +kernel
theorem d_Page_put_40 : decode b_Page_put 40 = .ok (.return_, 1) := by decide +kernel
theorem d_Writer_has_0 : decode b_Writer_has 0 = .ok (.aload_n 0, 1) := by decide +kernel
theorem d_Writer_has_1 : decode b_Writer_has 1 = .ok (.getfield 21, 3) := by decide +kernel
theorem d_Writer_has_4 : decode b_Writer_has 4 = .ok (.iload_n 1, 1) := by decide +kernel
theorem d_Writer_has_5 : decode b_Writer_has 5 = .ok (.iand, 1) := by decide +kernel
theorem d_Writer_has_6 : decode b_Writer_has 6 = .ok (.ifCond .eq 7, 3) := by decide +kernel
theorem d_Writer_has_9 : decode b_Writer_has 9 = .ok (.iconst 1, 1) := by decide +kernel
theorem d_Writer_has_10 : decode b_Writer_has 10 = .ok (.goto 4, 3) := by decide +kernel
theorem d_Writer_has_13 : decode b_Writer_has 13 = .ok (.iconst 0, 1) := by decide +kernel
theorem d_Writer_has_14 : decode b_Writer_has 14 = .ok (.ireturn, 1) := by decide +kernel
theorem d_Writer_putSign_0 : decode b_Writer_putSign 0 = .ok (.iload_n 1, 1) := by decide +kernel
theorem d_Writer_putSign_1 : decode b_Writer_putSign 1 = .ok (.ifCond .eq 15, 3) := by decide +kernel
theorem d_Writer_putSign_4 : decode b_Writer_putSign 4 = .ok (.aload_n 0, 1) := by decide +kernel
theorem d_Writer_putSign_5 : decode b_Writer_putSign 5 = .ok (.getfield 30, 3) := by decide +kernel
theorem d_Writer_putSign_8 : decode b_Writer_putSign 8 = .ok (.bipush 45, 2) := by decide +kernel
theorem d_Writer_putSign_10 : decode b_Writer_putSign 10 = .ok (.invokevirtual 138, 3) := by decide +kernel
theorem d_Writer_putSign_13 : decode b_Writer_putSign 13 = .ok (.goto 40, 3) := by decide +kernel
theorem d_Writer_putSign_16 : decode b_Writer_putSign 16 = .ok (.aload_n 0, 1) := by decide +kernel
theorem d_Writer_putSign_17 : decode b_Writer_putSign 17 = .ok (.iconst 2, 1) := by decide +kernel
theorem d_Writer_putSign_18 : decode b_Writer_putSign 18 = .ok (.invokevirtual 73, 3) := by decide +kernel
theorem d_Writer_putSign_21 : decode b_Writer_putSign 21 = .ok (.ifCond .eq 15, 3) := by decide +kernel
theorem d_Writer_putSign_24 : decode b_Writer_putSign 24 = .ok (.aload_n 0, 1) := by decide +kernel
theorem d_Writer_putSign_25 : decode b_Writer_putSign 25 = .ok (.getfield 30, 3) := by decide +kernel
theorem d_Writer_putSign_28 : decode b_Writer_putSign 28 = .ok (.bipush 43, 2) := by decide +kernel
theorem d_Writer_putSign_30 : decode b_Writer_putSign 30 = .ok (.invokevirtual 138, 3) := by decide +kernel
theorem d_Writer_putSign_33 : decode b_Writer_putSign 33 = .ok (.goto 20, 3) := by decide +kernel
theorem d_Writer_putSign_36 : decode b_Writer_putSign 36 = .ok (.aload_n 0, 1) := by decide +kernel
theorem d_Writer_putSign_37 : decode b_Writer_putSign 37 = .ok (.iconst 4, 1) := by decide +kernel
theorem d_Writer_putSign_38 : decode b_Writer_putSign 38 = .ok (.invokevirtual 73, 3) := by decide +kernel
theorem d_Writer_putSign_41 : decode b_Writer_putSign 41 = .ok (.ifCond .eq 12, 3) := by decide +kernel
theorem d_Writer_putSign_44 : decode b_Writer_putSign 44 = .ok (.aload_n 0, 1) := by decide +kernel
theorem d_Writer_putSign_45 : decode b_Writer_putSign 45 = .ok (.getfield 30, 3) := by decide +kernel
theorem d_Writer_putSign_48 : decode b_Writer_putSign 48 = .ok (.bipush 32, 2) := by decide +kernel
theorem d_Writer_putSign_50 : decode b_Writer_putSign 50 = .ok (.invokevirtual 138, 3) := by decide +kernel
theorem d_Writer_putSign_53 : decode b_Writer_putSign 53 = .ok (.return_, 1) := by decide +kernel
theorem d_Writer_findTens_0 : decode b_Writer_findTens 0 = .ok (.lload_n 1, 1) := by decide +kernel
theorem d_Writer_findTens_1 : decode b_Writer_findTens 1 = .ok (.lstore_n 3, 1) := by decide +kernel
theorem d_Writer_findTens_2 : decode b_Writer_findTens 2 = .ok (.aload_n 0, 1) := by decide +kernel
theorem d_Writer_findTens_3 : decode b_Writer_findTens 3 = .ok (.iconst 0, 1) := by decide +kernel
theorem d_Writer_findTens_4 : decode b_Writer_findTens 4 = .ok (.putfield 13, 3) := by decide +kernel
theorem d_Writer_findTens_7 : decode b_Writer_findTens 7 = .ok (.lload_n 3, 1) := by decide +kernel
theorem d_Writer_findTens_8 : decode b_Writer_findTens 8 = .ok (.lconst 0, 1) := by decide +kernel
theorem d_Writer_findTens_9 : decode b_Writer_findTens 9 = .ok (.lcmp, 1) := by decide +kernel
theorem d_Writer_findTens_10 : decode b_Writer_findTens 10 = .ok (.ifCond .eq 68, 3) := by decide +kernel
theorem d_Writer_findTens_13 : decode b_Writer_findTens 13 = .ok (.aload_n 0, 1) := by decide +kernel
theorem d_Writer_findTens_14 : decode b_Writer_findTens 14 = .ok (.getfield 13, 3) := by decide +kernel
theorem d_Writer_findTens_17 : decode b_Writer_findTens 17 = .ok (.aload_n 0, 1) := by decide +kernel
theorem d_Writer_findTens_18 : decode b_Writer_findTens 18 = .ok (.getfield 9, 3) := by decide +kernel
theorem d_Writer_findTens_21 : decode b_Writer_findTens 21 = .ok (.arraylength, 1) := by decide +kernel
theorem d_Writer_findTens_22 : decode b_Writer_findTens 22 = .ok (.if_icmp .ge 56, 3) := by decide +kernel
theorem d_Writer_findTens_25 : decode b_Writer_findTens 25 = .ok (.lload_n 3, 1) := by decide +kernel
theorem d_Writer_findTens_26 : decode b_Writer_findTens 26 = .ok (.ldc2_w 181, 3) := by decide +kernel
theorem d_Writer_findTens_29 : decode b_Writer_findTens 29 = .ok (.lrem, 1) := by decide +kernel
theorem d_Writer_findTens_30 : decode b_Writer_findTens 30 = .ok (.l2i, 1) := by decide +kernel
theorem d_Writer_findTens_31 : decode b_Writer_findTens 31 = .ok (.istore 5, 2) := by decide +kernel
theorem d_Writer_findTens_33 : decode b_Writer_findTens 33 = .ok (.aload_n 0, 1) := by decide +kernel
theorem d_Writer_findTens_34 : decode b_Writer_findTens 34 = .ok (.getfield 9, 3) := by decide +kernel
theorem d_Writer_findTens_37 : decode b_Writer_findTens 37 = .ok (.aload_n 0, 1) := by decide +kernel
theorem d_Writer_findTens_38 : decode b_Writer_findTens 38 = .ok (.getfield 13, 3) := by decide +kernel
theorem d_Writer_findTens_41 : decode b_Writer_findTens 41 = .ok (.bipush 48, 2) := by decide +kernel
theorem d_Writer_findTens_43 : decode b_Writer_findTens 43 = .ok (.iload 5, 2) := by decide +kernel
theorem d_Writer_findTens_45 : decode b_Writer_findTens 45 = .ok (.ifCond .ge 9, 3) := by decide +kernel
theorem d_Writer_findTens_48 : decode b_Writer_findTens 48 = .ok (.iload 5, 2) := by decide +kernel
theorem d_Writer_findTens_50 : decode b_Writer_findTens 50 = .ok (.ineg, 1) := by decide +kernel
theorem d_Writer_findTens_51 : decode b_Writer_findTens 51 = .ok (.goto 5, 3) := by decide +kernel
theorem d_Writer_findTens_54 : decode b_Writer_findTens 54 = .ok (.iload 5, 2) := by decide +kernel
theorem d_Writer_findTens_56 : decode b_Writer_findTens 56 = .ok (.iadd, 1) := by decide +kernel
theorem d_Writer_findTens_57 : decode b_Writer_findTens 57 = .ok (.i2b, 1) := by decide +kernel
theorem d_Writer_findTens_58 : decode b_Writer_findTens 58 = .ok (.bastore, 1) := by decide +kernel
theorem d_Writer_findTens_59 : decode b_Writer_findTens 59 = .ok (.aload_n 0, 1) := by decide +kernel
theorem d_Writer_findTens_60 : decode b_Writer_findTens 60 = .ok (.dup, 1) := by decide +kernel
theorem d_Writer_findTens_61 : decode b_Writer_findTens 61 = .ok (.getfield 13, 3) := by decide +kernel
theorem d_Writer_findTens_64 : decode b_Writer_findTens 64 = .ok (.iconst 1, 1) := by decide +kernel
theorem d_Writer_findTens_65 : decode b_Writer_findTens 65 = .ok (.iadd, 1) := by decide +kernel
theorem d_Writer_findTens_66 : decode b_Writer_findTens 66 = .ok (.putfield 13, 3) := by decide +kernel
theorem d_Writer_findTens_69 : decode b_Writer_findTens 69 = .ok (.lload_n 3, 1) := by decide +kernel
theorem d_Writer_findTens_70 : decode b_Writer_findTens 70 = .ok (.ldc2_w 181, 3) := by decide +kernel
theorem d_Writer_findTens_73 : decode b_Writer_findTens 73 = .ok (.ldiv, 1) := by decide +kernel
theorem d_Writer_findTens_74 : decode b_Writer_findTens 74 = .ok (.lstore_n 3, 1) := by decide +kernel
theorem d_Writer_findTens_75 : decode b_Writer_findTens 75 = .ok (.goto (-68), 3) := by decide +kernel
theorem d_Writer_findTens_78 : decode b_Writer_findTens 78 = .ok (.return_, 1) := by decide +kernel
theorem d_Writer_isGreat_0 : decode b_Writer_isGreat 0 = .ok (.aload_n 0, 1) := by decide +kernel
theorem d_Writer_isGreat_1 : decode b_Writer_isGreat 1 = .ok (.getfield 17, 3) := by decide +kernel
theorem d_Writer_isGreat_4 : decode b_Writer_isGreat 4 = .ok (.bipush 97, 2) := by decide +kernel
theorem d_Writer_isGreat_6 : decode b_Writer_isGreat 6 = .ok (.if_icmp .ge 7, 3) := by decide +kernel
theorem d_Writer_isGreat_9 : decode b_Writer_isGreat 9 = .ok (.iconst 1, 1) := by decide +kernel
theorem d_Writer_isGreat_10 : decode b_Writer_isGreat 10 = .ok (.goto 4, 3) := by decide +kernel
theorem d_Writer_isGreat_13 : decode b_Writer_isGreat 13 = .ok (.iconst 0, 1) := by decide +kernel
theorem d_Writer_isGreat_14 : decode b_Writer_isGreat 14 = .ok (.ireturn, 1) := by decide +kernel
theorem d_String_isLatin1_0 : decode b_String_isLatin1 0 = .ok (.getstatic 38, 3) := by decide +kernel
theorem d_String_isLatin1_3 : decode b_String_isLatin1 3 = .ok (.ifCond .eq 14, 3) := by decide +kernel
theorem d_String_isLatin1_6 : decode b_String_isLatin1 6 = .ok (.aload_n 0, 1) := by decide +kernel
theorem d_String_isLatin1_7 : decode b_String_isLatin1 7 = .ok (.getfield 15, 3) := by decide +kernel
theorem d_String_isLatin1_10 : decode b_String_isLatin1 10 = .ok (.ifCond .ne 7, 3) := by decide +kernel
theorem d_String_isLatin1_13 : decode b_String_isLatin1 13 = .ok (.iconst 1, 1) := by decide +kernel
theorem d_String_isLatin1_14 : decode b_String_isLatin1 14 = .ok (.goto 4, 3) := by decide +kernel
theorem d_String_isLatin1_17 : decode b_String_isLatin1 17 = .ok (.iconst 0, 1) := by decide +kernel
theorem d_String_isLatin1_18 : decode b_String_isLatin1 18 = .ok (.ireturn, 1) := by decide +kernel
theorem d_Preconditions_checkIndex_0 : decode b_Preconditions_checkIndex 0 = .ok (.iload_n 0, 1) := by decide +kernel
theorem d_Preconditions_checkIndex_1 : decode b_Preconditions_checkIndex 1 = .ok (.ifCond .lt 8, 3) := by decide +kernel
theorem d_Preconditions_checkIndex_4 : decode b_Preconditions_checkIndex 4 = .ok (.iload_n 0, 1) := by decide +kernel
theorem d_Preconditions_checkIndex_5 : decode b_Preconditions_checkIndex 5 = .ok (.iload_n 1, 1) := by decide +kernel
theorem d_Preconditions_checkIndex_6 : decode b_Preconditions_checkIndex 6 = .ok (.if_icmp .lt 10, 3) := by decide +kernel
theorem d_Preconditions_checkIndex_9 : decode b_Preconditions_checkIndex 9 = .ok (.aload_n 2, 1) := by decide +kernel
theorem d_Preconditions_checkIndex_10 : decode b_Preconditions_checkIndex 10 = .ok (.iload_n 0, 1) := by decide +kernel
theorem d_Preconditions_checkIndex_11 : decode b_Preconditions_checkIndex 11 = .ok (.iload_n 1, 1) := by decide +kernel
theorem d_Preconditions_checkIndex_12 : decode b_Preconditions_checkIndex 12 = .ok (.invokestatic 95, 3) := by decide +kernel
theorem d_Preconditions_checkIndex_15 : decode b_Preconditions_checkIndex 15 = .ok (.athrow, 1) := by decide +kernel
theorem d_Preconditions_checkIndex_16 : decode b_Preconditions_checkIndex 16 = .ok (.iload_n 0, 1) := by decide +kernel
theorem d_Preconditions_checkIndex_17 : decode b_Preconditions_checkIndex 17 = .ok (.ireturn, 1) := by decide +kernel
theorem d_String_checkIndex_0 : decode b_String_checkIndex 0 = .ok (.iload_n 0, 1) := by decide +kernel
theorem d_String_checkIndex_1 : decode b_String_checkIndex 1 = .ok (.iload_n 1, 1) := by decide +kernel
theorem d_String_checkIndex_2 : decode b_String_checkIndex 2 = .ok (.getstatic 1053, 3) := by decide +kernel
theorem d_String_checkIndex_5 : decode b_String_checkIndex 5 = .ok (.invokestatic 1059, 3) := by decide +kernel
theorem d_String_checkIndex_8 : decode b_String_checkIndex 8 = .ok (.pop, 1) := by decide +kernel
theorem d_String_checkIndex_9 : decode b_String_checkIndex 9 = .ok (.return_, 1) := by decide +kernel
theorem d_StringLatin1_charAt_0 : decode b_StringLatin1_charAt 0 = .ok (.iload_n 1, 1) := by decide +kernel
theorem d_StringLatin1_charAt_1 : decode b_StringLatin1_charAt 1 = .ok (.aload_n 0, 1) := by decide +kernel
theorem d_StringLatin1_charAt_2 : decode b_StringLatin1_charAt 2 = .ok (.arraylength, 1) := by decide +kernel
theorem d_StringLatin1_charAt_3 : decode b_StringLatin1_charAt 3 = .ok (.invokestatic 9, 3) := by decide +kernel
theorem d_StringLatin1_charAt_6 : decode b_StringLatin1_charAt 6 = .ok (.aload_n 0, 1) := by decide +kernel
theorem d_StringLatin1_charAt_7 : decode b_StringLatin1_charAt 7 = .ok (.iload_n 1, 1) := by decide +kernel
theorem d_StringLatin1_charAt_8 : decode b_StringLatin1_charAt 8 = .ok (.baload, 1) := by decide +kernel
theorem d_StringLatin1_charAt_9 : decode b_StringLatin1_charAt 9 = .ok (.sipush 255, 3) := by decide +kernel
theorem d_StringLatin1_charAt_12 : decode b_StringLatin1_charAt 12 = .ok (.iand, 1) := by decide +kernel
theorem d_StringLatin1_charAt_13 : decode b_StringLatin1_charAt 13 = .ok (.i2c, 1) := by decide +kernel
theorem d_StringLatin1_charAt_14 : decode b_StringLatin1_charAt 14 = .ok (.ireturn, 1) := by decide +kernel
theorem d_String_charAt_0 : decode b_String_charAt 0 = .ok (.aload_n 0, 1) := by decide +kernel
theorem d_String_charAt_1 : decode b_String_charAt 1 = .ok (.invokevirtual 492, 3) := by decide +kernel
theorem d_String_charAt_4 : decode b_String_charAt 4 = .ok (.ifCond .eq 12, 3) := by decide +kernel
theorem d_String_charAt_7 : decode b_String_charAt 7 = .ok (.aload_n 0, 1) := by decide +kernel
theorem d_String_charAt_8 : decode b_String_charAt 8 = .ok (.getfield 9, 3) := by decide +kernel
theorem d_String_charAt_11 : decode b_String_charAt 11 = .ok (.iload_n 1, 1) := by decide +kernel
theorem d_String_charAt_12 : decode b_String_charAt 12 = .ok (.invokestatic 495, 3) := by decide +kernel
theorem d_String_charAt_15 : decode b_String_charAt 15 = .ok (.ireturn, 1) := by decide +kernel
theorem d_String_charAt_16 : decode b_String_charAt 16 = .ok (.aload_n 0, 1) := by decide +kernel
theorem d_String_charAt_17 : decode b_String_charAt 17 = .ok (.getfield 9, 3) := by decide +kernel
theorem d_String_charAt_20 : decode b_String_charAt 20 = .ok (.iload_n 1, 1) := by decide +kernel
theorem d_String_charAt_21 : decode b_String_charAt 21 = .ok (.invokestatic 498, 3) := by decide +kernel
theorem d_String_charAt_24 : decode b_String_charAt 24 = .ok (.ireturn, 1) := by decide +kernel
theorem d_Writer_digitOf16_0 : decode b_Writer_digitOf16 0 = .ok (.lload_n 1, 1) := by decide +kernel
theorem d_Writer_digitOf16_1 : decode b_Writer_digitOf16 1 = .ok (.ldc2_w 169, 3) := by decide +kernel
theorem d_Writer_digitOf16_4 : decode b_Writer_digitOf16 4 = .ok (.land, 1) := by decide +kernel
theorem d_Writer_digitOf16_5 : decode b_Writer_digitOf16 5 = .ok (.l2i, 1) := by decide +kernel
theorem d_Writer_digitOf16_6 : decode b_Writer_digitOf16 6 = .ok (.istore_n 3, 1) := by decide +kernel
theorem d_Writer_digitOf16_7 : decode b_Writer_digitOf16 7 = .ok (.aload_n 0, 1) := by decide +kernel
theorem d_Writer_digitOf16_8 : decode b_Writer_digitOf16 8 = .ok (.invokevirtual 47, 3) := by decide +kernel
theorem d_Writer_digitOf16_11 : decode b_Writer_digitOf16 11 = .ok (.ifCond .eq 12, 3) := by decide +kernel
theorem d_Writer_digitOf16_14 : decode b_Writer_digitOf16 14 = .ok (.ldc 171, 2) := by decide +kernel
theorem d_Writer_digitOf16_16 : decode b_Writer_digitOf16 16 = .ok (.iload_n 3, 1) := by decide +kernel
theorem d_Writer_digitOf16_17 : decode b_Writer_digitOf16 17 = .ok (.invokevirtual 173, 3) := by decide +kernel
theorem d_Writer_digitOf16_20 : decode b_Writer_digitOf16 20 = .ok (.goto 9, 3) := by decide +kernel
theorem d_Writer_digitOf16_23 : decode b_Writer_digitOf16 23 = .ok (.ldc 179, 2) := by decide +kernel
theorem d_Writer_digitOf16_25 : decode b_Writer_digitOf16 25 = .ok (.iload_n 3, 1) := by decide +kernel
theorem d_Writer_digitOf16_26 : decode b_Writer_digitOf16 26 = .ok (.invokevirtual 173, 3) := by decide +kernel
theorem d_Writer_digitOf16_29 : decode b_Writer_digitOf16 29 = .ok (.ireturn, 1) := by decide +kernel
theorem d_Writer_findDigits_0 : decode b_Writer_findDigits 0 = .ok (.aload_n 0, 1) := by decide +kernel
theorem d_Writer_findDigits_1 : decode b_Writer_findDigits 1 = .ok (.getfield 17, 3) := by decide +kernel
theorem d_Writer_findDigits_4 : decode b_Writer_findDigits 4 = .ok (.bipush 100, 2) := by decide +kernel
theorem d_Writer_findDigits_6 : decode b_Writer_findDigits 6 = .ok (.if_icmp .ne 9, 3) := by decide +kernel
theorem d_Writer_findDigits_9 : decode b_Writer_findDigits 9 = .ok (.aload_n 0, 1) := by decide +kernel
theorem d_Writer_findDigits_10 : decode b_Writer_findDigits 10 = .ok (.lload_n 1, 1) := by decide +kernel
theorem d_Writer_findDigits_11 : decode b_Writer_findDigits 11 = .ok (.invokevirtual 150, 3) := by decide +kernel
theorem d_Writer_findDigits_14 : decode b_Writer_findDigits 14 = .ok (.return_, 1) := by decide +kernel
theorem d_Writer_findDigits_15 : decode b_Writer_findDigits 15 = .ok (.aload_n 0, 1) := by decide +kernel
theorem d_Writer_findDigits_16 : decode b_Writer_findDigits 16 = .ok (.getfield 17, 3) := by decide +kernel
theorem d_Writer_findDigits_19 : decode b_Writer_findDigits 19 = .ok (.bipush 111, 2) := by decide +kernel
theorem d_Writer_findDigits_21 : decode b_Writer_findDigits 21 = .ok (.if_icmp .ne 7, 3) := by decide +kernel
theorem d_Writer_findDigits_24 : decode b_Writer_findDigits 24 = .ok (.iconst 3, 1) := by decide +kernel
theorem d_Writer_findDigits_25 : decode b_Writer_findDigits 25 = .ok (.goto 4, 3) := by decide +kernel
theorem d_Writer_findDigits_28 : decode b_Writer_findDigits 28 = .ok (.iconst 4, 1) := by decide +kernel
theorem d_Writer_findDigits_29 : decode b_Writer_findDigits 29 = .ok (.istore_n 3, 1) := by decide +kernel
theorem d_Writer_findDigits_30 : decode b_Writer_findDigits 30 = .ok (.lload_n 1, 1) := by decide +kernel
theorem d_Writer_findDigits_31 : decode b_Writer_findDigits 31 = .ok (.lstore 4, 2) := by decide +kernel
theorem d_Writer_findDigits_33 : decode b_Writer_findDigits 33 = .ok (.aload_n 0, 1) := by decide +kernel
theorem d_Writer_findDigits_34 : decode b_Writer_findDigits 34 = .ok (.iconst 0, 1) := by decide +kernel
theorem d_Writer_findDigits_35 : decode b_Writer_findDigits 35 = .ok (.putfield 13, 3) := by decide +kernel
theorem d_Writer_findDigits_38 : decode b_Writer_findDigits 38 = .ok (.lload 4, 2) := by decide +kernel
theorem d_Writer_findDigits_40 : decode b_Writer_findDigits 40 = .ok (.lconst 0, 1) := by decide +kernel
theorem d_Writer_findDigits_41 : decode b_Writer_findDigits 41 = .ok (.lcmp, 1) := by decide +kernel
theorem d_Writer_findDigits_42 : decode b_Writer_findDigits 42 = .ok (.ifCond .eq 61, 3) := by decide +kernel
theorem d_Writer_findDigits_45 : decode b_Writer_findDigits 45 = .ok (.aload_n 0, 1) := by decide +kernel
theorem d_Writer_findDigits_46 : decode b_Writer_findDigits 46 = .ok (.getfield 13, 3) := by decide +kernel
theorem d_Writer_findDigits_49 : decode b_Writer_findDigits 49 = .ok (.aload_n 0, 1) := by decide +kernel
theorem d_Writer_findDigits_50 : decode b_Writer_findDigits 50 = .ok (.getfield 9, 3) := by decide +kernel
theorem d_Writer_findDigits_53 : decode b_Writer_findDigits 53 = .ok (.arraylength, 1) := by decide +kernel
theorem d_Writer_findDigits_54 : decode b_Writer_findDigits 54 = .ok (.if_icmp .ge 49, 3) := by decide +kernel
theorem d_Writer_findDigits_57 : decode b_Writer_findDigits 57 = .ok (.lload 4, 2) := by decide +kernel
theorem d_Writer_findDigits_59 : decode b_Writer_findDigits 59 = .ok (.iconst 1, 1) := by decide +kernel
theorem d_Writer_findDigits_60 : decode b_Writer_findDigits 60 = .ok (.iload_n 3, 1) := by decide +kernel
theorem d_Writer_findDigits_61 : decode b_Writer_findDigits 61 = .ok (.ishl, 1) := by decide +kernel
theorem d_Writer_findDigits_62 : decode b_Writer_findDigits 62 = .ok (.iconst 1, 1) := by decide +kernel
theorem d_Writer_findDigits_63 : decode b_Writer_findDigits 63 = .ok (.isub, 1) := by decide +kernel
theorem d_Writer_findDigits_64 : decode b_Writer_findDigits 64 = .ok (.i2l, 1) := by decide +kernel
theorem d_Writer_findDigits_65 : decode b_Writer_findDigits 65 = .ok (.land, 1) := by decide +kernel
theorem d_Writer_findDigits_66 : decode b_Writer_findDigits 66 = .ok (.lstore 6, 2) := by decide +kernel
theorem d_Writer_findDigits_68 : decode b_Writer_findDigits 68 = .ok (.aload_n 0, 1) := by decide +kernel
theorem d_Writer_findDigits_69 : decode b_Writer_findDigits 69 = .ok (.getfield 9, 3) := by decide +kernel
theorem d_Writer_findDigits_72 : decode b_Writer_findDigits 72 = .ok (.aload_n 0, 1) := by decide +kernel
theorem d_Writer_findDigits_73 : decode b_Writer_findDigits 73 = .ok (.getfield 13, 3) := by decide +kernel
theorem d_Writer_findDigits_76 : decode b_Writer_findDigits 76 = .ok (.aload_n 0, 1) := by decide +kernel
theorem d_Writer_findDigits_77 : decode b_Writer_findDigits 77 = .ok (.lload 6, 2) := by decide +kernel
theorem d_Writer_findDigits_79 : decode b_Writer_findDigits 79 = .ok (.invokevirtual 166, 3) := by decide +kernel
theorem d_Writer_findDigits_82 : decode b_Writer_findDigits 82 = .ok (.i2b, 1) := by decide +kernel
theorem d_Writer_findDigits_83 : decode b_Writer_findDigits 83 = .ok (.bastore, 1) := by decide +kernel
theorem d_Writer_findDigits_84 : decode b_Writer_findDigits 84 = .ok (.aload_n 0, 1) := by decide +kernel
theorem d_Writer_findDigits_85 : decode b_Writer_findDigits 85 = .ok (.dup, 1) := by decide +kernel
theorem d_Writer_findDigits_86 : decode b_Writer_findDigits 86 = .ok (.getfield 13, 3) := by decide +kernel
theorem d_Writer_findDigits_89 : decode b_Writer_findDigits 89 = .ok (.iconst 1, 1) := by decide +kernel
theorem d_Writer_findDigits_90 : decode b_Writer_findDigits 90 = .ok (.iadd, 1) := by decide +kernel
theorem d_Writer_findDigits_91 : decode b_Writer_findDigits 91 = .ok (.putfield 13, 3) := by decide +kernel
theorem d_Writer_findDigits_94 : decode b_Writer_findDigits 94 = .ok (.lload 4, 2) := by decide +kernel
theorem d_Writer_findDigits_96 : decode b_Writer_findDigits 96 = .ok (.iload_n 3, 1) := by decide +kernel
theorem d_Writer_findDigits_97 : decode b_Writer_findDigits 97 = .ok (.lushr, 1) := by decide +kernel
theorem d_Writer_findDigits_98 : decode b_Writer_findDigits 98 = .ok (.lstore 4, 2) := by decide +kernel
theorem d_Writer_findDigits_100 : decode b_Writer_findDigits 100 = .ok (.goto (-62), 3) := by decide +kernel
theorem d_Writer_findDigits_103 : decode b_Writer_findDigits 103 = .ok (.return_, 1) := by decide +kernel
