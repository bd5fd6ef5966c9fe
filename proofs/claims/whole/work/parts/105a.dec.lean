theorem d_Writer_precisionOr_0 : decode b_Writer_precisionOr 0 = .ok (.aload_n 0, 1) := by decide +kernel
theorem d_Writer_precisionOr_1 : decode b_Writer_precisionOr 1 = .ok (.getfield 27, 3) := by decide +kernel
theorem d_Writer_precisionOr_4 : decode b_Writer_precisionOr 4 = .ok (.iconst (-1), 1) := by decide +kernel
theorem d_Writer_precisionOr_5 : decode b_Writer_precisionOr 5 = .ok (.if_icmp .ne 7, 3) := by decide +kernel
theorem d_Writer_precisionOr_8 : decode b_Writer_precisionOr 8 = .ok (.iload_n 1, 1) := by decide +kernel
theorem d_Writer_precisionOr_9 : decode b_Writer_precisionOr 9 = .ok (.goto 7, 3) := by decide +kernel
theorem d_Writer_precisionOr_12 : decode b_Writer_precisionOr 12 = .ok (.aload_n 0, 1) := by decide +kernel
theorem d_Writer_precisionOr_13 : decode b_Writer_precisionOr 13 = .ok (.getfield 27, 3) := by decide +kernel
theorem d_Writer_precisionOr_16 : decode b_Writer_precisionOr 16 = .ok (.ireturn, 1) := by decide +kernel
theorem d_Writer_smallLetter_0 : decode b_Writer_smallLetter 0 = .ok (.aload_n 0, 1) := by decide +kernel
theorem d_Writer_smallLetter_1 : decode b_Writer_smallLetter 1 = .ok (.getfield 17, 3) := by decide +kernel
theorem d_Writer_smallLetter_4 : decode b_Writer_smallLetter 4 = .ok (.bipush 32, 2) := by decide +kernel
theorem d_Writer_smallLetter_6 : decode b_Writer_smallLetter 6 = .ok (.ior, 1) := by decide +kernel
theorem d_Writer_smallLetter_7 : decode b_Writer_smallLetter 7 = .ok (.ireturn, 1) := by decide +kernel
theorem d_Writer_putMarkOfBase_0 : decode b_Writer_putMarkOfBase 0 = .ok (.aload_n 0, 1) := by decide +kernel
theorem d_Writer_putMarkOfBase_1 : decode b_Writer_putMarkOfBase 1 = .ok (.invokevirtual 92, 3) := by decide +kernel
theorem d_Writer_putMarkOfBase_4 : decode b_Writer_putMarkOfBase 4 = .ok (.bipush 120, 2) := by decide +kernel
theorem d_Writer_putMarkOfBase_6 : decode b_Writer_putMarkOfBase 6 = .ok (.if_icmp .ne 32, 3) := by decide +kernel
theorem d_Writer_putMarkOfBase_9 : decode b_Writer_putMarkOfBase 9 = .ok (.lload_n 1, 1) := by decide +kernel
theorem d_Writer_putMarkOfBase_10 : decode b_Writer_putMarkOfBase 10 = .ok (.lconst 0, 1) := by decide +kernel
theorem d_Writer_putMarkOfBase_11 : decode b_Writer_putMarkOfBase 11 = .ok (.lcmp, 1) := by decide +kernel
theorem d_Writer_putMarkOfBase_12 : decode b_Writer_putMarkOfBase 12 = .ok (.ifCond .eq 26, 3) := by decide +kernel
theorem d_Writer_putMarkOfBase_15 : decode b_Writer_putMarkOfBase 15 = .ok (.aload_n 0, 1) := by decide +kernel
theorem d_Writer_putMarkOfBase_16 : decode b_Writer_putMarkOfBase 16 = .ok (.getfield 30, 3) := by decide +kernel
theorem d_Writer_putMarkOfBase_19 : decode b_Writer_putMarkOfBase 19 = .ok (.bipush 48, 2) := by decide +kernel
theorem d_Writer_putMarkOfBase_21 : decode b_Writer_putMarkOfBase 21 = .ok (.invokevirtual 138, 3) := by decide +kernel
theorem d_Writer_putMarkOfBase_24 : decode b_Writer_putMarkOfBase 24 = .ok (.aload_n 0, 1) := by decide +kernel
theorem d_Writer_putMarkOfBase_25 : decode b_Writer_putMarkOfBase 25 = .ok (.getfield 30, 3) := by decide +kernel
theorem d_Writer_putMarkOfBase_28 : decode b_Writer_putMarkOfBase 28 = .ok (.aload_n 0, 1) := by decide +kernel
theorem d_Writer_putMarkOfBase_29 : decode b_Writer_putMarkOfBase 29 = .ok (.getfield 17, 3) := by decide +kernel
theorem d_Writer_putMarkOfBase_32 : decode b_Writer_putMarkOfBase 32 = .ok (.invokevirtual 138, 3) := by decide +kernel
theorem d_Writer_putMarkOfBase_35 : decode b_Writer_putMarkOfBase 35 = .ok (.goto 25, 3) := by decide +kernel
theorem d_Writer_putMarkOfBase_38 : decode b_Writer_putMarkOfBase 38 = .ok (.aload_n 0, 1) := by decide +kernel
theorem d_Writer_putMarkOfBase_39 : decode b_Writer_putMarkOfBase 39 = .ok (.getfield 17, 3) := by decide +kernel
theorem d_Writer_putMarkOfBase_42 : decode b_Writer_putMarkOfBase 42 = .ok (.bipush 111, 2) := by decide +kernel
theorem d_Writer_putMarkOfBase_44 : decode b_Writer_putMarkOfBase 44 = .ok (.if_icmp .ne 16, 3) := by decide +kernel
theorem d_Writer_putMarkOfBase_47 : decode b_Writer_putMarkOfBase 47 = .ok (.iload_n 3, 1) := by decide +kernel
theorem d_Writer_putMarkOfBase_48 : decode b_Writer_putMarkOfBase 48 = .ok (.ifCond .ne 12, 3) := by decide +kernel
theorem d_Writer_putMarkOfBase_51 : decode b_Writer_putMarkOfBase 51 = .ok (.aload_n 0, 1) := by decide +kernel
theorem d_Writer_putMarkOfBase_52 : decode b_Writer_putMarkOfBase 52 = .ok (.getfield 30, 3) := by decide +kernel
theorem d_Writer_putMarkOfBase_55 : decode b_Writer_putMarkOfBase 55 = .ok (.bipush 48, 2) := by decide +kernel
theorem d_Writer_putMarkOfBase_57 : decode b_Writer_putMarkOfBase 57 = .ok (.invokevirtual 138, 3) := by decide +kernel
theorem d_Writer_putMarkOfBase_60 : decode b_Writer_putMarkOfBase 60 = .ok (.return_, 1) := by decide +kernel
theorem d_Page_length_0 : decode b_Page_length 0 = .ok (.aload_n 0, 1) := by decide +kernel
theorem d_Page_length_1 : decode b_Page_length 1 = .ok (.getfield 15, 3) := by decide +kernel
theorem d_Page_length_4 : decode b_Page_length 4 = .ok (.ireturn, 1) := by decide +kernel
theorem d_Page_putMany_0 : decode b_Page_putMany 0 = .ok (.iconst 0, 1) := by decide +kernel
theorem d_Page_putMany_1 : decode b_Page_putMany 1 = .ok (.istore_n 3, 1) := by decide +kernel
theorem d_Page_putMany_2 : decode b_Page_putMany 2 = .ok (.iload_n 3, 1) := by decide +kernel
theorem d_Page_putMany_3 : decode b_Page_putMany 3 = .ok (.iload_n 2, 1) := by decide +kernel
theorem d_Page_putMany_4 : decode b_Page_putMany 4 = .ok (.if_icmp .ge 14, 3) := by decide +kernel
theorem d_Page_putMany_7 : decode b_Page_putMany 7 = .ok (.aload_n 0, 1) := by decide +kernel
theorem d_Page_putMany_8 : decode b_Page_putMany 8 = .ok (.iload_n 1, 1) := by decide +kernel
theorem d_Page_putMany_9 : decode b_Page_putMany 9 = .ok (.invokevirtual 28, 3) := by decide +kernel
theorem d_Page_putMany_12 : decode b_Page_putMany 12 = .ok (.iinc 3 1, 3) := by decide +kernel
theorem d_Page_putMany_15 : decode b_Page_putMany 15 = .ok (.goto (-13), 3) := by decide +kernel
theorem d_Page_putMany_18 : decode b_Page_putMany 18 = .ok (.return_, 1) := by decide +kernel
theorem d_Writer_putFoundDigits_0 : decode b_Writer_putFoundDigits 0 = .ok (.aload_n 0, 1) := by decide +kernel
theorem d_Writer_putFoundDigits_1 : decode b_Writer_putFoundDigits 1 = .ok (.getfield 13, 3) := by decide +kernel
theorem d_Writer_putFoundDigits_4 : decode b_Writer_putFoundDigits 4 = .ok (.aload_n 0, 1) := by decide +kernel
theorem d_Writer_putFoundDigits_5 : decode b_Writer_putFoundDigits 5 = .ok (.getfield 9, 3) := by decide +kernel
theorem d_Writer_putFoundDigits_8 : decode b_Writer_putFoundDigits 8 = .ok (.arraylength, 1) := by decide +kernel
theorem d_Writer_putFoundDigits_9 : decode b_Writer_putFoundDigits 9 = .ok (.invokestatic 183, 3) := by decide +kernel
theorem d_Writer_putFoundDigits_12 : decode b_Writer_putFoundDigits 12 = .ok (.iconst 1, 1) := by decide +kernel
theorem d_Writer_putFoundDigits_13 : decode b_Writer_putFoundDigits 13 = .ok (.isub, 1) := by decide +kernel
theorem d_Writer_putFoundDigits_14 : decode b_Writer_putFoundDigits 14 = .ok (.istore_n 1, 1) := by decide +kernel
theorem d_Writer_putFoundDigits_15 : decode b_Writer_putFoundDigits 15 = .ok (.iload_n 1, 1) := by decide +kernel
theorem d_Writer_putFoundDigits_16 : decode b_Writer_putFoundDigits 16 = .ok (.ifCond .lt 22, 3) := by decide +kernel
theorem d_Writer_putFoundDigits_19 : decode b_Writer_putFoundDigits 19 = .ok (.aload_n 0, 1) := by decide +kernel
theorem d_Writer_putFoundDigits_20 : decode b_Writer_putFoundDigits 20 = .ok (.getfield 30, 3) := by decide +kernel
theorem d_Writer_putFoundDigits_23 : decode b_Writer_putFoundDigits 23 = .ok (.aload_n 0, 1) := by decide +kernel
theorem d_Writer_putFoundDigits_24 : decode b_Writer_putFoundDigits 24 = .ok (.getfield 9, 3) := by decide +kernel
theorem d_Writer_putFoundDigits_27 : decode b_Writer_putFoundDigits 27 = .ok (.iload_n 1, 1) := by decide +kernel
theorem d_Writer_putFoundDigits_28 : decode b_Writer_putFoundDigits 28 = .ok (.baload, 1) := by decide +kernel
theorem d_Writer_putFoundDigits_29 : decode b_Writer_putFoundDigits 29 = .ok (.invokevirtual 138, 3) := by decide +kernel
theorem d_Writer_putFoundDigits_32 : decode b_Writer_putFoundDigits 32 = .ok (.iinc 1 (-1), 3) := by decide +kernel
theorem d_Writer_putFoundDigits_35 : decode b_Writer_putFoundDigits 35 = .ok (.goto (-20), 3) := by decide +kernel
theorem d_Writer_putFoundDigits_38 : decode b_Writer_putFoundDigits 38 = .ok (.return_, 1) := by decide +kernel
theorem d_Page_at_0 : decode b_Page_at 0 = .ok (.iload_n 1, 1) := by decide +kernel
theorem d_Page_at_1 : decode b_Page_at 1 = .ok (.ifCond .lt 20, 3) := by decide +kernel
theorem d_Page_at_4 : decode b_Page_at 4 = .ok (.iload_n 1, 1) := by decide +kernel
theorem d_Page_at_5 : decode b_Page_at 5 = .ok (.aload_n 0, 1) := by decide +kernel
theorem d_Page_at_6 : decode b_Page_at 6 = .ok (.getfield 15, 3) := by decide +kernel
theorem d_Page_at_9 : decode b_Page_at 9 = .ok (.if_icmp .ge 12, 3) := by decide +kernel
theorem d_Page_at_12 : decode b_Page_at 12 = .ok (.iload_n 1, 1) := by decide +kernel
theorem d_Page_at_13 : decode b_Page_at 13 = .ok (.aload_n 0, 1) := by decide +kernel
theorem d_Page_at_14 : decode b_Page_at 14 = .ok (.getfield 11, 3) := by decide +kernel
theorem d_Page_at_17 : decode b_Page_at 17 = .ok (.arraylength, 1) := by decide +kernel
theorem d_Page_at_18 : decode b_Page_at 18 = .ok (.if_icmp .lt 7, 3) := by decide +kernel
theorem d_Page_at_21 : decode b_Page_at 21 = .ok (.iconst (-1), 1) := by decide +kernel
theorem d_Page_at_22 : decode b_Page_at 22 = .ok (.goto 9, 3) := by decide +kernel
theorem d_Page_at_25 : decode b_Page_at 25 = .ok (.aload_n 0, 1) := by decide +kernel
theorem d_Page_at_26 : decode b_Page_at 26 = .ok (.getfield 11, 3) := by decide +kernel
theorem d_Page_at_29 : decode b_Page_at 29 = .ok (.iload_n 1, 1) := by decide +kernel
theorem d_Page_at_30 : decode b_Page_at 30 = .ok (.baload, 1) := by decide +kernel
theorem d_Page_at_31 : decode b_Page_at 31 = .ok (.ireturn, 1) := by decide +kernel
theorem d_Page_insert_0 : decode b_Page_insert 0 = .ok (.aload_n 0, 1) := by decide +kernel
theorem d_Page_insert_1 : decode b_Page_insert 1 = .ok (.getfield 15, 3) := by decide +kernel
theorem d_Page_insert_4 : decode b_Page_insert 4 = .ok (.istore 4, 2) := by decide +kernel
theorem d_Page_insert_6 : decode b_Page_insert 6 = .ok (.aload_n 0, 1) := by decide +kernel
theorem d_Page_insert_7 : decode b_Page_insert 7 = .ok (.iload_n 2, 1) := by decide +kernel
theorem d_Page_insert_8 : decode b_Page_insert 8 = .ok (.iload_n 3, 1) := by decide +kernel
theorem d_Page_insert_9 : decode b_Page_insert 9 = .ok (.invokevirtual 36, 3) := by decide +kernel
theorem d_Page_insert_12 : decode b_Page_insert 12 = .ok (.aload_n 0, 1) := by decide +kernel
theorem d_Page_insert_13 : decode b_Page_insert 13 = .ok (.getfield 15, 3) := by decide +kernel
theorem d_Page_insert_16 : decode b_Page_insert 16 = .ok (.iconst 1, 1) := by decide +kernel
theorem d_Page_insert_17 : decode b_Page_insert 17 = .ok (.isub, 1) := by decide +kernel
theorem d_Page_insert_18 : decode b_Page_insert 18 = .ok (.istore 5, 2) := by decide +kernel
theorem d_Page_insert_20 : decode b_Page_insert 20 = .ok (.iload 5, 2) := by decide +kernel
theorem d_Page_insert_22 : decode b_Page_insert 22 = .ok (.iload_n 1, 1) := by decide +kernel
theorem d_Page_insert_23 : decode b_Page_insert 23 = .ok (.if_icmp .lt 61, 3) := by decide +kernel
theorem d_Page_insert_26 : decode b_Page_insert 26 = .ok (.iload 5, 2) := by decide +kernel
theorem d_Page_insert_28 : decode b_Page_insert 28 = .ok (.ifCond .lt 56, 3) := by decide +kernel
theorem d_Page_insert_31 : decode b_Page_insert 31 = .ok (.iload 5, 2) := by decide +kernel
theorem d_Page_insert_33 : decode b_Page_insert 33 = .ok (.aload_n 0, 1) := by decide +kernel
theorem d_Page_insert_34 : decode b_Page_insert 34 = .ok (.getfield 11, 3) := by decide +kernel
theorem d_Page_insert_37 : decode b_Page_insert 37 = .ok (.arraylength, 1) := by decide +kernel
theorem d_Page_insert_38 : decode b_Page_insert 38 = .ok (.if_icmp .ge 46, 3) := by decide +kernel
theorem d_Page_insert_41 : decode b_Page_insert 41 = .ok (.iload 5, 2) := by decide +kernel
theorem d_Page_insert_43 : decode b_Page_insert 43 = .ok (.iload_n 3, 1) := by decide +kernel
theorem d_Page_insert_44 : decode b_Page_insert 44 = .ok (.isub, 1) := by decide +kernel
theorem d_Page_insert_45 : decode b_Page_insert 45 = .ok (.istore 6, 2) := by decide +kernel
theorem d_Page_insert_47 : decode b_Page_insert 47 = .ok (.aload_n 0, 1) := by decide +kernel
theorem d_Page_insert_48 : decode b_Page_insert 48 = .ok (.getfield 11, 3) := by decide +kernel
theorem d_Page_insert_51 : decode b_Page_insert 51 = .ok (.iload 5, 2) := by decide +kernel
theorem d_Page_insert_53 : decode b_Page_insert 53 = .ok (.iload 6, 2) := by decide +kernel
theorem d_Page_insert_55 : decode b_Page_insert 55 = .ok (.iload_n 1, 1) := by decide +kernel
theorem d_Page_insert_56 : decode b_Page_insert 56 = .ok (.if_icmp .lt 19, 3) := by decide +kernel
theorem d_Page_insert_59 : decode b_Page_insert 59 = .ok (.iload 6, 2) := by decide +kernel
theorem d_Page_insert_61 : decode b_Page_insert 61 = .ok (.iload 4, 2) := by decide +kernel
theorem d_Page_insert_63 : decode b_Page_insert 63 = .ok (.if_icmp .ge 12, 3) := by decide +kernel
theorem d_Page_insert_66 : decode b_Page_insert 66 = .ok (.aload_n 0, 1) := by decide +kernel
theorem d_Page_insert_67 : decode b_Page_insert 67 = .ok (.iload 6, 2) := by decide +kernel
theorem d_Page_insert_69 : decode b_Page_insert 69 = .ok (.invokevirtual 32, 3) := by decide +kernel
theorem d_Page_insert_72 : decode b_Page_insert 72 = .ok (.goto 4, 3) := by decide +kernel
theorem d_Page_insert_75 : decode b_Page_insert 75 = .ok (.iload_n 2, 1) := by decide +kernel
theorem d_Page_insert_76 : decode b_Page_insert 76 = .ok (.i2b, 1) := by decide +kernel
theorem d_Page_insert_77 : decode b_Page_insert 77 = .ok (.bastore, 1) := by decide +kernel
theorem d_Page_insert_78 : decode b_Page_insert 78 = .ok (.iinc 5 (-1), 3) := by decide +kernel
theorem d_Page_insert_81 : decode b_Page_insert 81 = .ok (.goto (-61), 3) := by decide +kernel
theorem d_Page_insert_84 : decode b_Page_insert 84 = .ok (.return_, 1) := by decide +kernel
theorem d_Writer_fill_0 : decode b_Writer_fill 0 = .ok (.aload_n 0, 1) := by decide +kernel
theorem d_Writer_fill_1 : decode b_Writer_fill 1 = .ok (.getfield 24, 3) := by decide +kernel
theorem d_Writer_fill_4 : decode b_Writer_fill 4 = .ok (.aload_n 0, 1) := by decide +kernel
theorem d_Writer_fill_5 : decode b_Writer_fill 5 = .ok (.getfield 30, 3) := by decide +kernel
theorem d_Writer_fill_8 : decode b_Writer_fill 8 = .ok (.invokevirtual 81, 3) := by decide +kernel
theorem d_Writer_fill_11 : decode b_Writer_fill 11 = .ok (.isub, 1) := by decide +kernel
theorem d_Writer_fill_12 : decode b_Writer_fill 12 = .ok (.istore_n 3, 1) := by decide +kernel
theorem d_Writer_fill_13 : decode b_Writer_fill 13 = .ok (.iload_n 3, 1) := by decide +kernel
theorem d_Writer_fill_14 : decode b_Writer_fill 14 = .ok (.ifCond .gt 4, 3) := by decide +kernel
theorem d_Writer_fill_17 : decode b_Writer_fill 17 = .ok (.return_, 1) := by decide +kernel
theorem d_Writer_fill_18 : decode b_Writer_fill 18 = .ok (.aload_n 0, 1) := by decide +kernel
theorem d_Writer_fill_19 : decode b_Writer_fill 19 = .ok (.iconst 1, 1) := by decide +kernel
theorem d_Writer_fill_20 : decode b_Writer_fill 20 = .ok (.invokevirtual 73, 3) := by decide +kernel
theorem d_Writer_fill_23 : decode b_Writer_fill 23 = .ok (.ifCond .eq 16, 3) := by decide +kernel
theorem d_Writer_fill_26 : decode b_Writer_fill 26 = .ok (.aload_n 0, 1) := by decide +kernel
theorem d_Writer_fill_27 : decode b_Writer_fill 27 = .ok (.getfield 30, 3) := by decide +kernel
theorem d_Writer_fill_30 : decode b_Writer_fill 30 = .ok (.bipush 32, 2) := by decide +kernel
theorem d_Writer_fill_32 : decode b_Writer_fill 32 = .ok (.iload_n 3, 1) := by decide +kernel
theorem d_Writer_fill_33 : decode b_Writer_fill 33 = .ok (.invokevirtual 85, 3) := by decide +kernel
theorem d_Writer_fill_36 : decode b_Writer_fill 36 = .ok (.goto 41, 3) := by decide +kernel
theorem d_Writer_fill_39 : decode b_Writer_fill 39 = .ok (.aload_n 0, 1) := by decide +kernel
theorem d_Writer_fill_40 : decode b_Writer_fill 40 = .ok (.bipush 16, 2) := by decide +kernel
theorem d_Writer_fill_42 : decode b_Writer_fill 42 = .ok (.invokevirtual 73, 3) := by decide +kernel
theorem d_Writer_fill_45 : decode b_Writer_fill 45 = .ok (.ifCond .eq 21, 3) := by decide +kernel
theorem d_Writer_fill_48 : decode b_Writer_fill 48 = .ok (.iload_n 2, 1) := by decide +kernel
theorem d_Writer_fill_49 : decode b_Writer_fill 49 = .ok (.ifCond .eq 17, 3) := by decide +kernel
theorem d_Writer_fill_52 : decode b_Writer_fill 52 = .ok (.aload_n 0, 1) := by decide +kernel
theorem d_Writer_fill_53 : decode b_Writer_fill 53 = .ok (.getfield 30, 3) := by decide +kernel
theorem d_Writer_fill_56 : decode b_Writer_fill 56 = .ok (.iload_n 1, 1) := by decide +kernel
theorem d_Writer_fill_57 : decode b_Writer_fill 57 = .ok (.bipush 48, 2) := by decide +kernel
theorem d_Writer_fill_59 : decode b_Writer_fill 59 = .ok (.iload_n 3, 1) := by decide +kernel
theorem d_Writer_fill_60 : decode b_Writer_fill 60 = .ok (.invokevirtual 186, 3) := by decide +kernel
theorem d_Writer_fill_63 : decode b_Writer_fill 63 = .ok (.goto 14, 3) := by decide +kernel
theorem d_Writer_fill_66 : decode b_Writer_fill 66 = .ok (.aload_n 0, 1) := by decide +kernel
theorem d_Writer_fill_67 : decode b_Writer_fill 67 = .ok (.getfield 30, 3) := by decide +kernel
theorem d_Writer_fill_70 : decode b_Writer_fill 70 = .ok (.iconst 0, 1) := by decide +kernel
theorem d_Writer_fill_71 : decode b_Writer_fill 71 = .ok (.bipush 32, 2) := by decide +kernel
theorem d_Writer_fill_73 : decode b_Writer_fill 73 = .ok (.iload_n 3, 1) := by decide +kernel
theorem d_Writer_fill_74 : decode b_Writer_fill 74 = .ok (.invokevirtual 186, 3) := by decide +kernel
theorem d_Writer_fill_77 : decode b_Writer_fill 77 = .ok (.return_, 1) := by decide +kernel
theorem d_Writer_writeWhole_0 : decode b_Writer_writeWhole 0 = .ok (.aload_n 0, 1) := by decide +kernel
theorem d_Writer_writeWhole_1 : decode b_Writer_writeWhole 1 = .ok (.getfield 30, 3) := by decide +kernel
theorem d_Writer_writeWhole_4 : decode b_Writer_writeWhole 4 = .ok (.invokevirtual 38, 3) := by decide +kernel
theorem d_Writer_writeWhole_7 : decode b_Writer_writeWhole 7 = .ok (.aload_n 0, 1) := by decide +kernel
theorem d_Writer_writeWhole_8 : decode b_Writer_writeWhole 8 = .ok (.getfield 17, 3) := by decide +kernel
theorem d_Writer_writeWhole_11 : decode b_Writer_writeWhole 11 = .ok (.bipush 100, 2) := by decide +kernel
theorem d_Writer_writeWhole_13 : decode b_Writer_writeWhole 13 = .ok (.if_icmp .ne 18, 3) := by decide +kernel
theorem d_Writer_writeWhole_16 : decode b_Writer_writeWhole 16 = .ok (.aload_n 0, 1) := by decide +kernel
theorem d_Writer_writeWhole_17 : decode b_Writer_writeWhole 17 = .ok (.lload_n 1, 1) := by decide +kernel
theorem d_Writer_writeWhole_18 : decode b_Writer_writeWhole 18 = .ok (.lconst 0, 1) := by decide +kernel
theorem d_Writer_writeWhole_19 : decode b_Writer_writeWhole 19 = .ok (.lcmp, 1) := by decide +kernel
theorem d_Writer_writeWhole_20 : decode b_Writer_writeWhole 20 = .ok (.ifCond .ge 7, 3) := by decide +kernel
theorem d_Writer_writeWhole_23 : decode b_Writer_writeWhole 23 = .ok (.iconst 1, 1) := by decide +kernel
theorem d_Writer_writeWhole_24 : decode b_Writer_writeWhole 24 = .ok (.goto 4, 3) := by decide +kernel
theorem d_Writer_writeWhole_27 : decode b_Writer_writeWhole 27 = .ok (.iconst 0, 1) := by decide +kernel
theorem d_Writer_writeWhole_28 : decode b_Writer_writeWhole 28 = .ok (.invokevirtual 43, 3) := by decide +kernel
theorem d_Writer_writeWhole_31 : decode b_Writer_writeWhole 31 = .ok (.aload_n 0, 1) := by decide +kernel
theorem d_Writer_writeWhole_32 : decode b_Writer_writeWhole 32 = .ok (.lload_n 1, 1) := by decide +kernel
theorem d_Writer_writeWhole_33 : decode b_Writer_writeWhole 33 = .ok (.invokevirtual 59, 3) := by decide +kernel
theorem d_Writer_writeWhole_36 : decode b_Writer_writeWhole 36 = .ok (.iconst 0, 1) := by decide +kernel
theorem d_Writer_writeWhole_37 : decode b_Writer_writeWhole 37 = .ok (.aload_n 0, 1) := by decide +kernel
theorem d_Writer_writeWhole_38 : decode b_Writer_writeWhole 38 = .ok (.iconst 1, 1) := by decide +kernel
theorem d_Writer_writeWhole_39 : decode b_Writer_writeWhole 39 = .ok (.invokevirtual 63, 3) := by decide +kernel
theorem d_Writer_writeWhole_42 : decode b_Writer_writeWhole 42 = .ok (.aload_n 0, 1) := by decide +kernel
theorem d_Writer_writeWhole_43 : decode b_Writer_writeWhole 43 = .ok (.getfield 13, 3) := by decide +kernel
theorem d_Writer_writeWhole_46 : decode b_Writer_writeWhole 46 = .ok (.isub, 1) := by decide +kernel
theorem d_Writer_writeWhole_47 : decode b_Writer_writeWhole 47 = .ok (.invokestatic 67, 3) := by decide +kernel
theorem d_Writer_writeWhole_50 : decode b_Writer_writeWhole 50 = .ok (.istore_n 3, 1) := by decide +kernel
theorem d_Writer_writeWhole_51 : decode b_Writer_writeWhole 51 = .ok (.aload_n 0, 1) := by decide +kernel
theorem d_Writer_writeWhole_52 : decode b_Writer_writeWhole 52 = .ok (.bipush 8, 2) := by decide +kernel
theorem d_Writer_writeWhole_54 : decode b_Writer_writeWhole 54 = .ok (.invokevirtual 73, 3) := by decide +kernel
theorem d_Writer_writeWhole_57 : decode b_Writer_writeWhole 57 = .ok (.ifCond .eq 9, 3) := by decide +kernel
theorem d_Writer_writeWhole_60 : decode b_Writer_writeWhole 60 = .ok (.aload_n 0, 1) := by decide +kernel
theorem d_Writer_writeWhole_61 : decode b_Writer_writeWhole 61 = .ok (.lload_n 1, 1) := by decide +kernel
theorem d_Writer_writeWhole_62 : decode b_Writer_writeWhole 62 = .ok (.iload_n 3, 1) := by decide +kernel
theorem d_Writer_writeWhole_63 : decode b_Writer_writeWhole 63 = .ok (.invokevirtual 77, 3) := by decide +kernel
theorem d_Writer_writeWhole_66 : decode b_Writer_writeWhole 66 = .ok (.aload_n 0, 1) := by decide +kernel
theorem d_Writer_writeWhole_67 : decode b_Writer_writeWhole 67 = .ok (.getfield 30, 3) := by decide +kernel
theorem d_Writer_writeWhole_70 : decode b_Writer_writeWhole 70 = .ok (.invokevirtual 81, 3) := by decide +kernel
theorem d_Writer_writeWhole_73 : decode b_Writer_writeWhole 73 = .ok (.istore 4, 2) := by decide +kernel
theorem d_Writer_writeWhole_75 : decode b_Writer_writeWhole 75 = .ok (.aload_n 0, 1) := by decide +kernel
theorem d_Writer_writeWhole_76 : decode b_Writer_writeWhole 76 = .ok (.getfield 30, 3) := by decide +kernel
theorem d_Writer_writeWhole_79 : decode b_Writer_writeWhole 79 = .ok (.bipush 48, 2) := by decide +kernel
theorem d_Writer_writeWhole_81 : decode b_Writer_writeWhole 81 = .ok (.iload_n 3, 1) := by decide +kernel
theorem d_Writer_writeWhole_82 : decode b_Writer_writeWhole 82 = .ok (.invokevirtual 85, 3) := by decide +kernel
theorem d_Writer_writeWhole_85 : decode b_Writer_writeWhole 85 = .ok (.aload_n 0, 1) := by decide +kernel
theorem d_Writer_writeWhole_86 : decode b_Writer_writeWhole 86 = .ok (.invokevirtual 89, 3) := by decide +kernel
theorem d_Writer_writeWhole_89 : decode b_Writer_writeWhole 89 = .ok (.aload_n 0, 1) := by decide +kernel
theorem d_Writer_writeWhole_90 : decode b_Writer_writeWhole 90 = .ok (.iload 4, 2) := by decide +kernel
theorem d_Writer_writeWhole_92 : decode b_Writer_writeWhole 92 = .ok (.aload_n 0, 1) := by decide +kernel
theorem d_Writer_writeWhole_93 : decode b_Writer_writeWhole 93 = .ok (.getfield 27, 3) := by decide +kernel
theorem d_Writer_writeWhole_96 : decode b_Writer_writeWhole 96 = .ok (.iconst (-1), 1) := by decide +kernel
theorem d_Writer_writeWhole_97 : decode b_Writer_writeWhole 97 = .ok (.if_icmp .ne 7, 3) := by decide +kernel
theorem d_Writer_writeWhole_100 : decode b_Writer_writeWhole 100 = .ok (.iconst 1, 1) := by decide +kernel
theorem d_Writer_writeWhole_101 : decode b_Writer_writeWhole 101 = .ok (.goto 4, 3) := by decide +kernel
theorem d_Writer_writeWhole_104 : decode b_Writer_writeWhole 104 = .ok (.iconst 0, 1) := by decide +kernel
theorem d_Writer_writeWhole_105 : decode b_Writer_writeWhole 105 = .ok (.invokevirtual 55, 3) := by decide +kernel
theorem d_Writer_writeWhole_108 : decode b_Writer_writeWhole 108 = .ok (.return_, 1) := by decide +kernel
theorem d_String_coder_0 : decode b_String_coder 0 = .ok (.getstatic 38, 3) := by decide +kernel
theorem d_String_coder_3 : decode b_String_coder 3 = .ok (.ifCond .eq 10, 3) := by decide +kernel
theorem d_String_coder_6 : decode b_String_coder 6 = .ok (.aload_n 0, 1) := by decide +kernel
theorem d_String_coder_7 : decode b_String_coder 7 = .ok (.getfield 15, 3) := by decide +kernel
theorem d_String_coder_10 : decode b_String_coder 10 = .ok (.goto 4, 3) := by decide +kernel
theorem d_String_coder_13 : decode b_String_coder 13 = .ok (.iconst 1, 1) := by decide +kernel
theorem d_String_coder_14 : decode b_String_coder 14 = .ok (.ireturn, 1) := by decide +kernel
theorem d_String_length_0 : decode b_String_length 0 = .ok (.aload_n 0, 1) := by decide +kernel
theorem d_String_length_1 : decode b_String_length 1 = .ok (.getfield 9, 3) := by decide +kernel
theorem d_String_length_4 : decode b_String_length 4 = .ok (.arraylength, 1) := by decide +kernel
theorem d_String_length_5 : decode b_String_length 5 = .ok (.aload_n 0, 1) := by decide +kernel
theorem d_String_length_6 : decode b_String_length 6 = .ok (.invokevirtual 335, 3) := by decide +kernel
theorem d_String_length_9 : decode b_String_length 9 = .ok (.ishr, 1) := by decide +kernel
theorem d_String_length_10 : decode b_String_length 10 = .ok (.ireturn, 1) := by decide +kernel
theorem d_Page_putText_0 : decode b_Page_putText 0 = .ok (.iconst 0, 1) := by decide +kernel
theorem d_Page_putText_1 : decode b_Page_putText 1 = .ok (.istore_n 2, 1) := by decide +kernel
theorem d_Page_putText_2 : decode b_Page_putText 2 = .ok (.iload_n 2, 1) := by decide +kernel
theorem d_Page_putText_3 : decode b_Page_putText 3 = .ok (.aload_n 1, 1) := by decide +kernel
theorem d_Page_putText_4 : decode b_Page_putText 4 = .ok (.invokevirtual 19, 3) := by decide +kernel
theorem d_Page_putText_7 : decode b_Page_putText 7 = .ok (.if_icmp .ge 18, 3) := by decide +kernel
theorem d_Page_putText_10 : decode b_Page_putText 10 = .ok (.aload_n 0, 1) := by decide +kernel
theorem d_Page_putText_11 : decode b_Page_putText 11 = .ok (.aload_n 1, 1) := by decide +kernel
theorem d_Page_putText_12 : decode b_Page_putText 12 = .ok (.iload_n 2, 1) := by decide +kernel
theorem d_Page_putText_13 : decode b_Page_putText 13 = .ok (.invokevirtual 24, 3) := by decide +kernel
theorem d_Page_putText_16 : decode b_Page_putText 16 = .ok (.invokevirtual 28, 3) := by decide +kernel
theorem d_Page_putText_19 : decode b_Page_putText 19 = .ok (.iinc 2 1, 3) := by decide +kernel
theorem d_Page_putText_22 : decode b_Page_putText 22 = .ok (.goto (-20), 3) := by decide +kernel
theorem d_Page_putText_25 : decode b_Page_putText 25 = .ok (.return_, 1) := by decide +kernel
theorem d_Writer_writeWord_0 : decode b_Writer_writeWord 0 = .ok (.aload_n 0, 1) := by decide +kernel
theorem d_Writer_writeWord_1 : decode b_Writer_writeWord 1 = .ok (.getfield 30, 3) := by decide +kernel
theorem d_Writer_writeWord_4 : decode b_Writer_writeWord 4 = .ok (.invokevirtual 38, 3) := by decide +kernel
theorem d_Writer_writeWord_7 : decode b_Writer_writeWord 7 = .ok (.aload_n 0, 1) := by decide +kernel
theorem d_Writer_writeWord_8 : decode b_Writer_writeWord 8 = .ok (.iload_n 3, 1) := by decide +kernel
theorem d_Writer_writeWord_9 : decode b_Writer_writeWord 9 = .ok (.invokevirtual 43, 3) := by decide +kernel
theorem d_Writer_writeWord_12 : decode b_Writer_writeWord 12 = .ok (.aload_n 0, 1) := by decide +kernel
theorem d_Writer_writeWord_13 : decode b_Writer_writeWord 13 = .ok (.getfield 30, 3) := by decide +kernel
theorem d_Writer_writeWord_16 : decode b_Writer_writeWord 16 = .ok (.aload_n 0, 1) := by decide +kernel
theorem d_Writer_writeWord_17 : decode b_Writer_writeWord 17 = .ok (.invokevirtual 47, 3) := by decide +kernel
theorem d_Writer_writeWord_20 : decode b_Writer_writeWord 20 = .ok (.ifCond .eq 7, 3) := by decide +kernel
theorem d_Writer_writeWord_23 : decode b_Writer_writeWord 23 = .ok (.aload_n 2, 1) := by decide +kernel
theorem d_Writer_writeWord_24 : decode b_Writer_writeWord 24 = .ok (.goto 4, 3) := by decide +kernel
theorem d_Writer_writeWord_27 : decode b_Writer_writeWord 27 = .ok (.aload_n 1, 1) := by decide +kernel
theorem d_Writer_writeWord_28 : decode b_Writer_writeWord 28 = .ok (.invokevirtual 51, 3) := by decide +kernel
theorem d_Writer_writeWord_31 : decode b_Writer_writeWord 31 = .ok (.aload_n 0, 1) := by decide +kernel
theorem d_Writer_writeWord_32 : decode b_Writer_writeWord 32 = .ok (.iconst 0, 1) := by decide +kernel
theorem d_Writer_writeWord_33 : decode b_Writer_writeWord 33 = .ok (.iconst 0, 1) := by decide +kernel
theorem d_Writer_writeWord_34 : decode b_Writer_writeWord 34 = .ok (.invokevirtual 55, 3) := by decide +kernel
theorem d_Writer_writeWord_37 : decode b_Writer_writeWord 37 = .ok (.return_, 1) := by decide +kernel
theorem d_N_sizeOfValue_0 : decode b_N_sizeOfValue 0 = .ok (.aload_n 0, 1) := by decide +kernel
theorem d_N_sizeOfValue_1 : decode b_N_sizeOfValue 1 = .ok (.getfield 65, 3) := by decide +kernel
theorem d_N_sizeOfValue_4 : decode b_N_sizeOfValue 4 = .ok (.lconst 0, 1) := by decide +kernel
theorem d_N_sizeOfValue_5 : decode b_N_sizeOfValue 5 = .ok (.lcmp, 1) := by decide +kernel
theorem d_N_sizeOfValue_6 : decode b_N_sizeOfValue 6 = .ok (.ifCond .ge 11, 3) := by decide +kernel
theorem d_N_sizeOfValue_9 : decode b_N_sizeOfValue 9 = .ok (.aload_n 0, 1) := by decide +kernel
theorem d_N_sizeOfValue_10 : decode b_N_sizeOfValue 10 = .ok (.getfield 65, 3) := by decide +kernel
theorem d_N_sizeOfValue_13 : decode b_N_sizeOfValue 13 = .ok (.lneg, 1) := by decide +kernel
theorem d_N_sizeOfValue_14 : decode b_N_sizeOfValue 14 = .ok (.goto 7, 3) := by decide +kernel
theorem d_N_sizeOfValue_17 : decode b_N_sizeOfValue 17 = .ok (.aload_n 0, 1) := by decide +kernel
theorem d_N_sizeOfValue_18 : decode b_N_sizeOfValue 18 = .ok (.getfield 65, 3) := by decide +kernel
theorem d_N_sizeOfValue_21 : decode b_N_sizeOfValue 21 = .ok (.lstore_n 1, 1) := by decide +kernel
theorem d_N_sizeOfValue_22 : decode b_N_sizeOfValue 22 = .ok (.aload_n 0, 1) := by decide +kernel
theorem d_N_sizeOfValue_23 : decode b_N_sizeOfValue 23 = .ok (.getfield 38, 3) := by decide +kernel
theorem d_N_sizeOfValue_26 : decode b_N_sizeOfValue 26 = .ok (.lload_n 1, 1) := by decide +kernel
theorem d_N_sizeOfValue_27 : decode b_N_sizeOfValue 27 = .ok (.iconst 0, 1) := by decide +kernel
theorem d_N_sizeOfValue_28 : decode b_N_sizeOfValue 28 = .ok (.aload_n 0, 1) := by decide +kernel
theorem d_N_sizeOfValue_29 : decode b_N_sizeOfValue 29 = .ok (.getfield 69, 3) := by decide +kernel
theorem d_N_sizeOfValue_32 : decode b_N_sizeOfValue 32 = .ok (.invokevirtual 101, 3) := by decide +kernel
theorem d_N_sizeOfValue_35 : decode b_N_sizeOfValue 35 = .ok (.return_, 1) := by decide +kernel
theorem d_Decimal_setProduct_0 : decode b_Decimal_setProduct 0 = .ok (.aload_n 0, 1) := by decide +kernel
theorem d_Decimal_setProduct_1 : decode b_Decimal_setProduct 1 = .ok (.invokevirtual 64, 3) := by decide +kernel
theorem d_Decimal_setProduct_4 : decode b_Decimal_setProduct 4 = .ok (.aload_n 0, 1) := by decide +kernel
theorem d_Decimal_setProduct_5 : decode b_Decimal_setProduct 5 = .ok (.bipush 35, 2) := by decide +kernel
theorem d_Decimal_setProduct_7 : decode b_Decimal_setProduct 7 = .ok (.lload_n 1, 1) := by decide +kernel
theorem d_Decimal_setProduct_8 : decode b_Decimal_setProduct 8 = .ok (.ldc2_w 67, 3) := by decide +kernel
theorem d_Decimal_setProduct_11 : decode b_Decimal_setProduct 11 = .ok (.lrem, 1) := by decide +kernel
theorem d_Decimal_setProduct_12 : decode b_Decimal_setProduct 12 = .ok (.l2i, 1) := by decide +kernel
theorem d_Decimal_setProduct_13 : decode b_Decimal_setProduct 13 = .ok (.invokevirtual 27, 3) := by decide +kernel
theorem d_Decimal_setProduct_16 : decode b_Decimal_setProduct 16 = .ok (.aload_n 0, 1) := by decide +kernel
theorem d_Decimal_setProduct_17 : decode b_Decimal_setProduct 17 = .ok (.bipush 34, 2) := by decide +kernel
theorem d_Decimal_setProduct_19 : decode b_Decimal_setProduct 19 = .ok (.lload_n 1, 1) := by decide +kernel
theorem d_Decimal_setProduct_20 : decode b_Decimal_setProduct 20 = .ok (.ldc2_w 67, 3) := by decide +kernel
theorem d_Decimal_setProduct_23 : decode b_Decimal_setProduct 23 = .ok (.ldiv, 1) := by decide +kernel
theorem d_Decimal_setProduct_24 : decode b_Decimal_setProduct 24 = .ok (.l2i, 1) := by decide +kernel
theorem d_Decimal_setProduct_25 : decode b_Decimal_setProduct 25 = .ok (.invokevirtual 27, 3) := by decide +kernel
theorem d_Decimal_setProduct_28 : decode b_Decimal_setProduct 28 = .ok (.aload_n 0, 1) := by decide +kernel
theorem d_Decimal_setProduct_29 : decode b_Decimal_setProduct 29 = .ok (.invokevirtual 38, 3) := by decide +kernel
theorem d_Decimal_setProduct_32 : decode b_Decimal_setProduct 32 = .ok (.iload_n 3, 1) := by decide +kernel
theorem d_Decimal_setProduct_33 : decode b_Decimal_setProduct 33 = .ok (.ifCond .ge 8, 3) := by decide +kernel
theorem d_Decimal_setProduct_36 : decode b_Decimal_setProduct 36 = .ok (.iload_n 3, 1) := by decide +kernel
theorem d_Decimal_setProduct_37 : decode b_Decimal_setProduct 37 = .ok (.ineg, 1) := by decide +kernel
theorem d_Decimal_setProduct_38 : decode b_Decimal_setProduct 38 = .ok (.goto 4, 3) := by decide +kernel
theorem d_Decimal_setProduct_41 : decode b_Decimal_setProduct 41 = .ok (.iload_n 3, 1) := by decide +kernel
theorem d_Decimal_setProduct_42 : decode b_Decimal_setProduct 42 = .ok (.istore 4, 2) := by decide +kernel
theorem d_Decimal_setProduct_44 : decode b_Decimal_setProduct 44 = .ok (.iconst 0, 1) := by decide +kernel
theorem d_Decimal_setProduct_45 : decode b_Decimal_setProduct 45 = .ok (.istore 5, 2) := by decide +kernel
theorem d_Decimal_setProduct_47 : decode b_Decimal_setProduct 47 = .ok (.iload 5, 2) := by decide +kernel
theorem d_Decimal_setProduct_49 : decode b_Decimal_setProduct 49 = .ok (.bipush 64, 2) := by decide +kernel
theorem d_Decimal_setProduct_51 : decode b_Decimal_setProduct 51 = .ok (.if_icmp .ge 49, 3) := by decide +kernel
theorem d_Decimal_setProduct_54 : decode b_Decimal_setProduct 54 = .ok (.iload 4, 2) := by decide +kernel
theorem d_Decimal_setProduct_56 : decode b_Decimal_setProduct 56 = .ok (.ifCond .le 44, 3) := by decide +kernel
theorem d_Decimal_setProduct_59 : decode b_Decimal_setProduct 59 = .ok (.bipush 29, 2) := by decide +kernel
theorem d_Decimal_setProduct_61 : decode b_Decimal_setProduct 61 = .ok (.iload 4, 2) := by decide +kernel
theorem d_Decimal_setProduct_63 : decode b_Decimal_setProduct 63 = .ok (.invokestatic 69, 3) := by decide +kernel
theorem d_Decimal_setProduct_66 : decode b_Decimal_setProduct 66 = .ok (.istore 6, 2) := by decide +kernel
theorem d_Decimal_setProduct_68 : decode b_Decimal_setProduct 68 = .ok (.iload_n 3, 1) := by decide +kernel
theorem d_Decimal_setProduct_69 : decode b_Decimal_setProduct 69 = .ok (.ifCond .ge 12, 3) := by decide +kernel
theorem d_Decimal_setProduct_72 : decode b_Decimal_setProduct 72 = .ok (.aload_n 0, 1) := by decide +kernel
theorem d_Decimal_setProduct_73 : decode b_Decimal_setProduct 73 = .ok (.iload 6, 2) := by decide +kernel
theorem d_Decimal_setProduct_75 : decode b_Decimal_setProduct 75 = .ok (.invokevirtual 72, 3) := by decide +kernel
theorem d_Decimal_setProduct_78 : decode b_Decimal_setProduct 78 = .ok (.goto 9, 3) := by decide +kernel
theorem d_Decimal_setProduct_81 : decode b_Decimal_setProduct 81 = .ok (.aload_n 0, 1) := by decide +kernel
theorem d_Decimal_setProduct_82 : decode b_Decimal_setProduct 82 = .ok (.iload 6, 2) := by decide +kernel
theorem d_Decimal_setProduct_84 : decode b_Decimal_setProduct 84 = .ok (.invokevirtual 75, 3) := by decide +kernel
theorem d_Decimal_setProduct_87 : decode b_Decimal_setProduct 87 = .ok (.iload 4, 2) := by decide +kernel
theorem d_Decimal_setProduct_89 : decode b_Decimal_setProduct 89 = .ok (.iload 6, 2) := by decide +kernel
theorem d_Decimal_setProduct_91 : decode b_Decimal_setProduct 91 = .ok (.isub, 1) := by decide +kernel
theorem d_Decimal_setProduct_92 : decode b_Decimal_setProduct 92 = .ok (.istore 4, 2) := by decide +kernel
theorem d_Decimal_setProduct_94 : decode b_Decimal_setProduct 94 = .ok (.iinc 5 1, 3) := by decide +kernel
theorem d_Decimal_setProduct_97 : decode b_Decimal_setProduct 97 = .ok (.goto (-50), 3) := by decide +kernel
theorem d_Decimal_setProduct_100 : decode b_Decimal_setProduct 100 = .ok (.return_, 1) := by decide +kernel
