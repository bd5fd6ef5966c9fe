theorem d_Tape_hasRoomFor_0 : decode b_Tape_hasRoomFor 0 = .ok (.iload_n 1, 1) := by decide +kernel
theorem d_Tape_hasRoomFor_1 : decode b_Tape_hasRoomFor 1 = .ok (.sipush 1200, 3) := by decide +kernel
theorem d_Tape_hasRoomFor_4 : decode b_Tape_hasRoomFor 4 = .ok (.aload_n 0, 1) := by decide +kernel
theorem d_Tape_hasRoomFor_5 : decode b_Tape_hasRoomFor 5 = .ok (.getfield 13, 3) := by decide +kernel
theorem d_Tape_hasRoomFor_8 : decode b_Tape_hasRoomFor 8 = .ok (.isub, 1) := by decide +kernel
theorem d_Tape_hasRoomFor_9 : decode b_Tape_hasRoomFor 9 = .ok (.if_icmp .gt 7, 3) := by decide +kernel
theorem d_Tape_hasRoomFor_12 : decode b_Tape_hasRoomFor 12 = .ok (.iconst 1, 1) := by decide +kernel
theorem d_Tape_hasRoomFor_13 : decode b_Tape_hasRoomFor 13 = .ok (.goto 4, 3) := by decide +kernel
theorem d_Tape_hasRoomFor_16 : decode b_Tape_hasRoomFor 16 = .ok (.iconst 0, 1) := by decide +kernel
theorem d_Tape_hasRoomFor_17 : decode b_Tape_hasRoomFor 17 = .ok (.ireturn, 1) := by decide +kernel
theorem d_Tape_add_0 : decode b_Tape_add 0 = .ok (.aload_n 0, 1) := by decide +kernel
theorem d_Tape_add_1 : decode b_Tape_add 1 = .ok (.getfield 13, 3) := by decide +kernel
theorem d_Tape_add_4 : decode b_Tape_add 4 = .ok (.ifCond .lt 36, 3) := by decide +kernel
theorem d_Tape_add_7 : decode b_Tape_add 7 = .ok (.aload_n 0, 1) := by decide +kernel
theorem d_Tape_add_8 : decode b_Tape_add 8 = .ok (.getfield 13, 3) := by decide +kernel
theorem d_Tape_add_11 : decode b_Tape_add 11 = .ok (.aload_n 0, 1) := by decide +kernel
theorem d_Tape_add_12 : decode b_Tape_add 12 = .ok (.getfield 9, 3) := by decide +kernel
theorem d_Tape_add_15 : decode b_Tape_add 15 = .ok (.arraylength, 1) := by decide +kernel
theorem d_Tape_add_16 : decode b_Tape_add 16 = .ok (.if_icmp .ge 24, 3) := by decide +kernel
theorem d_Tape_add_19 : decode b_Tape_add 19 = .ok (.aload_n 0, 1) := by decide +kernel
theorem d_Tape_add_20 : decode b_Tape_add 20 = .ok (.getfield 9, 3) := by decide +kernel
theorem d_Tape_add_23 : decode b_Tape_add 23 = .ok (.aload_n 0, 1) := by decide +kernel
theorem d_Tape_add_24 : decode b_Tape_add 24 = .ok (.getfield 13, 3) := by decide +kernel
theorem d_Tape_add_27 : decode b_Tape_add 27 = .ok (.iload_n 1, 1) := by decide +kernel
theorem d_Tape_add_28 : decode b_Tape_add 28 = .ok (.i2b, 1) := by decide +kernel
theorem d_Tape_add_29 : decode b_Tape_add 29 = .ok (.bastore, 1) := by decide +kernel
theorem d_Tape_add_30 : decode b_Tape_add 30 = .ok (.aload_n 0, 1) := by decide +kernel
theorem d_Tape_add_31 : decode b_Tape_add 31 = .ok (.dup, 1) := by decide +kernel
theorem d_Tape_add_32 : decode b_Tape_add 32 = .ok (.getfield 13, 3) := by decide +kernel
theorem d_Tape_add_35 : decode b_Tape_add 35 = .ok (.iconst 1, 1) := by decide +kernel
theorem d_Tape_add_36 : decode b_Tape_add 36 = .ok (.iadd, 1) := by decide +kernel
theorem d_Tape_add_37 : decode b_Tape_add 37 = .ok (.putfield 13, 3) := by decide +kernel
theorem d_Tape_add_40 : decode b_Tape_add 40 = .ok (.return_, 1) := by decide +kernel
theorem d_Tape_length_0 : decode b_Tape_length 0 = .ok (.aload_n 0, 1) := by decide +kernel
theorem d_Tape_length_1 : decode b_Tape_length 1 = .ok (.getfield 13, 3) := by decide +kernel
theorem d_Tape_length_4 : decode b_Tape_length 4 = .ok (.ireturn, 1) := by decide +kernel
theorem d_N_type_0 : decode b_N_type 0 = .ok (.iload_n 3, 1) := by decide +kernel
theorem d_N_type_1 : decode b_N_type 1 = .ok (.iconst 1, 1) := by decide +kernel
theorem d_N_type_2 : decode b_N_type 2 = .ok (.if_icmp .lt 9, 3) := by decide +kernel
theorem d_N_type_5 : decode b_N_type 5 = .ok (.iload_n 3, 1) := by decide +kernel
theorem d_N_type_6 : decode b_N_type 6 = .ok (.bipush 8, 2) := by decide +kernel
theorem d_N_type_8 : decode b_N_type 8 = .ok (.if_icmp .le 5, 3) := by decide +kernel
theorem d_N_type_11 : decode b_N_type 11 = .ok (.iconst (-1), 1) := by decide +kernel
theorem d_N_type_12 : decode b_N_type 12 = .ok (.ireturn, 1) := by decide +kernel
theorem d_N_type_13 : decode b_N_type 13 = .ok (.aload_n 0, 1) := by decide +kernel
theorem d_N_type_14 : decode b_N_type 14 = .ok (.getfield 10, 3) := by decide +kernel
theorem d_N_type_17 : decode b_N_type 17 = .ok (.iload_n 3, 1) := by decide +kernel
theorem d_N_type_18 : decode b_N_type 18 = .ok (.invokevirtual 72, 3) := by decide +kernel
theorem d_N_type_21 : decode b_N_type 21 = .ok (.ifCond .ne 6, 3) := by decide +kernel
theorem d_N_type_24 : decode b_N_type 24 = .ok (.bipush (-3), 2) := by decide +kernel
theorem d_N_type_26 : decode b_N_type 26 = .ok (.ireturn, 1) := by decide +kernel
theorem d_N_type_27 : decode b_N_type 27 = .ok (.iload_n 3, 1) := by decide +kernel
theorem d_N_type_28 : decode b_N_type 28 = .ok (.iconst 1, 1) := by decide +kernel
theorem d_N_type_29 : decode b_N_type 29 = .ok (.isub, 1) := by decide +kernel
theorem d_N_type_30 : decode b_N_type 30 = .ok (.istore 4, 2) := by decide +kernel
theorem d_N_type_32 : decode b_N_type 32 = .ok (.iload 4, 2) := by decide +kernel
theorem d_N_type_34 : decode b_N_type 34 = .ok (.ifCond .lt 28, 3) := by decide +kernel
theorem d_N_type_37 : decode b_N_type 37 = .ok (.aload_n 0, 1) := by decide +kernel
theorem d_N_type_38 : decode b_N_type 38 = .ok (.getfield 10, 3) := by decide +kernel
theorem d_N_type_41 : decode b_N_type 41 = .ok (.lload_n 1, 1) := by decide +kernel
theorem d_N_type_42 : decode b_N_type 42 = .ok (.bipush 8, 2) := by decide +kernel
theorem d_N_type_44 : decode b_N_type 44 = .ok (.iload 4, 2) := by decide +kernel
theorem d_N_type_46 : decode b_N_type 46 = .ok (.imul, 1) := by decide +kernel
theorem d_N_type_47 : decode b_N_type 47 = .ok (.lushr, 1) := by decide +kernel
theorem d_N_type_48 : decode b_N_type 48 = .ok (.l2i, 1) := by decide +kernel
theorem d_N_type_49 : decode b_N_type 49 = .ok (.sipush 255, 3) := by decide +kernel
theorem d_N_type_52 : decode b_N_type 52 = .ok (.iand, 1) := by decide +kernel
theorem d_N_type_53 : decode b_N_type 53 = .ok (.invokevirtual 76, 3) := by decide +kernel
theorem d_N_type_56 : decode b_N_type 56 = .ok (.iinc 4 (-1), 3) := by decide +kernel
theorem d_N_type_59 : decode b_N_type 59 = .ok (.goto (-27), 3) := by decide +kernel
theorem d_N_type_62 : decode b_N_type 62 = .ok (.aload_n 0, 1) := by decide +kernel
theorem d_N_type_63 : decode b_N_type 63 = .ok (.getfield 10, 3) := by decide +kernel
theorem d_N_type_66 : decode b_N_type 66 = .ok (.invokevirtual 80, 3) := by decide +kernel
theorem d_N_type_69 : decode b_N_type 69 = .ok (.ireturn, 1) := by decide +kernel
theorem d_Tape_at_0 : decode b_Tape_at 0 = .ok (.iload_n 1, 1) := by decide +kernel
theorem d_Tape_at_1 : decode b_Tape_at 1 = .ok (.ifCond .lt 20, 3) := by decide +kernel
theorem d_Tape_at_4 : decode b_Tape_at 4 = .ok (.iload_n 1, 1) := by decide +kernel
theorem d_Tape_at_5 : decode b_Tape_at 5 = .ok (.aload_n 0, 1) := by decide +kernel
theorem d_Tape_at_6 : decode b_Tape_at 6 = .ok (.getfield 13, 3) := by decide +kernel
theorem d_Tape_at_9 : decode b_Tape_at 9 = .ok (.if_icmp .ge 12, 3) := by decide +kernel
theorem d_Tape_at_12 : decode b_Tape_at 12 = .ok (.iload_n 1, 1) := by decide +kernel
theorem d_Tape_at_13 : decode b_Tape_at 13 = .ok (.aload_n 0, 1) := by decide +kernel
theorem d_Tape_at_14 : decode b_Tape_at 14 = .ok (.getfield 9, 3) := by decide +kernel
theorem d_Tape_at_17 : decode b_Tape_at 17 = .ok (.arraylength, 1) := by decide +kernel
theorem d_Tape_at_18 : decode b_Tape_at 18 = .ok (.if_icmp .lt 7, 3) := by decide +kernel
theorem d_Tape_at_21 : decode b_Tape_at 21 = .ok (.iconst (-1), 1) := by decide +kernel
theorem d_Tape_at_22 : decode b_Tape_at 22 = .ok (.goto 13, 3) := by decide +kernel
theorem d_Tape_at_25 : decode b_Tape_at 25 = .ok (.aload_n 0, 1) := by decide +kernel
theorem d_Tape_at_26 : decode b_Tape_at 26 = .ok (.getfield 9, 3) := by decide +kernel
theorem d_Tape_at_29 : decode b_Tape_at 29 = .ok (.iload_n 1, 1) := by decide +kernel
theorem d_Tape_at_30 : decode b_Tape_at 30 = .ok (.baload, 1) := by decide +kernel
theorem d_Tape_at_31 : decode b_Tape_at 31 = .ok (.sipush 255, 3) := by decide +kernel
theorem d_Tape_at_34 : decode b_Tape_at 34 = .ok (.iand, 1) := by decide +kernel
theorem d_Tape_at_35 : decode b_Tape_at 35 = .ok (.ireturn, 1) := by decide +kernel
