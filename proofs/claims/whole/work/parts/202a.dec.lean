theorem d_M_wrong_0 : decode b_M_wrong 0 = .ok (.aload_n 0, 1) := by decide +kernel
theorem d_M_wrong_1 : decode b_M_wrong 1 = .ok (.iconst 0, 1) := by decide +kernel
theorem d_M_wrong_2 : decode b_M_wrong 2 = .ok (.putfield 121, 3) := by decide +kernel
theorem d_M_wrong_5 : decode b_M_wrong 5 = .ok (.aload_n 0, 1) := by decide +kernel
theorem d_M_wrong_6 : decode b_M_wrong 6 = .ok (.iconst 0, 1) := by decide +kernel
theorem d_M_wrong_7 : decode b_M_wrong 7 = .ok (.putfield 111, 3) := by decide +kernel
theorem d_M_wrong_10 : decode b_M_wrong 10 = .ok (.aload_n 0, 1) := by decide +kernel
theorem d_M_wrong_11 : decode b_M_wrong 11 = .ok (.iconst 0, 1) := by decide +kernel
theorem d_M_wrong_12 : decode b_M_wrong 12 = .ok (.putfield 114, 3) := by decide +kernel
theorem d_M_wrong_15 : decode b_M_wrong 15 = .ok (.aload_n 0, 1) := by decide +kernel
theorem d_M_wrong_16 : decode b_M_wrong 16 = .ok (.iconst 0, 1) := by decide +kernel
theorem d_M_wrong_17 : decode b_M_wrong 17 = .ok (.putfield 117, 3) := by decide +kernel
theorem d_M_wrong_20 : decode b_M_wrong 20 = .ok (.aload_n 0, 1) := by decide +kernel
theorem d_M_wrong_21 : decode b_M_wrong 21 = .ok (.iconst 0, 1) := by decide +kernel
theorem d_M_wrong_22 : decode b_M_wrong 22 = .ok (.putfield 108, 3) := by decide +kernel
theorem d_M_wrong_25 : decode b_M_wrong 25 = .ok (.aload_n 0, 1) := by decide +kernel
theorem d_M_wrong_26 : decode b_M_wrong 26 = .ok (.iconst 0, 1) := by decide +kernel
theorem d_M_wrong_27 : decode b_M_wrong 27 = .ok (.putfield 98, 3) := by decide +kernel
theorem d_M_wrong_30 : decode b_M_wrong 30 = .ok (.aload_n 0, 1) := by decide +kernel
theorem d_M_wrong_31 : decode b_M_wrong 31 = .ok (.iconst 0, 1) := by decide +kernel
theorem d_M_wrong_32 : decode b_M_wrong 32 = .ok (.putfield 102, 3) := by decide +kernel
theorem d_M_wrong_35 : decode b_M_wrong 35 = .ok (.aload_n 0, 1) := by decide +kernel
theorem d_M_wrong_36 : decode b_M_wrong 36 = .ok (.iconst 1, 1) := by decide +kernel
theorem d_M_wrong_37 : decode b_M_wrong 37 = .ok (.putfield 105, 3) := by decide +kernel
theorem d_M_wrong_40 : decode b_M_wrong 40 = .ok (.iconst 0, 1) := by decide +kernel
theorem d_M_wrong_41 : decode b_M_wrong 41 = .ok (.istore_n 1, 1) := by decide +kernel
theorem d_M_wrong_42 : decode b_M_wrong 42 = .ok (.iload_n 1, 1) := by decide +kernel
theorem d_M_wrong_43 : decode b_M_wrong 43 = .ok (.aload_n 0, 1) := by decide +kernel
theorem d_M_wrong_44 : decode b_M_wrong 44 = .ok (.getfield 42, 3) := by decide +kernel
theorem d_M_wrong_47 : decode b_M_wrong 47 = .ok (.if_icmp .ge 53, 3) := by decide +kernel
theorem d_M_wrong_50 : decode b_M_wrong 50 = .ok (.aload_n 0, 1) := by decide +kernel
theorem d_M_wrong_51 : decode b_M_wrong 51 = .ok (.getfield 121, 3) := by decide +kernel
theorem d_M_wrong_54 : decode b_M_wrong 54 = .ok (.aload_n 0, 1) := by decide +kernel
theorem d_M_wrong_55 : decode b_M_wrong 55 = .ok (.getfield 7, 3) := by decide +kernel
theorem d_M_wrong_58 : decode b_M_wrong 58 = .ok (.iload_n 1, 1) := by decide +kernel
theorem d_M_wrong_59 : decode b_M_wrong 59 = .ok (.baload, 1) := by decide +kernel
theorem d_M_wrong_60 : decode b_M_wrong 60 = .ok (.sipush 255, 3) := by decide +kernel
theorem d_M_wrong_63 : decode b_M_wrong 63 = .ok (.iand, 1) := by decide +kernel
theorem d_M_wrong_64 : decode b_M_wrong 64 = .ok (.invokestatic 124, 3) := by decide +kernel
theorem d_M_wrong_67 : decode b_M_wrong 67 = .ok (.istore_n 2, 1) := by decide +kernel
theorem d_M_wrong_68 : decode b_M_wrong 68 = .ok (.iload_n 2, 1) := by decide +kernel
theorem d_M_wrong_69 : decode b_M_wrong 69 = .ok (.ifCond .ge 5, 3) := by decide +kernel
theorem d_M_wrong_72 : decode b_M_wrong 72 = .ok (.iload_n 1, 1) := by decide +kernel
theorem d_M_wrong_73 : decode b_M_wrong 73 = .ok (.ireturn, 1) := by decide +kernel
theorem d_M_wrong_74 : decode b_M_wrong 74 = .ok (.aload_n 0, 1) := by decide +kernel
theorem d_M_wrong_75 : decode b_M_wrong 75 = .ok (.iload_n 2, 1) := by decide +kernel
theorem d_M_wrong_76 : decode b_M_wrong 76 = .ok (.putfield 121, 3) := by decide +kernel
theorem d_M_wrong_79 : decode b_M_wrong 79 = .ok (.aload_n 0, 1) := by decide +kernel
theorem d_M_wrong_80 : decode b_M_wrong 80 = .ok (.iload_n 2, 1) := by decide +kernel
theorem d_M_wrong_81 : decode b_M_wrong 81 = .ok (.aload_n 0, 1) := by decide +kernel
theorem d_M_wrong_82 : decode b_M_wrong 82 = .ok (.getfield 7, 3) := by decide +kernel
theorem d_M_wrong_85 : decode b_M_wrong 85 = .ok (.iload_n 1, 1) := by decide +kernel
theorem d_M_wrong_86 : decode b_M_wrong 86 = .ok (.baload, 1) := by decide +kernel
theorem d_M_wrong_87 : decode b_M_wrong 87 = .ok (.sipush 255, 3) := by decide +kernel
theorem d_M_wrong_90 : decode b_M_wrong 90 = .ok (.iand, 1) := by decide +kernel
theorem d_M_wrong_91 : decode b_M_wrong 91 = .ok (.invokevirtual 128, 3) := by decide +kernel
theorem d_M_wrong_94 : decode b_M_wrong 94 = .ok (.iinc 1 1, 3) := by decide +kernel
theorem d_M_wrong_97 : decode b_M_wrong 97 = .ok (.goto (-55), 3) := by decide +kernel
theorem d_M_wrong_100 : decode b_M_wrong 100 = .ok (.aload_n 0, 1) := by decide +kernel
theorem d_M_wrong_101 : decode b_M_wrong 101 = .ok (.getfield 121, 3) := by decide +kernel
theorem d_M_wrong_104 : decode b_M_wrong 104 = .ok (.invokestatic 132, 3) := by decide +kernel
theorem d_M_wrong_107 : decode b_M_wrong 107 = .ok (.ifCond .eq 7, 3) := by decide +kernel
theorem d_M_wrong_110 : decode b_M_wrong 110 = .ok (.iconst (-1), 1) := by decide +kernel
theorem d_M_wrong_111 : decode b_M_wrong 111 = .ok (.goto 7, 3) := by decide +kernel
theorem d_M_wrong_114 : decode b_M_wrong 114 = .ok (.aload_n 0, 1) := by decide +kernel
theorem d_M_wrong_115 : decode b_M_wrong 115 = .ok (.getfield 42, 3) := by decide +kernel
theorem d_M_wrong_118 : decode b_M_wrong 118 = .ok (.ireturn, 1) := by decide +kernel
theorem d_M_readWrapping_0 : decode b_M_readWrapping 0 = .ok (.lconst 0, 1) := by decide +kernel
theorem d_M_readWrapping_1 : decode b_M_readWrapping 1 = .ok (.lstore_n 1, 1) := by decide +kernel
theorem d_M_readWrapping_2 : decode b_M_readWrapping 2 = .ok (.iconst 0, 1) := by decide +kernel
theorem d_M_readWrapping_3 : decode b_M_readWrapping 3 = .ok (.istore_n 3, 1) := by decide +kernel
theorem d_M_readWrapping_4 : decode b_M_readWrapping 4 = .ok (.iload_n 3, 1) := by decide +kernel
theorem d_M_readWrapping_5 : decode b_M_readWrapping 5 = .ok (.aload_n 0, 1) := by decide +kernel
theorem d_M_readWrapping_6 : decode b_M_readWrapping 6 = .ok (.getfield 111, 3) := by decide +kernel
theorem d_M_readWrapping_9 : decode b_M_readWrapping 9 = .ok (.if_icmp .ge 21, 3) := by decide +kernel
theorem d_M_readWrapping_12 : decode b_M_readWrapping 12 = .ok (.lload_n 1, 1) := by decide +kernel
theorem d_M_readWrapping_13 : decode b_M_readWrapping 13 = .ok (.iconst 4, 1) := by decide +kernel
theorem d_M_readWrapping_14 : decode b_M_readWrapping 14 = .ok (.lshl, 1) := by decide +kernel
theorem d_M_readWrapping_15 : decode b_M_readWrapping 15 = .ok (.aload_n 0, 1) := by decide +kernel
theorem d_M_readWrapping_16 : decode b_M_readWrapping 16 = .ok (.getfield 24, 3) := by decide +kernel
theorem d_M_readWrapping_19 : decode b_M_readWrapping 19 = .ok (.iload_n 3, 1) := by decide +kernel
theorem d_M_readWrapping_20 : decode b_M_readWrapping 20 = .ok (.baload, 1) := by decide +kernel
theorem d_M_readWrapping_21 : decode b_M_readWrapping 21 = .ok (.i2l, 1) := by decide +kernel
theorem d_M_readWrapping_22 : decode b_M_readWrapping 22 = .ok (.lor, 1) := by decide +kernel
theorem d_M_readWrapping_23 : decode b_M_readWrapping 23 = .ok (.lstore_n 1, 1) := by decide +kernel
theorem d_M_readWrapping_24 : decode b_M_readWrapping 24 = .ok (.iinc 3 1, 3) := by decide +kernel
theorem d_M_readWrapping_27 : decode b_M_readWrapping 27 = .ok (.goto (-23), 3) := by decide +kernel
theorem d_M_readWrapping_30 : decode b_M_readWrapping 30 = .ok (.aload_n 0, 1) := by decide +kernel
theorem d_M_readWrapping_31 : decode b_M_readWrapping 31 = .ok (.iconst 1, 1) := by decide +kernel
theorem d_M_readWrapping_32 : decode b_M_readWrapping 32 = .ok (.aload_n 0, 1) := by decide +kernel
theorem d_M_readWrapping_33 : decode b_M_readWrapping 33 = .ok (.getfield 98, 3) := by decide +kernel
theorem d_M_readWrapping_36 : decode b_M_readWrapping 36 = .ok (.ifCond .eq 8, 3) := by decide +kernel
theorem d_M_readWrapping_39 : decode b_M_readWrapping 39 = .ok (.lload_n 1, 1) := by decide +kernel
theorem d_M_readWrapping_40 : decode b_M_readWrapping 40 = .ok (.lneg, 1) := by decide +kernel
theorem d_M_readWrapping_41 : decode b_M_readWrapping 41 = .ok (.goto 4, 3) := by decide +kernel
theorem d_M_readWrapping_44 : decode b_M_readWrapping 44 = .ok (.lload_n 1, 1) := by decide +kernel
theorem d_M_readWrapping_45 : decode b_M_readWrapping 45 = .ok (.iconst 0, 1) := by decide +kernel
theorem d_M_readWrapping_46 : decode b_M_readWrapping 46 = .ok (.invokevirtual 52, 3) := by decide +kernel
theorem d_M_readWrapping_49 : decode b_M_readWrapping 49 = .ok (.ireturn, 1) := by decide +kernel
theorem d_M_fitsWhole_0 : decode b_M_fitsWhole 0 = .ok (.lconst 0, 1) := by decide +kernel
theorem d_M_fitsWhole_1 : decode b_M_fitsWhole 1 = .ok (.lstore_n 1, 1) := by decide +kernel
theorem d_M_fitsWhole_2 : decode b_M_fitsWhole 2 = .ok (.iconst 0, 1) := by decide +kernel
theorem d_M_fitsWhole_3 : decode b_M_fitsWhole 3 = .ok (.istore_n 3, 1) := by decide +kernel
theorem d_M_fitsWhole_4 : decode b_M_fitsWhole 4 = .ok (.iload_n 3, 1) := by decide +kernel
theorem d_M_fitsWhole_5 : decode b_M_fitsWhole 5 = .ok (.aload_n 0, 1) := by decide +kernel
theorem d_M_fitsWhole_6 : decode b_M_fitsWhole 6 = .ok (.getfield 111, 3) := by decide +kernel
theorem d_M_fitsWhole_9 : decode b_M_fitsWhole 9 = .ok (.if_icmp .ge 52, 3) := by decide +kernel
theorem d_M_fitsWhole_12 : decode b_M_fitsWhole 12 = .ok (.lload_n 1, 1) := by decide +kernel
theorem d_M_fitsWhole_13 : decode b_M_fitsWhole 13 = .ok (.ldc2_w 152, 3) := by decide +kernel
theorem d_M_fitsWhole_16 : decode b_M_fitsWhole 16 = .ok (.lcmp, 1) := by decide +kernel
theorem d_M_fitsWhole_17 : decode b_M_fitsWhole 17 = .ok (.ifCond .gt 22, 3) := by decide +kernel
theorem d_M_fitsWhole_20 : decode b_M_fitsWhole 20 = .ok (.lload_n 1, 1) := by decide +kernel
theorem d_M_fitsWhole_21 : decode b_M_fitsWhole 21 = .ok (.ldc2_w 152, 3) := by decide +kernel
theorem d_M_fitsWhole_24 : decode b_M_fitsWhole 24 = .ok (.lcmp, 1) := by decide +kernel
theorem d_M_fitsWhole_25 : decode b_M_fitsWhole 25 = .ok (.ifCond .ne 16, 3) := by decide +kernel
theorem d_M_fitsWhole_28 : decode b_M_fitsWhole 28 = .ok (.aload_n 0, 1) := by decide +kernel
theorem d_M_fitsWhole_29 : decode b_M_fitsWhole 29 = .ok (.getfield 24, 3) := by decide +kernel
theorem d_M_fitsWhole_32 : decode b_M_fitsWhole 32 = .ok (.iload_n 3, 1) := by decide +kernel
theorem d_M_fitsWhole_33 : decode b_M_fitsWhole 33 = .ok (.baload, 1) := by decide +kernel
theorem d_M_fitsWhole_34 : decode b_M_fitsWhole 34 = .ok (.bipush 7, 2) := by decide +kernel
theorem d_M_fitsWhole_36 : decode b_M_fitsWhole 36 = .ok (.if_icmp .le 5, 3) := by decide +kernel
theorem d_M_fitsWhole_39 : decode b_M_fitsWhole 39 = .ok (.iconst 0, 1) := by decide +kernel
theorem d_M_fitsWhole_40 : decode b_M_fitsWhole 40 = .ok (.ireturn, 1) := by decide +kernel
theorem d_M_fitsWhole_41 : decode b_M_fitsWhole 41 = .ok (.ldc2_w 154, 3) := by decide +kernel
theorem d_M_fitsWhole_44 : decode b_M_fitsWhole 44 = .ok (.lload_n 1, 1) := by decide +kernel
theorem d_M_fitsWhole_45 : decode b_M_fitsWhole 45 = .ok (.lmul, 1) := by decide +kernel
theorem d_M_fitsWhole_46 : decode b_M_fitsWhole 46 = .ok (.aload_n 0, 1) := by decide +kernel
theorem d_M_fitsWhole_47 : decode b_M_fitsWhole 47 = .ok (.getfield 24, 3) := by decide +kernel
theorem d_M_fitsWhole_50 : decode b_M_fitsWhole 50 = .ok (.iload_n 3, 1) := by decide +kernel
theorem d_M_fitsWhole_51 : decode b_M_fitsWhole 51 = .ok (.baload, 1) := by decide +kernel
theorem d_M_fitsWhole_52 : decode b_M_fitsWhole 52 = .ok (.i2l, 1) := by decide +kernel
theorem d_M_fitsWhole_53 : decode b_M_fitsWhole 53 = .ok (.ladd, 1) := by decide +kernel
theorem d_M_fitsWhole_54 : decode b_M_fitsWhole 54 = .ok (.lstore_n 1, 1) := by decide +kernel
theorem d_M_fitsWhole_55 : decode b_M_fitsWhole 55 = .ok (.iinc 3 1, 3) := by decide +kernel
theorem d_M_fitsWhole_58 : decode b_M_fitsWhole 58 = .ok (.goto (-54), 3) := by decide +kernel
theorem d_M_fitsWhole_61 : decode b_M_fitsWhole 61 = .ok (.aload_n 0, 1) := by decide +kernel
theorem d_M_fitsWhole_62 : decode b_M_fitsWhole 62 = .ok (.iconst 1, 1) := by decide +kernel
theorem d_M_fitsWhole_63 : decode b_M_fitsWhole 63 = .ok (.aload_n 0, 1) := by decide +kernel
theorem d_M_fitsWhole_64 : decode b_M_fitsWhole 64 = .ok (.getfield 98, 3) := by decide +kernel
theorem d_M_fitsWhole_67 : decode b_M_fitsWhole 67 = .ok (.ifCond .eq 8, 3) := by decide +kernel
theorem d_M_fitsWhole_70 : decode b_M_fitsWhole 70 = .ok (.lload_n 1, 1) := by decide +kernel
theorem d_M_fitsWhole_71 : decode b_M_fitsWhole 71 = .ok (.lneg, 1) := by decide +kernel
theorem d_M_fitsWhole_72 : decode b_M_fitsWhole 72 = .ok (.goto 4, 3) := by decide +kernel
theorem d_M_fitsWhole_75 : decode b_M_fitsWhole 75 = .ok (.lload_n 1, 1) := by decide +kernel
theorem d_M_fitsWhole_76 : decode b_M_fitsWhole 76 = .ok (.iconst 0, 1) := by decide +kernel
theorem d_M_fitsWhole_77 : decode b_M_fitsWhole 77 = .ok (.invokevirtual 52, 3) := by decide +kernel
theorem d_M_fitsWhole_80 : decode b_M_fitsWhole 80 = .ok (.pop, 1) := by decide +kernel
theorem d_M_fitsWhole_81 : decode b_M_fitsWhole 81 = .ok (.iconst 1, 1) := by decide +kernel
theorem d_M_fitsWhole_82 : decode b_M_fitsWhole 82 = .ok (.ireturn, 1) := by decide +kernel
theorem d_M_readSixteen_0 : decode b_M_readSixteen 0 = .ok (.lconst 0, 1) := by decide +kernel
theorem d_M_readSixteen_1 : decode b_M_readSixteen 1 = .ok (.lstore_n 2, 1) := by decide +kernel
theorem d_M_readSixteen_2 : decode b_M_readSixteen 2 = .ok (.iload_n 1, 1) := by decide +kernel
theorem d_M_readSixteen_3 : decode b_M_readSixteen 3 = .ok (.istore 4, 2) := by decide +kernel
theorem d_M_readSixteen_5 : decode b_M_readSixteen 5 = .ok (.iconst 0, 1) := by decide +kernel
theorem d_M_readSixteen_6 : decode b_M_readSixteen 6 = .ok (.istore 5, 2) := by decide +kernel
theorem d_M_readSixteen_8 : decode b_M_readSixteen 8 = .ok (.iload 5, 2) := by decide +kernel
theorem d_M_readSixteen_10 : decode b_M_readSixteen 10 = .ok (.aload_n 0, 1) := by decide +kernel
theorem d_M_readSixteen_11 : decode b_M_readSixteen 11 = .ok (.getfield 111, 3) := by decide +kernel
theorem d_M_readSixteen_14 : decode b_M_readSixteen 14 = .ok (.if_icmp .ge 56, 3) := by decide +kernel
theorem d_M_readSixteen_17 : decode b_M_readSixteen 17 = .ok (.lload_n 2, 1) := by decide +kernel
theorem d_M_readSixteen_18 : decode b_M_readSixteen 18 = .ok (.ldc2_w 156, 3) := by decide +kernel
theorem d_M_readSixteen_21 : decode b_M_readSixteen 21 = .ok (.lcmp, 1) := by decide +kernel
theorem d_M_readSixteen_22 : decode b_M_readSixteen 22 = .ok (.ifCond .ge 21, 3) := by decide +kernel
theorem d_M_readSixteen_25 : decode b_M_readSixteen 25 = .ok (.ldc2_w 158, 3) := by decide +kernel
theorem d_M_readSixteen_28 : decode b_M_readSixteen 28 = .ok (.lload_n 2, 1) := by decide +kernel
theorem d_M_readSixteen_29 : decode b_M_readSixteen 29 = .ok (.lmul, 1) := by decide +kernel
theorem d_M_readSixteen_30 : decode b_M_readSixteen 30 = .ok (.aload_n 0, 1) := by decide +kernel
theorem d_M_readSixteen_31 : decode b_M_readSixteen 31 = .ok (.getfield 24, 3) := by decide +kernel
theorem d_M_readSixteen_34 : decode b_M_readSixteen 34 = .ok (.iload 5, 2) := by decide +kernel
theorem d_M_readSixteen_36 : decode b_M_readSixteen 36 = .ok (.baload, 1) := by decide +kernel
theorem d_M_readSixteen_37 : decode b_M_readSixteen 37 = .ok (.i2l, 1) := by decide +kernel
theorem d_M_readSixteen_38 : decode b_M_readSixteen 38 = .ok (.ladd, 1) := by decide +kernel
theorem d_M_readSixteen_39 : decode b_M_readSixteen 39 = .ok (.lstore_n 2, 1) := by decide +kernel
theorem d_M_readSixteen_40 : decode b_M_readSixteen 40 = .ok (.goto 24, 3) := by decide +kernel
theorem d_M_readSixteen_43 : decode b_M_readSixteen 43 = .ok (.aload_n 0, 1) := by decide +kernel
theorem d_M_readSixteen_44 : decode b_M_readSixteen 44 = .ok (.getfield 24, 3) := by decide +kernel
theorem d_M_readSixteen_47 : decode b_M_readSixteen 47 = .ok (.iload 5, 2) := by decide +kernel
theorem d_M_readSixteen_49 : decode b_M_readSixteen 49 = .ok (.baload, 1) := by decide +kernel
theorem d_M_readSixteen_50 : decode b_M_readSixteen 50 = .ok (.ifCond .eq 9, 3) := by decide +kernel
theorem d_M_readSixteen_53 : decode b_M_readSixteen 53 = .ok (.lload_n 2, 1) := by decide +kernel
theorem d_M_readSixteen_54 : decode b_M_readSixteen 54 = .ok (.lconst 1, 1) := by decide +kernel
theorem d_M_readSixteen_55 : decode b_M_readSixteen 55 = .ok (.lor, 1) := by decide +kernel
theorem d_M_readSixteen_56 : decode b_M_readSixteen 56 = .ok (.goto 4, 3) := by decide +kernel
theorem d_M_readSixteen_59 : decode b_M_readSixteen 59 = .ok (.lload_n 2, 1) := by decide +kernel
theorem d_M_readSixteen_60 : decode b_M_readSixteen 60 = .ok (.lstore_n 2, 1) := by decide +kernel
theorem d_M_readSixteen_61 : decode b_M_readSixteen 61 = .ok (.iinc 4 4, 3) := by decide +kernel
theorem d_M_readSixteen_64 : decode b_M_readSixteen 64 = .ok (.iinc 5 1, 3) := by decide +kernel
theorem d_M_readSixteen_67 : decode b_M_readSixteen 67 = .ok (.goto (-59), 3) := by decide +kernel
theorem d_M_readSixteen_70 : decode b_M_readSixteen 70 = .ok (.iload 4, 2) := by decide +kernel
theorem d_M_readSixteen_72 : decode b_M_readSixteen 72 = .ok (.sipush 3000, 3) := by decide +kernel
theorem d_M_readSixteen_75 : decode b_M_readSixteen 75 = .ok (.if_icmp .le 9, 3) := by decide +kernel
theorem d_M_readSixteen_78 : decode b_M_readSixteen 78 = .ok (.sipush 3000, 3) := by decide +kernel
theorem d_M_readSixteen_81 : decode b_M_readSixteen 81 = .ok (.goto 19, 3) := by decide +kernel
theorem d_M_readSixteen_84 : decode b_M_readSixteen 84 = .ok (.iload 4, 2) := by decide +kernel
theorem d_M_readSixteen_86 : decode b_M_readSixteen 86 = .ok (.sipush (-9000), 3) := by decide +kernel
theorem d_M_readSixteen_89 : decode b_M_readSixteen 89 = .ok (.if_icmp .ge 9, 3) := by decide +kernel
theorem d_M_readSixteen_92 : decode b_M_readSixteen 92 = .ok (.sipush (-9000), 3) := by decide +kernel
theorem d_M_readSixteen_95 : decode b_M_readSixteen 95 = .ok (.goto 5, 3) := by decide +kernel
theorem d_M_readSixteen_98 : decode b_M_readSixteen 98 = .ok (.iload 4, 2) := by decide +kernel
theorem d_M_readSixteen_100 : decode b_M_readSixteen 100 = .ok (.istore 5, 2) := by decide +kernel
theorem d_M_readSixteen_102 : decode b_M_readSixteen 102 = .ok (.aload_n 0, 1) := by decide +kernel
theorem d_M_readSixteen_103 : decode b_M_readSixteen 103 = .ok (.lload_n 2, 1) := by decide +kernel
theorem d_M_readSixteen_104 : decode b_M_readSixteen 104 = .ok (.iload 5, 2) := by decide +kernel
theorem d_M_readSixteen_106 : decode b_M_readSixteen 106 = .ok (.aload_n 0, 1) := by decide +kernel
theorem d_M_readSixteen_107 : decode b_M_readSixteen 107 = .ok (.getfield 98, 3) := by decide +kernel
theorem d_M_readSixteen_110 : decode b_M_readSixteen 110 = .ok (.invokevirtual 68, 3) := by decide +kernel
theorem d_M_readSixteen_113 : decode b_M_readSixteen 113 = .ok (.ireturn, 1) := by decide +kernel
theorem d_M_multiply_0 : decode b_M_multiply 0 = .ok (.iload_n 3, 1) := by decide +kernel
theorem d_M_multiply_1 : decode b_M_multiply 1 = .ok (.i2l, 1) := by decide +kernel
theorem d_M_multiply_2 : decode b_M_multiply 2 = .ok (.lstore 4, 2) := by decide +kernel
theorem d_M_multiply_4 : decode b_M_multiply 4 = .ok (.iconst 0, 1) := by decide +kernel
theorem d_M_multiply_5 : decode b_M_multiply 5 = .ok (.istore 6, 2) := by decide +kernel
theorem d_M_multiply_7 : decode b_M_multiply 7 = .ok (.iload 6, 2) := by decide +kernel
theorem d_M_multiply_9 : decode b_M_multiply 9 = .ok (.iload_n 1, 1) := by decide +kernel
theorem d_M_multiply_10 : decode b_M_multiply 10 = .ok (.if_icmp .ge 40, 3) := by decide +kernel
theorem d_M_multiply_13 : decode b_M_multiply 13 = .ok (.lload 4, 2) := by decide +kernel
theorem d_M_multiply_15 : decode b_M_multiply 15 = .ok (.aload_n 0, 1) := by decide +kernel
theorem d_M_multiply_16 : decode b_M_multiply 16 = .ok (.iload 6, 2) := by decide +kernel
theorem d_M_multiply_18 : decode b_M_multiply 18 = .ok (.iaload, 1) := by decide +kernel
theorem d_M_multiply_19 : decode b_M_multiply 19 = .ok (.i2l, 1) := by decide +kernel
theorem d_M_multiply_20 : decode b_M_multiply 20 = .ok (.iload_n 2, 1) := by decide +kernel
theorem d_M_multiply_21 : decode b_M_multiply 21 = .ok (.i2l, 1) := by decide +kernel
theorem d_M_multiply_22 : decode b_M_multiply 22 = .ok (.lmul, 1) := by decide +kernel
theorem d_M_multiply_23 : decode b_M_multiply 23 = .ok (.ladd, 1) := by decide +kernel
theorem d_M_multiply_24 : decode b_M_multiply 24 = .ok (.lstore 4, 2) := by decide +kernel
theorem d_M_multiply_26 : decode b_M_multiply 26 = .ok (.aload_n 0, 1) := by decide +kernel
theorem d_M_multiply_27 : decode b_M_multiply 27 = .ok (.iload 6, 2) := by decide +kernel
theorem d_M_multiply_29 : decode b_M_multiply 29 = .ok (.lload 4, 2) := by decide +kernel
theorem d_M_multiply_31 : decode b_M_multiply 31 = .ok (.ldc2_w 160, 3) := by decide +kernel
theorem d_M_multiply_34 : decode b_M_multiply 34 = .ok (.land, 1) := by decide +kernel
theorem d_M_multiply_35 : decode b_M_multiply 35 = .ok (.l2i, 1) := by decide +kernel
theorem d_M_multiply_36 : decode b_M_multiply 36 = .ok (.iastore, 1) := by decide +kernel
theorem d_M_multiply_37 : decode b_M_multiply 37 = .ok (.lload 4, 2) := by decide +kernel
theorem d_M_multiply_39 : decode b_M_multiply 39 = .ok (.bipush 30, 2) := by decide +kernel
theorem d_M_multiply_41 : decode b_M_multiply 41 = .ok (.lshr, 1) := by decide +kernel
theorem d_M_multiply_42 : decode b_M_multiply 42 = .ok (.lstore 4, 2) := by decide +kernel
theorem d_M_multiply_44 : decode b_M_multiply 44 = .ok (.iinc 6 1, 3) := by decide +kernel
theorem d_M_multiply_47 : decode b_M_multiply 47 = .ok (.goto (-40), 3) := by decide +kernel
theorem d_M_multiply_50 : decode b_M_multiply 50 = .ok (.lload 4, 2) := by decide +kernel
theorem d_M_multiply_52 : decode b_M_multiply 52 = .ok (.lconst 0, 1) := by decide +kernel
theorem d_M_multiply_53 : decode b_M_multiply 53 = .ok (.lcmp, 1) := by decide +kernel
theorem d_M_multiply_54 : decode b_M_multiply 54 = .ok (.ifCond .ne 5, 3) := by decide +kernel
theorem d_M_multiply_57 : decode b_M_multiply 57 = .ok (.iload_n 1, 1) := by decide +kernel
theorem d_M_multiply_58 : decode b_M_multiply 58 = .ok (.ireturn, 1) := by decide +kernel
theorem d_M_multiply_59 : decode b_M_multiply 59 = .ok (.aload_n 0, 1) := by decide +kernel
theorem d_M_multiply_60 : decode b_M_multiply 60 = .ok (.iload_n 1, 1) := by decide +kernel
theorem d_M_multiply_61 : decode b_M_multiply 61 = .ok (.lload 4, 2) := by decide +kernel
theorem d_M_multiply_63 : decode b_M_multiply 63 = .ok (.l2i, 1) := by decide +kernel
theorem d_M_multiply_64 : decode b_M_multiply 64 = .ok (.iastore, 1) := by decide +kernel
theorem d_M_multiply_65 : decode b_M_multiply 65 = .ok (.iload_n 1, 1) := by decide +kernel
theorem d_M_multiply_66 : decode b_M_multiply 66 = .ok (.iconst 1, 1) := by decide +kernel
theorem d_M_multiply_67 : decode b_M_multiply 67 = .ok (.iadd, 1) := by decide +kernel
theorem d_M_multiply_68 : decode b_M_multiply 68 = .ok (.ireturn, 1) := by decide +kernel
theorem d_M_bits_0 : decode b_M_bits 0 = .ok (.iload_n 1, 1) := by decide +kernel
theorem d_M_bits_1 : decode b_M_bits 1 = .ok (.ifCond .ne 5, 3) := by decide +kernel
theorem d_M_bits_4 : decode b_M_bits 4 = .ok (.iconst 0, 1) := by decide +kernel
theorem d_M_bits_5 : decode b_M_bits 5 = .ok (.ireturn, 1) := by decide +kernel
theorem d_M_bits_6 : decode b_M_bits 6 = .ok (.iconst 0, 1) := by decide +kernel
theorem d_M_bits_7 : decode b_M_bits 7 = .ok (.istore_n 2, 1) := by decide +kernel
theorem d_M_bits_8 : decode b_M_bits 8 = .ok (.aload_n 0, 1) := by decide +kernel
theorem d_M_bits_9 : decode b_M_bits 9 = .ok (.iload_n 1, 1) := by decide +kernel
theorem d_M_bits_10 : decode b_M_bits 10 = .ok (.iconst 1, 1) := by decide +kernel
theorem d_M_bits_11 : decode b_M_bits 11 = .ok (.isub, 1) := by decide +kernel
theorem d_M_bits_12 : decode b_M_bits 12 = .ok (.iaload, 1) := by decide +kernel
theorem d_M_bits_13 : decode b_M_bits 13 = .ok (.iload_n 2, 1) := by decide +kernel
theorem d_M_bits_14 : decode b_M_bits 14 = .ok (.ishr, 1) := by decide +kernel
theorem d_M_bits_15 : decode b_M_bits 15 = .ok (.ifCond .eq 9, 3) := by decide +kernel
theorem d_M_bits_18 : decode b_M_bits 18 = .ok (.iinc 2 1, 3) := by decide +kernel
theorem d_M_bits_21 : decode b_M_bits 21 = .ok (.goto (-13), 3) := by decide +kernel
theorem d_M_bits_24 : decode b_M_bits 24 = .ok (.bipush 30, 2) := by decide +kernel
theorem d_M_bits_26 : decode b_M_bits 26 = .ok (.iload_n 1, 1) := by decide +kernel
theorem d_M_bits_27 : decode b_M_bits 27 = .ok (.iconst 1, 1) := by decide +kernel
theorem d_M_bits_28 : decode b_M_bits 28 = .ok (.isub, 1) := by decide +kernel
theorem d_M_bits_29 : decode b_M_bits 29 = .ok (.imul, 1) := by decide +kernel
theorem d_M_bits_30 : decode b_M_bits 30 = .ok (.iload_n 2, 1) := by decide +kernel
theorem d_M_bits_31 : decode b_M_bits 31 = .ok (.iadd, 1) := by decide +kernel
theorem d_M_bits_32 : decode b_M_bits 32 = .ok (.ireturn, 1) := by decide +kernel
theorem d_M_up_0 : decode b_M_up 0 = .ok (.iload_n 1, 1) := by decide +kernel
theorem d_M_up_1 : decode b_M_up 1 = .ok (.istore_n 3, 1) := by decide +kernel
theorem d_M_up_2 : decode b_M_up 2 = .ok (.iconst 0, 1) := by decide +kernel
theorem d_M_up_3 : decode b_M_up 3 = .ok (.istore 4, 2) := by decide +kernel
theorem d_M_up_5 : decode b_M_up 5 = .ok (.iload 4, 2) := by decide +kernel
theorem d_M_up_7 : decode b_M_up 7 = .ok (.iload_n 2, 1) := by decide +kernel
theorem d_M_up_8 : decode b_M_up 8 = .ok (.bipush 30, 2) := by decide +kernel
theorem d_M_up_10 : decode b_M_up 10 = .ok (.idiv, 1) := by decide +kernel
theorem d_M_up_11 : decode b_M_up 11 = .ok (.if_icmp .ge 40, 3) := by decide +kernel
theorem d_M_up_14 : decode b_M_up 14 = .ok (.iload_n 3, 1) := by decide +kernel
theorem d_M_up_15 : decode b_M_up 15 = .ok (.istore 5, 2) := by decide +kernel
theorem d_M_up_17 : decode b_M_up 17 = .ok (.iload 5, 2) := by decide +kernel
theorem d_M_up_19 : decode b_M_up 19 = .ok (.ifCond .le 19, 3) := by decide +kernel
theorem d_M_up_22 : decode b_M_up 22 = .ok (.aload_n 0, 1) := by decide +kernel
theorem d_M_up_23 : decode b_M_up 23 = .ok (.iload 5, 2) := by decide +kernel
theorem d_M_up_25 : decode b_M_up 25 = .ok (.aload_n 0, 1) := by decide +kernel
theorem d_M_up_26 : decode b_M_up 26 = .ok (.iload 5, 2) := by decide +kernel
theorem d_M_up_28 : decode b_M_up 28 = .ok (.iconst 1, 1) := by decide +kernel
theorem d_M_up_29 : decode b_M_up 29 = .ok (.isub, 1) := by decide +kernel
theorem d_M_up_30 : decode b_M_up 30 = .ok (.iaload, 1) := by decide +kernel
theorem d_M_up_31 : decode b_M_up 31 = .ok (.iastore, 1) := by decide +kernel
theorem d_M_up_32 : decode b_M_up 32 = .ok (.iinc 5 (-1), 3) := by decide +kernel
theorem d_M_up_35 : decode b_M_up 35 = .ok (.goto (-18), 3) := by decide +kernel
theorem d_M_up_38 : decode b_M_up 38 = .ok (.aload_n 0, 1) := by decide +kernel
theorem d_M_up_39 : decode b_M_up 39 = .ok (.iconst 0, 1) := by decide +kernel
theorem d_M_up_40 : decode b_M_up 40 = .ok (.iconst 0, 1) := by decide +kernel
theorem d_M_up_41 : decode b_M_up 41 = .ok (.iastore, 1) := by decide +kernel
theorem d_M_up_42 : decode b_M_up 42 = .ok (.iinc 3 1, 3) := by decide +kernel
theorem d_M_up_45 : decode b_M_up 45 = .ok (.iinc 4 1, 3) := by decide +kernel
theorem d_M_up_48 : decode b_M_up 48 = .ok (.goto (-43), 3) := by decide +kernel
theorem d_M_up_51 : decode b_M_up 51 = .ok (.aload_n 0, 1) := by decide +kernel
theorem d_M_up_52 : decode b_M_up 52 = .ok (.iload_n 3, 1) := by decide +kernel
theorem d_M_up_53 : decode b_M_up 53 = .ok (.iconst 1, 1) := by decide +kernel
theorem d_M_up_54 : decode b_M_up 54 = .ok (.iload_n 2, 1) := by decide +kernel
theorem d_M_up_55 : decode b_M_up 55 = .ok (.bipush 30, 2) := by decide +kernel
theorem d_M_up_57 : decode b_M_up 57 = .ok (.irem, 1) := by decide +kernel
theorem d_M_up_58 : decode b_M_up 58 = .ok (.ishl, 1) := by decide +kernel
theorem d_M_up_59 : decode b_M_up 59 = .ok (.iconst 0, 1) := by decide +kernel
theorem d_M_up_60 : decode b_M_up 60 = .ok (.invokestatic 162, 3) := by decide +kernel
theorem d_M_up_63 : decode b_M_up 63 = .ok (.ireturn, 1) := by decide +kernel
theorem d_M_half_0 : decode b_M_half 0 = .ok (.iconst 0, 1) := by decide +kernel
theorem d_M_half_1 : decode b_M_half 1 = .ok (.istore_n 2, 1) := by decide +kernel
theorem d_M_half_2 : decode b_M_half 2 = .ok (.iload_n 2, 1) := by decide +kernel
theorem d_M_half_3 : decode b_M_half 3 = .ok (.iload_n 1, 1) := by decide +kernel
theorem d_M_half_4 : decode b_M_half 4 = .ok (.if_icmp .ge 41, 3) := by decide +kernel
theorem d_M_half_7 : decode b_M_half 7 = .ok (.iload_n 2, 1) := by decide +kernel
theorem d_M_half_8 : decode b_M_half 8 = .ok (.iconst 1, 1) := by decide +kernel
theorem d_M_half_9 : decode b_M_half 9 = .ok (.iadd, 1) := by decide +kernel
theorem d_M_half_10 : decode b_M_half 10 = .ok (.iload_n 1, 1) := by decide +kernel
theorem d_M_half_11 : decode b_M_half 11 = .ok (.if_icmp .ge 13, 3) := by decide +kernel
theorem d_M_half_14 : decode b_M_half 14 = .ok (.aload_n 0, 1) := by decide +kernel
theorem d_M_half_15 : decode b_M_half 15 = .ok (.iload_n 2, 1) := by decide +kernel
theorem d_M_half_16 : decode b_M_half 16 = .ok (.iconst 1, 1) := by decide +kernel
theorem d_M_half_17 : decode b_M_half 17 = .ok (.iadd, 1) := by decide +kernel
theorem d_M_half_18 : decode b_M_half 18 = .ok (.iaload, 1) := by decide +kernel
theorem d_M_half_19 : decode b_M_half 19 = .ok (.iconst 1, 1) := by decide +kernel
theorem d_M_half_20 : decode b_M_half 20 = .ok (.iand, 1) := by decide +kernel
theorem d_M_half_21 : decode b_M_half 21 = .ok (.goto 4, 3) := by decide +kernel
theorem d_M_half_24 : decode b_M_half 24 = .ok (.iconst 0, 1) := by decide +kernel
theorem d_M_half_25 : decode b_M_half 25 = .ok (.istore_n 3, 1) := by decide +kernel
theorem d_M_half_26 : decode b_M_half 26 = .ok (.aload_n 0, 1) := by decide +kernel
theorem d_M_half_27 : decode b_M_half 27 = .ok (.iload_n 2, 1) := by decide +kernel
theorem d_M_half_28 : decode b_M_half 28 = .ok (.aload_n 0, 1) := by decide +kernel
theorem d_M_half_29 : decode b_M_half 29 = .ok (.iload_n 2, 1) := by decide +kernel
theorem d_M_half_30 : decode b_M_half 30 = .ok (.iaload, 1) := by decide +kernel
theorem d_M_half_31 : decode b_M_half 31 = .ok (.iconst 1, 1) := by decide +kernel
theorem d_M_half_32 : decode b_M_half 32 = .ok (.ishr, 1) := by decide +kernel
theorem d_M_half_33 : decode b_M_half 33 = .ok (.iload_n 3, 1) := by decide +kernel
theorem d_M_half_34 : decode b_M_half 34 = .ok (.bipush 29, 2) := by decide +kernel
theorem d_M_half_36 : decode b_M_half 36 = .ok (.ishl, 1) := by decide +kernel
theorem d_M_half_37 : decode b_M_half 37 = .ok (.ior, 1) := by decide +kernel
theorem d_M_half_38 : decode b_M_half 38 = .ok (.iastore, 1) := by decide +kernel
theorem d_M_half_39 : decode b_M_half 39 = .ok (.iinc 2 1, 3) := by decide +kernel
theorem d_M_half_42 : decode b_M_half 42 = .ok (.goto (-40), 3) := by decide +kernel
theorem d_M_half_45 : decode b_M_half 45 = .ok (.return_, 1) := by decide +kernel
