theorem d_Writer_neededOf16_0 : decode b_Writer_neededOf16 0 = .ok (.bipush 13, 2) := by decide +kernel
theorem d_Writer_neededOf16_2 : decode b_Writer_neededOf16 2 = .ok (.istore_n 2, 1) := by decide +kernel
theorem d_Writer_neededOf16_3 : decode b_Writer_neededOf16 3 = .ok (.iload_n 2, 1) := by decide +kernel
theorem d_Writer_neededOf16_4 : decode b_Writer_neededOf16 4 = .ok (.ifCond .le 26, 3) := by decide +kernel
theorem d_Writer_neededOf16_7 : decode b_Writer_neededOf16 7 = .ok (.lload_n 0, 1) := by decide +kernel
theorem d_Writer_neededOf16_8 : decode b_Writer_neededOf16 8 = .ok (.iconst 4, 1) := by decide +kernel
theorem d_Writer_neededOf16_9 : decode b_Writer_neededOf16 9 = .ok (.bipush 13, 2) := by decide +kernel
theorem d_Writer_neededOf16_11 : decode b_Writer_neededOf16 11 = .ok (.iload_n 2, 1) := by decide +kernel
theorem d_Writer_neededOf16_12 : decode b_Writer_neededOf16 12 = .ok (.isub, 1) := by decide +kernel
theorem d_Writer_neededOf16_13 : decode b_Writer_neededOf16 13 = .ok (.imul, 1) := by decide +kernel
theorem d_Writer_neededOf16_14 : decode b_Writer_neededOf16 14 = .ok (.lushr, 1) := by decide +kernel
theorem d_Writer_neededOf16_15 : decode b_Writer_neededOf16 15 = .ok (.ldc2_w 169, 3) := by decide +kernel
theorem d_Writer_neededOf16_18 : decode b_Writer_neededOf16 18 = .ok (.land, 1) := by decide +kernel
theorem d_Writer_neededOf16_19 : decode b_Writer_neededOf16 19 = .ok (.lconst 0, 1) := by decide +kernel
theorem d_Writer_neededOf16_20 : decode b_Writer_neededOf16 20 = .ok (.lcmp, 1) := by decide +kernel
theorem d_Writer_neededOf16_21 : decode b_Writer_neededOf16 21 = .ok (.ifCond .ne 9, 3) := by decide +kernel
theorem d_Writer_neededOf16_24 : decode b_Writer_neededOf16 24 = .ok (.iinc 2 (-1), 3) := by decide +kernel
theorem d_Writer_neededOf16_27 : decode b_Writer_neededOf16 27 = .ok (.goto (-24), 3) := by decide +kernel
theorem d_Writer_neededOf16_30 : decode b_Writer_neededOf16 30 = .ok (.iload_n 2, 1) := by decide +kernel
theorem d_Writer_neededOf16_31 : decode b_Writer_neededOf16 31 = .ok (.ireturn, 1) := by decide +kernel
theorem d_Writer_roundedOf16_0 : decode b_Writer_roundedOf16 0 = .ok (.iload_n 2, 1) := by decide +kernel
theorem d_Writer_roundedOf16_1 : decode b_Writer_roundedOf16 1 = .ok (.bipush 13, 2) := by decide +kernel
theorem d_Writer_roundedOf16_3 : decode b_Writer_roundedOf16 3 = .ok (.if_icmp .lt 5, 3) := by decide +kernel
theorem d_Writer_roundedOf16_6 : decode b_Writer_roundedOf16 6 = .ok (.lload_n 0, 1) := by decide +kernel
theorem d_Writer_roundedOf16_7 : decode b_Writer_roundedOf16 7 = .ok (.lreturn, 1) := by decide +kernel
theorem d_Writer_roundedOf16_8 : decode b_Writer_roundedOf16 8 = .ok (.iconst 4, 1) := by decide +kernel
theorem d_Writer_roundedOf16_9 : decode b_Writer_roundedOf16 9 = .ok (.bipush 13, 2) := by decide +kernel
theorem d_Writer_roundedOf16_11 : decode b_Writer_roundedOf16 11 = .ok (.iload_n 2, 1) := by decide +kernel
theorem d_Writer_roundedOf16_12 : decode b_Writer_roundedOf16 12 = .ok (.isub, 1) := by decide +kernel
theorem d_Writer_roundedOf16_13 : decode b_Writer_roundedOf16 13 = .ok (.imul, 1) := by decide +kernel
theorem d_Writer_roundedOf16_14 : decode b_Writer_roundedOf16 14 = .ok (.istore_n 3, 1) := by decide +kernel
theorem d_Writer_roundedOf16_15 : decode b_Writer_roundedOf16 15 = .ok (.lload_n 0, 1) := by decide +kernel
theorem d_Writer_roundedOf16_16 : decode b_Writer_roundedOf16 16 = .ok (.iload_n 3, 1) := by decide +kernel
theorem d_Writer_roundedOf16_17 : decode b_Writer_roundedOf16 17 = .ok (.lushr, 1) := by decide +kernel
theorem d_Writer_roundedOf16_18 : decode b_Writer_roundedOf16 18 = .ok (.lstore 4, 2) := by decide +kernel
theorem d_Writer_roundedOf16_20 : decode b_Writer_roundedOf16 20 = .ok (.lload_n 0, 1) := by decide +kernel
theorem d_Writer_roundedOf16_21 : decode b_Writer_roundedOf16 21 = .ok (.lload 4, 2) := by decide +kernel
theorem d_Writer_roundedOf16_23 : decode b_Writer_roundedOf16 23 = .ok (.iload_n 3, 1) := by decide +kernel
theorem d_Writer_roundedOf16_24 : decode b_Writer_roundedOf16 24 = .ok (.lshl, 1) := by decide +kernel
theorem d_Writer_roundedOf16_25 : decode b_Writer_roundedOf16 25 = .ok (.lsub, 1) := by decide +kernel
theorem d_Writer_roundedOf16_26 : decode b_Writer_roundedOf16 26 = .ok (.lstore 6, 2) := by decide +kernel
theorem d_Writer_roundedOf16_28 : decode b_Writer_roundedOf16 28 = .ok (.lconst 1, 1) := by decide +kernel
theorem d_Writer_roundedOf16_29 : decode b_Writer_roundedOf16 29 = .ok (.iload_n 3, 1) := by decide +kernel
theorem d_Writer_roundedOf16_30 : decode b_Writer_roundedOf16 30 = .ok (.iconst 1, 1) := by decide +kernel
theorem d_Writer_roundedOf16_31 : decode b_Writer_roundedOf16 31 = .ok (.isub, 1) := by decide +kernel
theorem d_Writer_roundedOf16_32 : decode b_Writer_roundedOf16 32 = .ok (.lshl, 1) := by decide +kernel
theorem d_Writer_roundedOf16_33 : decode b_Writer_roundedOf16 33 = .ok (.lstore 8, 2) := by decide +kernel
theorem d_Writer_roundedOf16_35 : decode b_Writer_roundedOf16 35 = .ok (.lload 6, 2) := by decide +kernel
theorem d_Writer_roundedOf16_37 : decode b_Writer_roundedOf16 37 = .ok (.lload 8, 2) := by decide +kernel
theorem d_Writer_roundedOf16_39 : decode b_Writer_roundedOf16 39 = .ok (.lcmp, 1) := by decide +kernel
theorem d_Writer_roundedOf16_40 : decode b_Writer_roundedOf16 40 = .ok (.ifCond .gt 20, 3) := by decide +kernel
theorem d_Writer_roundedOf16_43 : decode b_Writer_roundedOf16 43 = .ok (.lload 6, 2) := by decide +kernel
theorem d_Writer_roundedOf16_45 : decode b_Writer_roundedOf16 45 = .ok (.lload 8, 2) := by decide +kernel
theorem d_Writer_roundedOf16_47 : decode b_Writer_roundedOf16 47 = .ok (.lcmp, 1) := by decide +kernel
theorem d_Writer_roundedOf16_48 : decode b_Writer_roundedOf16 48 = .ok (.ifCond .ne 16, 3) := by decide +kernel
theorem d_Writer_roundedOf16_51 : decode b_Writer_roundedOf16 51 = .ok (.lload 4, 2) := by decide +kernel
theorem d_Writer_roundedOf16_53 : decode b_Writer_roundedOf16 53 = .ok (.lconst 1, 1) := by decide +kernel
theorem d_Writer_roundedOf16_54 : decode b_Writer_roundedOf16 54 = .ok (.land, 1) := by decide +kernel
theorem d_Writer_roundedOf16_55 : decode b_Writer_roundedOf16 55 = .ok (.lconst 1, 1) := by decide +kernel
theorem d_Writer_roundedOf16_56 : decode b_Writer_roundedOf16 56 = .ok (.lcmp, 1) := by decide +kernel
theorem d_Writer_roundedOf16_57 : decode b_Writer_roundedOf16 57 = .ok (.ifCond .ne 7, 3) := by decide +kernel
theorem d_Writer_roundedOf16_60 : decode b_Writer_roundedOf16 60 = .ok (.iconst 1, 1) := by decide +kernel
theorem d_Writer_roundedOf16_61 : decode b_Writer_roundedOf16 61 = .ok (.goto 4, 3) := by decide +kernel
theorem d_Writer_roundedOf16_64 : decode b_Writer_roundedOf16 64 = .ok (.iconst 0, 1) := by decide +kernel
theorem d_Writer_roundedOf16_65 : decode b_Writer_roundedOf16 65 = .ok (.istore 10, 2) := by decide +kernel
theorem d_Writer_roundedOf16_67 : decode b_Writer_roundedOf16 67 = .ok (.iload 10, 2) := by decide +kernel
theorem d_Writer_roundedOf16_69 : decode b_Writer_roundedOf16 69 = .ok (.ifCond .eq 10, 3) := by decide +kernel
theorem d_Writer_roundedOf16_72 : decode b_Writer_roundedOf16 72 = .ok (.lload 4, 2) := by decide +kernel
theorem d_Writer_roundedOf16_74 : decode b_Writer_roundedOf16 74 = .ok (.lconst 1, 1) := by decide +kernel
theorem d_Writer_roundedOf16_75 : decode b_Writer_roundedOf16 75 = .ok (.ladd, 1) := by decide +kernel
theorem d_Writer_roundedOf16_76 : decode b_Writer_roundedOf16 76 = .ok (.goto 5, 3) := by decide +kernel
theorem d_Writer_roundedOf16_79 : decode b_Writer_roundedOf16 79 = .ok (.lload 4, 2) := by decide +kernel
theorem d_Writer_roundedOf16_81 : decode b_Writer_roundedOf16 81 = .ok (.iload_n 3, 1) := by decide +kernel
theorem d_Writer_roundedOf16_82 : decode b_Writer_roundedOf16 82 = .ok (.lshl, 1) := by decide +kernel
theorem d_Writer_roundedOf16_83 : decode b_Writer_roundedOf16 83 = .ok (.lreturn, 1) := by decide +kernel
theorem d_Writer_putPoint_0 : decode b_Writer_putPoint 0 = .ok (.iload_n 1, 1) := by decide +kernel
theorem d_Writer_putPoint_1 : decode b_Writer_putPoint 1 = .ok (.ifCond .gt 12, 3) := by decide +kernel
theorem d_Writer_putPoint_4 : decode b_Writer_putPoint 4 = .ok (.aload_n 0, 1) := by decide +kernel
theorem d_Writer_putPoint_5 : decode b_Writer_putPoint 5 = .ok (.bipush 8, 2) := by decide +kernel
theorem d_Writer_putPoint_7 : decode b_Writer_putPoint 7 = .ok (.invokevirtual 73, 3) := by decide +kernel
theorem d_Writer_putPoint_10 : decode b_Writer_putPoint 10 = .ok (.ifCond .eq 12, 3) := by decide +kernel
theorem d_Writer_putPoint_13 : decode b_Writer_putPoint 13 = .ok (.aload_n 0, 1) := by decide +kernel
theorem d_Writer_putPoint_14 : decode b_Writer_putPoint 14 = .ok (.getfield 30, 3) := by decide +kernel
theorem d_Writer_putPoint_17 : decode b_Writer_putPoint 17 = .ok (.bipush 46, 2) := by decide +kernel
theorem d_Writer_putPoint_19 : decode b_Writer_putPoint 19 = .ok (.invokevirtual 138, 3) := by decide +kernel
theorem d_Writer_putPoint_22 : decode b_Writer_putPoint 22 = .ok (.return_, 1) := by decide +kernel
theorem d_Writer_putPower_0 : decode b_Writer_putPower 0 = .ok (.aload_n 0, 1) := by decide +kernel
theorem d_Writer_putPower_1 : decode b_Writer_putPower 1 = .ok (.getfield 30, 3) := by decide +kernel
theorem d_Writer_putPower_4 : decode b_Writer_putPower 4 = .ok (.iload_n 1, 1) := by decide +kernel
theorem d_Writer_putPower_5 : decode b_Writer_putPower 5 = .ok (.ifCond .ge 8, 3) := by decide +kernel
theorem d_Writer_putPower_8 : decode b_Writer_putPower 8 = .ok (.bipush 45, 2) := by decide +kernel
theorem d_Writer_putPower_10 : decode b_Writer_putPower 10 = .ok (.goto 5, 3) := by decide +kernel
theorem d_Writer_putPower_13 : decode b_Writer_putPower 13 = .ok (.bipush 43, 2) := by decide +kernel
theorem d_Writer_putPower_15 : decode b_Writer_putPower 15 = .ok (.invokevirtual 138, 3) := by decide +kernel
theorem d_Writer_putPower_18 : decode b_Writer_putPower 18 = .ok (.aload_n 0, 1) := by decide +kernel
theorem d_Writer_putPower_19 : decode b_Writer_putPower 19 = .ok (.iload_n 1, 1) := by decide +kernel
theorem d_Writer_putPower_20 : decode b_Writer_putPower 20 = .ok (.i2l, 1) := by decide +kernel
theorem d_Writer_putPower_21 : decode b_Writer_putPower 21 = .ok (.invokevirtual 150, 3) := by decide +kernel
theorem d_Writer_putPower_24 : decode b_Writer_putPower 24 = .ok (.aload_n 0, 1) := by decide +kernel
theorem d_Writer_putPower_25 : decode b_Writer_putPower 25 = .ok (.getfield 30, 3) := by decide +kernel
theorem d_Writer_putPower_28 : decode b_Writer_putPower 28 = .ok (.bipush 48, 2) := by decide +kernel
theorem d_Writer_putPower_30 : decode b_Writer_putPower 30 = .ok (.iload_n 2, 1) := by decide +kernel
theorem d_Writer_putPower_31 : decode b_Writer_putPower 31 = .ok (.aload_n 0, 1) := by decide +kernel
theorem d_Writer_putPower_32 : decode b_Writer_putPower 32 = .ok (.getfield 13, 3) := by decide +kernel
theorem d_Writer_putPower_35 : decode b_Writer_putPower 35 = .ok (.isub, 1) := by decide +kernel
theorem d_Writer_putPower_36 : decode b_Writer_putPower 36 = .ok (.invokevirtual 85, 3) := by decide +kernel
theorem d_Writer_putPower_39 : decode b_Writer_putPower 39 = .ok (.aload_n 0, 1) := by decide +kernel
theorem d_Writer_putPower_40 : decode b_Writer_putPower 40 = .ok (.invokevirtual 89, 3) := by decide +kernel
theorem d_Writer_putPower_43 : decode b_Writer_putPower 43 = .ok (.return_, 1) := by decide +kernel
theorem d_Writer_putWith16_0 : decode b_Writer_putWith16 0 = .ok (.lload_n 1, 1) := by decide +kernel
theorem d_Writer_putWith16_1 : decode b_Writer_putWith16 1 = .ok (.invokestatic 153, 3) := by decide +kernel
theorem d_Writer_putWith16_4 : decode b_Writer_putWith16 4 = .ok (.iconst 1, 1) := by decide +kernel
theorem d_Writer_putWith16_5 : decode b_Writer_putWith16 5 = .ok (.isub, 1) := by decide +kernel
theorem d_Writer_putWith16_6 : decode b_Writer_putWith16 6 = .ok (.iload_n 3, 1) := by decide +kernel
theorem d_Writer_putWith16_7 : decode b_Writer_putWith16 7 = .ok (.iadd, 1) := by decide +kernel
theorem d_Writer_putWith16_8 : decode b_Writer_putWith16 8 = .ok (.istore 4, 2) := by decide +kernel
theorem d_Writer_putWith16_10 : decode b_Writer_putWith16 10 = .ok (.lload_n 1, 1) := by decide +kernel
theorem d_Writer_putWith16_11 : decode b_Writer_putWith16 11 = .ok (.lconst 0, 1) := by decide +kernel
theorem d_Writer_putWith16_12 : decode b_Writer_putWith16 12 = .ok (.lcmp, 1) := by decide +kernel
theorem d_Writer_putWith16_13 : decode b_Writer_putWith16 13 = .ok (.ifCond .ne 7, 3) := by decide +kernel
theorem d_Writer_putWith16_16 : decode b_Writer_putWith16 16 = .ok (.iconst 0, 1) := by decide +kernel
theorem d_Writer_putWith16_17 : decode b_Writer_putWith16 17 = .ok (.goto 11, 3) := by decide +kernel
theorem d_Writer_putWith16_20 : decode b_Writer_putWith16 20 = .ok (.iload 4, 2) := by decide +kernel
theorem d_Writer_putWith16_22 : decode b_Writer_putWith16 22 = .ok (.sipush (-1022), 3) := by decide +kernel
theorem d_Writer_putWith16_25 : decode b_Writer_putWith16 25 = .ok (.invokestatic 67, 3) := by decide +kernel
theorem d_Writer_putWith16_28 : decode b_Writer_putWith16 28 = .ok (.istore 5, 2) := by decide +kernel
theorem d_Writer_putWith16_30 : decode b_Writer_putWith16 30 = .ok (.lload_n 1, 1) := by decide +kernel
theorem d_Writer_putWith16_31 : decode b_Writer_putWith16 31 = .ok (.iload_n 3, 1) := by decide +kernel
theorem d_Writer_putWith16_32 : decode b_Writer_putWith16 32 = .ok (.iload 5, 2) := by decide +kernel
theorem d_Writer_putWith16_34 : decode b_Writer_putWith16 34 = .ok (.isub, 1) := by decide +kernel
theorem d_Writer_putWith16_35 : decode b_Writer_putWith16 35 = .ok (.bipush 52, 2) := by decide +kernel
theorem d_Writer_putWith16_37 : decode b_Writer_putWith16 37 = .ok (.iadd, 1) := by decide +kernel
theorem d_Writer_putWith16_38 : decode b_Writer_putWith16 38 = .ok (.lshl, 1) := by decide +kernel
theorem d_Writer_putWith16_39 : decode b_Writer_putWith16 39 = .ok (.lstore 6, 2) := by decide +kernel
theorem d_Writer_putWith16_41 : decode b_Writer_putWith16 41 = .ok (.aload_n 0, 1) := by decide +kernel
theorem d_Writer_putWith16_42 : decode b_Writer_putWith16 42 = .ok (.getfield 27, 3) := by decide +kernel
theorem d_Writer_putWith16_45 : decode b_Writer_putWith16 45 = .ok (.iconst (-1), 1) := by decide +kernel
theorem d_Writer_putWith16_46 : decode b_Writer_putWith16 46 = .ok (.if_icmp .ne 11, 3) := by decide +kernel
theorem d_Writer_putWith16_49 : decode b_Writer_putWith16 49 = .ok (.lload 6, 2) := by decide +kernel
theorem d_Writer_putWith16_51 : decode b_Writer_putWith16 51 = .ok (.invokestatic 159, 3) := by decide +kernel
theorem d_Writer_putWith16_54 : decode b_Writer_putWith16 54 = .ok (.goto 7, 3) := by decide +kernel
theorem d_Writer_putWith16_57 : decode b_Writer_putWith16 57 = .ok (.aload_n 0, 1) := by decide +kernel
theorem d_Writer_putWith16_58 : decode b_Writer_putWith16 58 = .ok (.getfield 27, 3) := by decide +kernel
theorem d_Writer_putWith16_61 : decode b_Writer_putWith16 61 = .ok (.istore 8, 2) := by decide +kernel
theorem d_Writer_putWith16_63 : decode b_Writer_putWith16 63 = .ok (.lload 6, 2) := by decide +kernel
theorem d_Writer_putWith16_65 : decode b_Writer_putWith16 65 = .ok (.iload 8, 2) := by decide +kernel
theorem d_Writer_putWith16_67 : decode b_Writer_putWith16 67 = .ok (.invokestatic 162, 3) := by decide +kernel
theorem d_Writer_putWith16_70 : decode b_Writer_putWith16 70 = .ok (.lstore 6, 2) := by decide +kernel
theorem d_Writer_putWith16_72 : decode b_Writer_putWith16 72 = .ok (.aload_n 0, 1) := by decide +kernel
theorem d_Writer_putWith16_73 : decode b_Writer_putWith16 73 = .ok (.getfield 30, 3) := by decide +kernel
theorem d_Writer_putWith16_76 : decode b_Writer_putWith16 76 = .ok (.bipush 48, 2) := by decide +kernel
theorem d_Writer_putWith16_78 : decode b_Writer_putWith16 78 = .ok (.lload 6, 2) := by decide +kernel
theorem d_Writer_putWith16_80 : decode b_Writer_putWith16 80 = .ok (.bipush 52, 2) := by decide +kernel
theorem d_Writer_putWith16_82 : decode b_Writer_putWith16 82 = .ok (.lushr, 1) := by decide +kernel
theorem d_Writer_putWith16_83 : decode b_Writer_putWith16 83 = .ok (.l2i, 1) := by decide +kernel
theorem d_Writer_putWith16_84 : decode b_Writer_putWith16 84 = .ok (.iadd, 1) := by decide +kernel
theorem d_Writer_putWith16_85 : decode b_Writer_putWith16 85 = .ok (.invokevirtual 138, 3) := by decide +kernel
theorem d_Writer_putWith16_88 : decode b_Writer_putWith16 88 = .ok (.aload_n 0, 1) := by decide +kernel
theorem d_Writer_putWith16_89 : decode b_Writer_putWith16 89 = .ok (.iload 8, 2) := by decide +kernel
theorem d_Writer_putWith16_91 : decode b_Writer_putWith16 91 = .ok (.invokevirtual 147, 3) := by decide +kernel
theorem d_Writer_putWith16_94 : decode b_Writer_putWith16 94 = .ok (.iconst 1, 1) := by decide +kernel
theorem d_Writer_putWith16_95 : decode b_Writer_putWith16 95 = .ok (.istore 9, 2) := by decide +kernel
theorem d_Writer_putWith16_97 : decode b_Writer_putWith16 97 = .ok (.iload 9, 2) := by decide +kernel
theorem d_Writer_putWith16_99 : decode b_Writer_putWith16 99 = .ok (.iload 8, 2) := by decide +kernel
theorem d_Writer_putWith16_101 : decode b_Writer_putWith16 101 = .ok (.if_icmp .gt 42, 3) := by decide +kernel
theorem d_Writer_putWith16_104 : decode b_Writer_putWith16 104 = .ok (.aload_n 0, 1) := by decide +kernel
theorem d_Writer_putWith16_105 : decode b_Writer_putWith16 105 = .ok (.getfield 30, 3) := by decide +kernel
theorem d_Writer_putWith16_108 : decode b_Writer_putWith16 108 = .ok (.iload 9, 2) := by decide +kernel
theorem d_Writer_putWith16_110 : decode b_Writer_putWith16 110 = .ok (.bipush 13, 2) := by decide +kernel
theorem d_Writer_putWith16_112 : decode b_Writer_putWith16 112 = .ok (.if_icmp .le 8, 3) := by decide +kernel
theorem d_Writer_putWith16_115 : decode b_Writer_putWith16 115 = .ok (.bipush 48, 2) := by decide +kernel
theorem d_Writer_putWith16_117 : decode b_Writer_putWith16 117 = .ok (.goto 17, 3) := by decide +kernel
theorem d_Writer_putWith16_120 : decode b_Writer_putWith16 120 = .ok (.aload_n 0, 1) := by decide +kernel
theorem d_Writer_putWith16_121 : decode b_Writer_putWith16 121 = .ok (.lload 6, 2) := by decide +kernel
theorem d_Writer_putWith16_123 : decode b_Writer_putWith16 123 = .ok (.iconst 4, 1) := by decide +kernel
theorem d_Writer_putWith16_124 : decode b_Writer_putWith16 124 = .ok (.bipush 13, 2) := by decide +kernel
theorem d_Writer_putWith16_126 : decode b_Writer_putWith16 126 = .ok (.iload 9, 2) := by decide +kernel
theorem d_Writer_putWith16_128 : decode b_Writer_putWith16 128 = .ok (.isub, 1) := by decide +kernel
theorem d_Writer_putWith16_129 : decode b_Writer_putWith16 129 = .ok (.imul, 1) := by decide +kernel
theorem d_Writer_putWith16_130 : decode b_Writer_putWith16 130 = .ok (.lushr, 1) := by decide +kernel
theorem d_Writer_putWith16_131 : decode b_Writer_putWith16 131 = .ok (.invokevirtual 166, 3) := by decide +kernel
theorem d_Writer_putWith16_134 : decode b_Writer_putWith16 134 = .ok (.invokevirtual 138, 3) := by decide +kernel
theorem d_Writer_putWith16_137 : decode b_Writer_putWith16 137 = .ok (.iinc 9 1, 3) := by decide +kernel
theorem d_Writer_putWith16_140 : decode b_Writer_putWith16 140 = .ok (.goto (-43), 3) := by decide +kernel
theorem d_Writer_putWith16_143 : decode b_Writer_putWith16 143 = .ok (.aload_n 0, 1) := by decide +kernel
theorem d_Writer_putWith16_144 : decode b_Writer_putWith16 144 = .ok (.getfield 30, 3) := by decide +kernel
theorem d_Writer_putWith16_147 : decode b_Writer_putWith16 147 = .ok (.aload_n 0, 1) := by decide +kernel
theorem d_Writer_putWith16_148 : decode b_Writer_putWith16 148 = .ok (.invokevirtual 47, 3) := by decide +kernel
theorem d_Writer_putWith16_151 : decode b_Writer_putWith16 151 = .ok (.ifCond .eq 8, 3) := by decide +kernel
theorem d_Writer_putWith16_154 : decode b_Writer_putWith16 154 = .ok (.bipush 80, 2) := by decide +kernel
theorem d_Writer_putWith16_156 : decode b_Writer_putWith16 156 = .ok (.goto 5, 3) := by decide +kernel
theorem d_Writer_putWith16_159 : decode b_Writer_putWith16 159 = .ok (.bipush 112, 2) := by decide +kernel
theorem d_Writer_putWith16_161 : decode b_Writer_putWith16 161 = .ok (.invokevirtual 138, 3) := by decide +kernel
theorem d_Writer_putWith16_164 : decode b_Writer_putWith16 164 = .ok (.aload_n 0, 1) := by decide +kernel
theorem d_Writer_putWith16_165 : decode b_Writer_putWith16 165 = .ok (.iload 5, 2) := by decide +kernel
theorem d_Writer_putWith16_167 : decode b_Writer_putWith16 167 = .ok (.iconst 1, 1) := by decide +kernel
theorem d_Writer_putWith16_168 : decode b_Writer_putWith16 168 = .ok (.invokevirtual 144, 3) := by decide +kernel
theorem d_Writer_putWith16_171 : decode b_Writer_putWith16 171 = .ok (.return_, 1) := by decide +kernel
theorem d_Decimal_digit_0 : decode b_Decimal_digit 0 = .ok (.iload_n 1, 1) := by decide +kernel
theorem d_Decimal_digit_1 : decode b_Decimal_digit 1 = .ok (.invokestatic 31, 3) := by decide +kernel
theorem d_Decimal_digit_4 : decode b_Decimal_digit 4 = .ok (.istore_n 2, 1) := by decide +kernel
theorem d_Decimal_digit_5 : decode b_Decimal_digit 5 = .ok (.iload_n 2, 1) := by decide +kernel
theorem d_Decimal_digit_6 : decode b_Decimal_digit 6 = .ok (.ifCond .gt 7, 3) := by decide +kernel
theorem d_Decimal_digit_9 : decode b_Decimal_digit 9 = .ok (.iconst 0, 1) := by decide +kernel
theorem d_Decimal_digit_10 : decode b_Decimal_digit 10 = .ok (.goto 16, 3) := by decide +kernel
theorem d_Decimal_digit_13 : decode b_Decimal_digit 13 = .ok (.aload_n 0, 1) := by decide +kernel
theorem d_Decimal_digit_14 : decode b_Decimal_digit 14 = .ok (.iload_n 1, 1) := by decide +kernel
theorem d_Decimal_digit_15 : decode b_Decimal_digit 15 = .ok (.invokestatic 34, 3) := by decide +kernel
theorem d_Decimal_digit_18 : decode b_Decimal_digit 18 = .ok (.invokevirtual 23, 3) := by decide +kernel
theorem d_Decimal_digit_21 : decode b_Decimal_digit 21 = .ok (.iload_n 2, 1) := by decide +kernel
theorem d_Decimal_digit_22 : decode b_Decimal_digit 22 = .ok (.idiv, 1) := by decide +kernel
theorem d_Decimal_digit_23 : decode b_Decimal_digit 23 = .ok (.bipush 10, 2) := by decide +kernel
theorem d_Decimal_digit_25 : decode b_Decimal_digit 25 = .ok (.irem, 1) := by decide +kernel
theorem d_Decimal_digit_26 : decode b_Decimal_digit 26 = .ok (.ireturn, 1) := by decide +kernel
theorem d_Decimal_roundsUpAt_0 : decode b_Decimal_roundsUpAt 0 = .ok (.aload_n 0, 1) := by decide +kernel
theorem d_Decimal_roundsUpAt_1 : decode b_Decimal_roundsUpAt 1 = .ok (.iload_n 1, 1) := by decide +kernel
theorem d_Decimal_roundsUpAt_2 : decode b_Decimal_roundsUpAt 2 = .ok (.iconst 1, 1) := by decide +kernel
theorem d_Decimal_roundsUpAt_3 : decode b_Decimal_roundsUpAt 3 = .ok (.isub, 1) := by decide +kernel
theorem d_Decimal_roundsUpAt_4 : decode b_Decimal_roundsUpAt 4 = .ok (.invokevirtual 47, 3) := by decide +kernel
theorem d_Decimal_roundsUpAt_7 : decode b_Decimal_roundsUpAt 7 = .ok (.istore_n 2, 1) := by decide +kernel
theorem d_Decimal_roundsUpAt_8 : decode b_Decimal_roundsUpAt 8 = .ok (.iload_n 2, 1) := by decide +kernel
theorem d_Decimal_roundsUpAt_9 : decode b_Decimal_roundsUpAt 9 = .ok (.iconst 5, 1) := by decide +kernel
theorem d_Decimal_roundsUpAt_10 : decode b_Decimal_roundsUpAt 10 = .ok (.if_icmp .eq 14, 3) := by decide +kernel
theorem d_Decimal_roundsUpAt_13 : decode b_Decimal_roundsUpAt 13 = .ok (.iload_n 2, 1) := by decide +kernel
theorem d_Decimal_roundsUpAt_14 : decode b_Decimal_roundsUpAt 14 = .ok (.iconst 5, 1) := by decide +kernel
theorem d_Decimal_roundsUpAt_15 : decode b_Decimal_roundsUpAt 15 = .ok (.if_icmp .le 7, 3) := by decide +kernel
theorem d_Decimal_roundsUpAt_18 : decode b_Decimal_roundsUpAt 18 = .ok (.iconst 1, 1) := by decide +kernel
theorem d_Decimal_roundsUpAt_19 : decode b_Decimal_roundsUpAt 19 = .ok (.goto 4, 3) := by decide +kernel
theorem d_Decimal_roundsUpAt_22 : decode b_Decimal_roundsUpAt 22 = .ok (.iconst 0, 1) := by decide +kernel
theorem d_Decimal_roundsUpAt_23 : decode b_Decimal_roundsUpAt 23 = .ok (.ireturn, 1) := by decide +kernel
theorem d_Decimal_roundsUpAt_24 : decode b_Decimal_roundsUpAt 24 = .ok (.aload_n 0, 1) := by decide +kernel
theorem d_Decimal_roundsUpAt_25 : decode b_Decimal_roundsUpAt 25 = .ok (.iload_n 1, 1) := by decide +kernel
theorem d_Decimal_roundsUpAt_26 : decode b_Decimal_roundsUpAt 26 = .ok (.iconst 1, 1) := by decide +kernel
theorem d_Decimal_roundsUpAt_27 : decode b_Decimal_roundsUpAt 27 = .ok (.isub, 1) := by decide +kernel
theorem d_Decimal_roundsUpAt_28 : decode b_Decimal_roundsUpAt 28 = .ok (.invokevirtual 50, 3) := by decide +kernel
theorem d_Decimal_roundsUpAt_31 : decode b_Decimal_roundsUpAt 31 = .ok (.ifCond .ne 14, 3) := by decide +kernel
theorem d_Decimal_roundsUpAt_34 : decode b_Decimal_roundsUpAt 34 = .ok (.aload_n 0, 1) := by decide +kernel
theorem d_Decimal_roundsUpAt_35 : decode b_Decimal_roundsUpAt 35 = .ok (.iload_n 1, 1) := by decide +kernel
theorem d_Decimal_roundsUpAt_36 : decode b_Decimal_roundsUpAt 36 = .ok (.invokevirtual 47, 3) := by decide +kernel
theorem d_Decimal_roundsUpAt_39 : decode b_Decimal_roundsUpAt 39 = .ok (.iconst 2, 1) := by decide +kernel
theorem d_Decimal_roundsUpAt_40 : decode b_Decimal_roundsUpAt 40 = .ok (.irem, 1) := by decide +kernel
theorem d_Decimal_roundsUpAt_41 : decode b_Decimal_roundsUpAt 41 = .ok (.iconst 1, 1) := by decide +kernel
theorem d_Decimal_roundsUpAt_42 : decode b_Decimal_roundsUpAt 42 = .ok (.if_icmp .ne 7, 3) := by decide +kernel
theorem d_Decimal_roundsUpAt_45 : decode b_Decimal_roundsUpAt 45 = .ok (.iconst 1, 1) := by decide +kernel
theorem d_Decimal_roundsUpAt_46 : decode b_Decimal_roundsUpAt 46 = .ok (.goto 4, 3) := by decide +kernel
theorem d_Decimal_roundsUpAt_49 : decode b_Decimal_roundsUpAt 49 = .ok (.iconst 0, 1) := by decide +kernel
theorem d_Decimal_roundsUpAt_50 : decode b_Decimal_roundsUpAt 50 = .ok (.ireturn, 1) := by decide +kernel
theorem d_Decimal_roundAt_0 : decode b_Decimal_roundAt 0 = .ok (.aload_n 0, 1) := by decide +kernel
theorem d_Decimal_roundAt_1 : decode b_Decimal_roundAt 1 = .ok (.iload_n 1, 1) := by decide +kernel
theorem d_Decimal_roundAt_2 : decode b_Decimal_roundAt 2 = .ok (.invokevirtual 54, 3) := by decide +kernel
theorem d_Decimal_roundAt_5 : decode b_Decimal_roundAt 5 = .ok (.istore_n 2, 1) := by decide +kernel
theorem d_Decimal_roundAt_6 : decode b_Decimal_roundAt 6 = .ok (.aload_n 0, 1) := by decide +kernel
theorem d_Decimal_roundAt_7 : decode b_Decimal_roundAt 7 = .ok (.iload_n 1, 1) := by decide +kernel
theorem d_Decimal_roundAt_8 : decode b_Decimal_roundAt 8 = .ok (.invokevirtual 57, 3) := by decide +kernel
theorem d_Decimal_roundAt_11 : decode b_Decimal_roundAt 11 = .ok (.iload_n 2, 1) := by decide +kernel
theorem d_Decimal_roundAt_12 : decode b_Decimal_roundAt 12 = .ok (.ifCond .eq 9, 3) := by decide +kernel
theorem d_Decimal_roundAt_15 : decode b_Decimal_roundAt 15 = .ok (.aload_n 0, 1) := by decide +kernel
theorem d_Decimal_roundAt_16 : decode b_Decimal_roundAt 16 = .ok (.iload_n 1, 1) := by decide +kernel
theorem d_Decimal_roundAt_17 : decode b_Decimal_roundAt 17 = .ok (.iconst 1, 1) := by decide +kernel
theorem d_Decimal_roundAt_18 : decode b_Decimal_roundAt 18 = .ok (.invokevirtual 61, 3) := by decide +kernel
theorem d_Decimal_roundAt_21 : decode b_Decimal_roundAt 21 = .ok (.return_, 1) := by decide +kernel
theorem d_Decimal_topPlace_0 : decode b_Decimal_topPlace 0 = .ok (.bipush 9, 2) := by decide +kernel
theorem d_Decimal_topPlace_2 : decode b_Decimal_topPlace 2 = .ok (.bipush 35, 2) := by decide +kernel
theorem d_Decimal_topPlace_4 : decode b_Decimal_topPlace 4 = .ok (.aload_n 0, 1) := by decide +kernel
theorem d_Decimal_topPlace_5 : decode b_Decimal_topPlace 5 = .ok (.getfield 13, 3) := by decide +kernel
theorem d_Decimal_topPlace_8 : decode b_Decimal_topPlace 8 = .ok (.isub, 1) := by decide +kernel
theorem d_Decimal_topPlace_9 : decode b_Decimal_topPlace 9 = .ok (.imul, 1) := by decide +kernel
theorem d_Decimal_topPlace_10 : decode b_Decimal_topPlace 10 = .ok (.istore_n 1, 1) := by decide +kernel
theorem d_Decimal_topPlace_11 : decode b_Decimal_topPlace 11 = .ok (.aload_n 0, 1) := by decide +kernel
theorem d_Decimal_topPlace_12 : decode b_Decimal_topPlace 12 = .ok (.aload_n 0, 1) := by decide +kernel
theorem d_Decimal_topPlace_13 : decode b_Decimal_topPlace 13 = .ok (.getfield 13, 3) := by decide +kernel
theorem d_Decimal_topPlace_16 : decode b_Decimal_topPlace 16 = .ok (.invokevirtual 23, 3) := by decide +kernel
theorem d_Decimal_topPlace_19 : decode b_Decimal_topPlace 19 = .ok (.istore_n 2, 1) := by decide +kernel
theorem d_Decimal_topPlace_20 : decode b_Decimal_topPlace 20 = .ok (.iload_n 2, 1) := by decide +kernel
theorem d_Decimal_topPlace_21 : decode b_Decimal_topPlace 21 = .ok (.ifCond .ne 5, 3) := by decide +kernel
theorem d_Decimal_topPlace_24 : decode b_Decimal_topPlace 24 = .ok (.iconst 0, 1) := by decide +kernel
theorem d_Decimal_topPlace_25 : decode b_Decimal_topPlace 25 = .ok (.ireturn, 1) := by decide +kernel
theorem d_Decimal_topPlace_26 : decode b_Decimal_topPlace 26 = .ok (.iconst 1, 1) := by decide +kernel
theorem d_Decimal_topPlace_27 : decode b_Decimal_topPlace 27 = .ok (.istore_n 3, 1) := by decide +kernel
theorem d_Decimal_topPlace_28 : decode b_Decimal_topPlace 28 = .ok (.iload_n 3, 1) := by decide +kernel
theorem d_Decimal_topPlace_29 : decode b_Decimal_topPlace 29 = .ok (.getstatic 20, 3) := by decide +kernel
theorem d_Decimal_topPlace_32 : decode b_Decimal_topPlace 32 = .ok (.arraylength, 1) := by decide +kernel
theorem d_Decimal_topPlace_33 : decode b_Decimal_topPlace 33 = .ok (.if_icmp .ge 21, 3) := by decide +kernel
theorem d_Decimal_topPlace_36 : decode b_Decimal_topPlace 36 = .ok (.getstatic 20, 3) := by decide +kernel
theorem d_Decimal_topPlace_39 : decode b_Decimal_topPlace 39 = .ok (.iload_n 3, 1) := by decide +kernel
theorem d_Decimal_topPlace_40 : decode b_Decimal_topPlace 40 = .ok (.iaload, 1) := by decide +kernel
theorem d_Decimal_topPlace_41 : decode b_Decimal_topPlace 41 = .ok (.iload_n 2, 1) := by decide +kernel
theorem d_Decimal_topPlace_42 : decode b_Decimal_topPlace 42 = .ok (.if_icmp .gt 12, 3) := by decide +kernel
theorem d_Decimal_topPlace_45 : decode b_Decimal_topPlace 45 = .ok (.iinc 1 1, 3) := by decide +kernel
theorem d_Decimal_topPlace_48 : decode b_Decimal_topPlace 48 = .ok (.iinc 3 1, 3) := by decide +kernel
theorem d_Decimal_topPlace_51 : decode b_Decimal_topPlace 51 = .ok (.goto (-23), 3) := by decide +kernel
theorem d_Decimal_topPlace_54 : decode b_Decimal_topPlace 54 = .ok (.iload_n 1, 1) := by decide +kernel
theorem d_Decimal_topPlace_55 : decode b_Decimal_topPlace 55 = .ok (.ireturn, 1) := by decide +kernel
theorem d_Writer_putBehind_0 : decode b_Writer_putBehind 0 = .ok (.aload_n 0, 1) := by decide +kernel
theorem d_Writer_putBehind_1 : decode b_Writer_putBehind 1 = .ok (.iload_n 2, 1) := by decide +kernel
theorem d_Writer_putBehind_2 : decode b_Writer_putBehind 2 = .ok (.invokevirtual 147, 3) := by decide +kernel
theorem d_Writer_putBehind_5 : decode b_Writer_putBehind 5 = .ok (.iconst 0, 1) := by decide +kernel
theorem d_Writer_putBehind_6 : decode b_Writer_putBehind 6 = .ok (.istore_n 3, 1) := by decide +kernel
theorem d_Writer_putBehind_7 : decode b_Writer_putBehind 7 = .ok (.iload_n 3, 1) := by decide +kernel
theorem d_Writer_putBehind_8 : decode b_Writer_putBehind 8 = .ok (.iload_n 2, 1) := by decide +kernel
theorem d_Writer_putBehind_9 : decode b_Writer_putBehind 9 = .ok (.if_icmp .ge 29, 3) := by decide +kernel
theorem d_Writer_putBehind_12 : decode b_Writer_putBehind 12 = .ok (.aload_n 0, 1) := by decide +kernel
theorem d_Writer_putBehind_13 : decode b_Writer_putBehind 13 = .ok (.getfield 30, 3) := by decide +kernel
theorem d_Writer_putBehind_16 : decode b_Writer_putBehind 16 = .ok (.bipush 48, 2) := by decide +kernel
theorem d_Writer_putBehind_18 : decode b_Writer_putBehind 18 = .ok (.aload_n 0, 1) := by decide +kernel
theorem d_Writer_putBehind_19 : decode b_Writer_putBehind 19 = .ok (.getfield 34, 3) := by decide +kernel
theorem d_Writer_putBehind_22 : decode b_Writer_putBehind 22 = .ok (.iload_n 1, 1) := by decide +kernel
theorem d_Writer_putBehind_23 : decode b_Writer_putBehind 23 = .ok (.iload_n 3, 1) := by decide +kernel
theorem d_Writer_putBehind_24 : decode b_Writer_putBehind 24 = .ok (.isub, 1) := by decide +kernel
theorem d_Writer_putBehind_25 : decode b_Writer_putBehind 25 = .ok (.invokevirtual 135, 3) := by decide +kernel
theorem d_Writer_putBehind_28 : decode b_Writer_putBehind 28 = .ok (.iadd, 1) := by decide +kernel
theorem d_Writer_putBehind_29 : decode b_Writer_putBehind 29 = .ok (.invokevirtual 138, 3) := by decide +kernel
theorem d_Writer_putBehind_32 : decode b_Writer_putBehind 32 = .ok (.iinc 3 1, 3) := by decide +kernel
theorem d_Writer_putBehind_35 : decode b_Writer_putBehind 35 = .ok (.goto (-28), 3) := by decide +kernel
theorem d_Writer_putBehind_38 : decode b_Writer_putBehind 38 = .ok (.return_, 1) := by decide +kernel
theorem d_Writer_putPointForm_0 : decode b_Writer_putPointForm 0 = .ok (.iconst 0, 1) := by decide +kernel
theorem d_Writer_putPointForm_1 : decode b_Writer_putPointForm 1 = .ok (.aload_n 0, 1) := by decide +kernel
theorem d_Writer_putPointForm_2 : decode b_Writer_putPointForm 2 = .ok (.getfield 34, 3) := by decide +kernel
theorem d_Writer_putPointForm_5 : decode b_Writer_putPointForm 5 = .ok (.invokevirtual 123, 3) := by decide +kernel
theorem d_Writer_putPointForm_8 : decode b_Writer_putPointForm 8 = .ok (.invokestatic 67, 3) := by decide +kernel
theorem d_Writer_putPointForm_11 : decode b_Writer_putPointForm 11 = .ok (.istore_n 2, 1) := by decide +kernel
theorem d_Writer_putPointForm_12 : decode b_Writer_putPointForm 12 = .ok (.iload_n 2, 1) := by decide +kernel
theorem d_Writer_putPointForm_13 : decode b_Writer_putPointForm 13 = .ok (.ifCond .lt 27, 3) := by decide +kernel
theorem d_Writer_putPointForm_16 : decode b_Writer_putPointForm 16 = .ok (.aload_n 0, 1) := by decide +kernel
theorem d_Writer_putPointForm_17 : decode b_Writer_putPointForm 17 = .ok (.getfield 30, 3) := by decide +kernel
theorem d_Writer_putPointForm_20 : decode b_Writer_putPointForm 20 = .ok (.bipush 48, 2) := by decide +kernel
theorem d_Writer_putPointForm_22 : decode b_Writer_putPointForm 22 = .ok (.aload_n 0, 1) := by decide +kernel
theorem d_Writer_putPointForm_23 : decode b_Writer_putPointForm 23 = .ok (.getfield 34, 3) := by decide +kernel
theorem d_Writer_putPointForm_26 : decode b_Writer_putPointForm 26 = .ok (.iload_n 2, 1) := by decide +kernel
theorem d_Writer_putPointForm_27 : decode b_Writer_putPointForm 27 = .ok (.invokevirtual 135, 3) := by decide +kernel
theorem d_Writer_putPointForm_30 : decode b_Writer_putPointForm 30 = .ok (.iadd, 1) := by decide +kernel
theorem d_Writer_putPointForm_31 : decode b_Writer_putPointForm 31 = .ok (.invokevirtual 138, 3) := by decide +kernel
theorem d_Writer_putPointForm_34 : decode b_Writer_putPointForm 34 = .ok (.iinc 2 (-1), 3) := by decide +kernel
theorem d_Writer_putPointForm_37 : decode b_Writer_putPointForm 37 = .ok (.goto (-25), 3) := by decide +kernel
theorem d_Writer_putPointForm_40 : decode b_Writer_putPointForm 40 = .ok (.aload_n 0, 1) := by decide +kernel
theorem d_Writer_putPointForm_41 : decode b_Writer_putPointForm 41 = .ok (.iconst (-1), 1) := by decide +kernel
theorem d_Writer_putPointForm_42 : decode b_Writer_putPointForm 42 = .ok (.iload_n 1, 1) := by decide +kernel
theorem d_Writer_putPointForm_43 : decode b_Writer_putPointForm 43 = .ok (.invokevirtual 141, 3) := by decide +kernel
theorem d_Writer_putPointForm_46 : decode b_Writer_putPointForm 46 = .ok (.return_, 1) := by decide +kernel
