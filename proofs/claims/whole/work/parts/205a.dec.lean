theorem d_M_put_0 : decode b_M_put 0 = .ok (.aload_n 0, 1) := by decide +kernel
theorem d_M_put_1 : decode b_M_put 1 = .ok (.getfield 39, 3) := by decide +kernel
theorem d_M_put_4 : decode b_M_put 4 = .ok (.aload_n 0, 1) := by decide +kernel
theorem d_M_put_5 : decode b_M_put 5 = .ok (.getfield 222, 3) := by decide +kernel
theorem d_M_put_8 : decode b_M_put 8 = .ok (.iload_n 1, 1) := by decide +kernel
theorem d_M_put_9 : decode b_M_put 9 = .ok (.i2b, 1) := by decide +kernel
theorem d_M_put_10 : decode b_M_put 10 = .ok (.bastore, 1) := by decide +kernel
theorem d_M_put_11 : decode b_M_put 11 = .ok (.aload_n 0, 1) := by decide +kernel
theorem d_M_put_12 : decode b_M_put 12 = .ok (.dup, 1) := by decide +kernel
theorem d_M_put_13 : decode b_M_put 13 = .ok (.getfield 222, 3) := by decide +kernel
theorem d_M_put_16 : decode b_M_put 16 = .ok (.iconst 1, 1) := by decide +kernel
theorem d_M_put_17 : decode b_M_put 17 = .ok (.iadd, 1) := by decide +kernel
theorem d_M_put_18 : decode b_M_put 18 = .ok (.putfield 222, 3) := by decide +kernel
theorem d_M_put_21 : decode b_M_put 21 = .ok (.return_, 1) := by decide +kernel
theorem d_M_roundAt_0 : decode b_M_roundAt 0 = .ok (.iload_n 1, 1) := by decide +kernel
theorem d_M_roundAt_1 : decode b_M_roundAt 1 = .ok (.ifCond .lt 20, 3) := by decide +kernel
theorem d_M_roundAt_4 : decode b_M_roundAt 4 = .ok (.iload_n 1, 1) := by decide +kernel
theorem d_M_roundAt_5 : decode b_M_roundAt 5 = .ok (.aload_n 0, 1) := by decide +kernel
theorem d_M_roundAt_6 : decode b_M_roundAt 6 = .ok (.getfield 216, 3) := by decide +kernel
theorem d_M_roundAt_9 : decode b_M_roundAt 9 = .ok (.if_icmp .ge 12, 3) := by decide +kernel
theorem d_M_roundAt_12 : decode b_M_roundAt 12 = .ok (.aload_n 0, 1) := by decide +kernel
theorem d_M_roundAt_13 : decode b_M_roundAt 13 = .ok (.getfield 33, 3) := by decide +kernel
theorem d_M_roundAt_16 : decode b_M_roundAt 16 = .ok (.iload_n 1, 1) := by decide +kernel
theorem d_M_roundAt_17 : decode b_M_roundAt 17 = .ok (.baload, 1) := by decide +kernel
theorem d_M_roundAt_18 : decode b_M_roundAt 18 = .ok (.goto 4, 3) := by decide +kernel
theorem d_M_roundAt_21 : decode b_M_roundAt 21 = .ok (.iconst 0, 1) := by decide +kernel
theorem d_M_roundAt_22 : decode b_M_roundAt 22 = .ok (.ireturn, 1) := by decide +kernel
theorem d_M_putPoint_0 : decode b_M_putPoint 0 = .ok (.iload_n 1, 1) := by decide +kernel
theorem d_M_putPoint_1 : decode b_M_putPoint 1 = .ok (.ifCond .gt 7, 3) := by decide +kernel
theorem d_M_putPoint_4 : decode b_M_putPoint 4 = .ok (.iload_n 2, 1) := by decide +kernel
theorem d_M_putPoint_5 : decode b_M_putPoint 5 = .ok (.ifCond .eq 9, 3) := by decide +kernel
theorem d_M_putPoint_8 : decode b_M_putPoint 8 = .ok (.aload_n 0, 1) := by decide +kernel
theorem d_M_putPoint_9 : decode b_M_putPoint 9 = .ok (.bipush 46, 2) := by decide +kernel
theorem d_M_putPoint_11 : decode b_M_putPoint 11 = .ok (.invokevirtual 225, 3) := by decide +kernel
theorem d_M_putPoint_14 : decode b_M_putPoint 14 = .ok (.return_, 1) := by decide +kernel
theorem d_M_fixed_0 : decode b_M_fixed 0 = .ok (.aload_n 0, 1) := by decide +kernel
theorem d_M_fixed_1 : decode b_M_fixed 1 = .ok (.aload_n 0, 1) := by decide +kernel
theorem d_M_fixed_2 : decode b_M_fixed 2 = .ok (.getfield 205, 3) := by decide +kernel
theorem d_M_fixed_5 : decode b_M_fixed 5 = .ok (.ifCond .ne 7, 3) := by decide +kernel
theorem d_M_fixed_8 : decode b_M_fixed 8 = .ok (.iconst 0, 1) := by decide +kernel
theorem d_M_fixed_9 : decode b_M_fixed 9 = .ok (.goto 9, 3) := by decide +kernel
theorem d_M_fixed_12 : decode b_M_fixed 12 = .ok (.aload_n 0, 1) := by decide +kernel
theorem d_M_fixed_13 : decode b_M_fixed 13 = .ok (.getfield 209, 3) := by decide +kernel
theorem d_M_fixed_16 : decode b_M_fixed 16 = .ok (.iload_n 1, 1) := by decide +kernel
theorem d_M_fixed_17 : decode b_M_fixed 17 = .ok (.iadd, 1) := by decide +kernel
theorem d_M_fixed_18 : decode b_M_fixed 18 = .ok (.invokevirtual 228, 3) := by decide +kernel
theorem d_M_fixed_21 : decode b_M_fixed 21 = .ok (.aload_n 0, 1) := by decide +kernel
theorem d_M_fixed_22 : decode b_M_fixed 22 = .ok (.getfield 205, 3) := by decide +kernel
theorem d_M_fixed_25 : decode b_M_fixed 25 = .ok (.ifCond .eq 11, 3) := by decide +kernel
theorem d_M_fixed_28 : decode b_M_fixed 28 = .ok (.aload_n 0, 1) := by decide +kernel
theorem d_M_fixed_29 : decode b_M_fixed 29 = .ok (.getfield 219, 3) := by decide +kernel
theorem d_M_fixed_32 : decode b_M_fixed 32 = .ok (.iconst 1, 1) := by decide +kernel
theorem d_M_fixed_33 : decode b_M_fixed 33 = .ok (.if_icmp .ge 7, 3) := by decide +kernel
theorem d_M_fixed_36 : decode b_M_fixed 36 = .ok (.iconst 1, 1) := by decide +kernel
theorem d_M_fixed_37 : decode b_M_fixed 37 = .ok (.goto 7, 3) := by decide +kernel
theorem d_M_fixed_40 : decode b_M_fixed 40 = .ok (.aload_n 0, 1) := by decide +kernel
theorem d_M_fixed_41 : decode b_M_fixed 41 = .ok (.getfield 219, 3) := by decide +kernel
theorem d_M_fixed_44 : decode b_M_fixed 44 = .ok (.istore_n 3, 1) := by decide +kernel
theorem d_M_fixed_45 : decode b_M_fixed 45 = .ok (.aload_n 0, 1) := by decide +kernel
theorem d_M_fixed_46 : decode b_M_fixed 46 = .ok (.getfield 205, 3) := by decide +kernel
theorem d_M_fixed_49 : decode b_M_fixed 49 = .ok (.ifCond .eq 11, 3) := by decide +kernel
theorem d_M_fixed_52 : decode b_M_fixed 52 = .ok (.aload_n 0, 1) := by decide +kernel
theorem d_M_fixed_53 : decode b_M_fixed 53 = .ok (.getfield 219, 3) := by decide +kernel
theorem d_M_fixed_56 : decode b_M_fixed 56 = .ok (.iconst 1, 1) := by decide +kernel
theorem d_M_fixed_57 : decode b_M_fixed 57 = .ok (.if_icmp .ge 12, 3) := by decide +kernel
theorem d_M_fixed_60 : decode b_M_fixed 60 = .ok (.aload_n 0, 1) := by decide +kernel
theorem d_M_fixed_61 : decode b_M_fixed 61 = .ok (.getfield 219, 3) := by decide +kernel
theorem d_M_fixed_64 : decode b_M_fixed 64 = .ok (.iconst 1, 1) := by decide +kernel
theorem d_M_fixed_65 : decode b_M_fixed 65 = .ok (.isub, 1) := by decide +kernel
theorem d_M_fixed_66 : decode b_M_fixed 66 = .ok (.goto 4, 3) := by decide +kernel
theorem d_M_fixed_69 : decode b_M_fixed 69 = .ok (.iconst 0, 1) := by decide +kernel
theorem d_M_fixed_70 : decode b_M_fixed 70 = .ok (.istore 4, 2) := by decide +kernel
theorem d_M_fixed_72 : decode b_M_fixed 72 = .ok (.iconst 0, 1) := by decide +kernel
theorem d_M_fixed_73 : decode b_M_fixed 73 = .ok (.istore 5, 2) := by decide +kernel
theorem d_M_fixed_75 : decode b_M_fixed 75 = .ok (.iload 5, 2) := by decide +kernel
theorem d_M_fixed_77 : decode b_M_fixed 77 = .ok (.iload_n 3, 1) := by decide +kernel
theorem d_M_fixed_78 : decode b_M_fixed 78 = .ok (.if_icmp .ge 25, 3) := by decide +kernel
theorem d_M_fixed_81 : decode b_M_fixed 81 = .ok (.aload_n 0, 1) := by decide +kernel
theorem d_M_fixed_82 : decode b_M_fixed 82 = .ok (.bipush 48, 2) := by decide +kernel
theorem d_M_fixed_84 : decode b_M_fixed 84 = .ok (.aload_n 0, 1) := by decide +kernel
theorem d_M_fixed_85 : decode b_M_fixed 85 = .ok (.iload 5, 2) := by decide +kernel
theorem d_M_fixed_87 : decode b_M_fixed 87 = .ok (.iload 4, 2) := by decide +kernel
theorem d_M_fixed_89 : decode b_M_fixed 89 = .ok (.iadd, 1) := by decide +kernel
theorem d_M_fixed_90 : decode b_M_fixed 90 = .ok (.invokevirtual 231, 3) := by decide +kernel
theorem d_M_fixed_93 : decode b_M_fixed 93 = .ok (.iadd, 1) := by decide +kernel
theorem d_M_fixed_94 : decode b_M_fixed 94 = .ok (.invokevirtual 225, 3) := by decide +kernel
theorem d_M_fixed_97 : decode b_M_fixed 97 = .ok (.iinc 5 1, 3) := by decide +kernel
theorem d_M_fixed_100 : decode b_M_fixed 100 = .ok (.goto (-25), 3) := by decide +kernel
theorem d_M_fixed_103 : decode b_M_fixed 103 = .ok (.aload_n 0, 1) := by decide +kernel
theorem d_M_fixed_104 : decode b_M_fixed 104 = .ok (.iload_n 1, 1) := by decide +kernel
theorem d_M_fixed_105 : decode b_M_fixed 105 = .ok (.iload_n 2, 1) := by decide +kernel
theorem d_M_fixed_106 : decode b_M_fixed 106 = .ok (.invokevirtual 234, 3) := by decide +kernel
theorem d_M_fixed_109 : decode b_M_fixed 109 = .ok (.iconst 0, 1) := by decide +kernel
theorem d_M_fixed_110 : decode b_M_fixed 110 = .ok (.istore 5, 2) := by decide +kernel
theorem d_M_fixed_112 : decode b_M_fixed 112 = .ok (.iload 5, 2) := by decide +kernel
theorem d_M_fixed_114 : decode b_M_fixed 114 = .ok (.iload_n 1, 1) := by decide +kernel
theorem d_M_fixed_115 : decode b_M_fixed 115 = .ok (.if_icmp .ge 27, 3) := by decide +kernel
theorem d_M_fixed_118 : decode b_M_fixed 118 = .ok (.aload_n 0, 1) := by decide +kernel
theorem d_M_fixed_119 : decode b_M_fixed 119 = .ok (.bipush 48, 2) := by decide +kernel
theorem d_M_fixed_121 : decode b_M_fixed 121 = .ok (.aload_n 0, 1) := by decide +kernel
theorem d_M_fixed_122 : decode b_M_fixed 122 = .ok (.iload_n 3, 1) := by decide +kernel
theorem d_M_fixed_123 : decode b_M_fixed 123 = .ok (.iload 4, 2) := by decide +kernel
theorem d_M_fixed_125 : decode b_M_fixed 125 = .ok (.iadd, 1) := by decide +kernel
theorem d_M_fixed_126 : decode b_M_fixed 126 = .ok (.iload 5, 2) := by decide +kernel
theorem d_M_fixed_128 : decode b_M_fixed 128 = .ok (.iadd, 1) := by decide +kernel
theorem d_M_fixed_129 : decode b_M_fixed 129 = .ok (.invokevirtual 231, 3) := by decide +kernel
theorem d_M_fixed_132 : decode b_M_fixed 132 = .ok (.iadd, 1) := by decide +kernel
theorem d_M_fixed_133 : decode b_M_fixed 133 = .ok (.invokevirtual 225, 3) := by decide +kernel
theorem d_M_fixed_136 : decode b_M_fixed 136 = .ok (.iinc 5 1, 3) := by decide +kernel
theorem d_M_fixed_139 : decode b_M_fixed 139 = .ok (.goto (-27), 3) := by decide +kernel
theorem d_M_fixed_142 : decode b_M_fixed 142 = .ok (.return_, 1) := by decide +kernel
theorem d_M_putPower_0 : decode b_M_putPower 0 = .ok (.aload_n 0, 1) := by decide +kernel
theorem d_M_putPower_1 : decode b_M_putPower 1 = .ok (.iload_n 1, 1) := by decide +kernel
theorem d_M_putPower_2 : decode b_M_putPower 2 = .ok (.invokevirtual 225, 3) := by decide +kernel
theorem d_M_putPower_5 : decode b_M_putPower 5 = .ok (.aload_n 0, 1) := by decide +kernel
theorem d_M_putPower_6 : decode b_M_putPower 6 = .ok (.iload_n 2, 1) := by decide +kernel
theorem d_M_putPower_7 : decode b_M_putPower 7 = .ok (.ifCond .ge 8, 3) := by decide +kernel
theorem d_M_putPower_10 : decode b_M_putPower 10 = .ok (.bipush 45, 2) := by decide +kernel
theorem d_M_putPower_12 : decode b_M_putPower 12 = .ok (.goto 5, 3) := by decide +kernel
theorem d_M_putPower_15 : decode b_M_putPower 15 = .ok (.bipush 43, 2) := by decide +kernel
theorem d_M_putPower_17 : decode b_M_putPower 17 = .ok (.invokevirtual 225, 3) := by decide +kernel
theorem d_M_putPower_20 : decode b_M_putPower 20 = .ok (.iload_n 2, 1) := by decide +kernel
theorem d_M_putPower_21 : decode b_M_putPower 21 = .ok (.ifCond .ge 8, 3) := by decide +kernel
theorem d_M_putPower_24 : decode b_M_putPower 24 = .ok (.iload_n 2, 1) := by decide +kernel
theorem d_M_putPower_25 : decode b_M_putPower 25 = .ok (.ineg, 1) := by decide +kernel
theorem d_M_putPower_26 : decode b_M_putPower 26 = .ok (.goto 4, 3) := by decide +kernel
theorem d_M_putPower_29 : decode b_M_putPower 29 = .ok (.iload_n 2, 1) := by decide +kernel
theorem d_M_putPower_30 : decode b_M_putPower 30 = .ok (.istore 4, 2) := by decide +kernel
theorem d_M_putPower_32 : decode b_M_putPower 32 = .ok (.iconst 1, 1) := by decide +kernel
theorem d_M_putPower_33 : decode b_M_putPower 33 = .ok (.istore 5, 2) := by decide +kernel
theorem d_M_putPower_35 : decode b_M_putPower 35 = .ok (.iconst 1, 1) := by decide +kernel
theorem d_M_putPower_36 : decode b_M_putPower 36 = .ok (.istore 6, 2) := by decide +kernel
theorem d_M_putPower_38 : decode b_M_putPower 38 = .ok (.iload 4, 2) := by decide +kernel
theorem d_M_putPower_40 : decode b_M_putPower 40 = .ok (.iload 5, 2) := by decide +kernel
theorem d_M_putPower_42 : decode b_M_putPower 42 = .ok (.idiv, 1) := by decide +kernel
theorem d_M_putPower_43 : decode b_M_putPower 43 = .ok (.bipush 9, 2) := by decide +kernel
theorem d_M_putPower_45 : decode b_M_putPower 45 = .ok (.if_icmp .gt 9, 3) := by decide +kernel
theorem d_M_putPower_48 : decode b_M_putPower 48 = .ok (.iload 6, 2) := by decide +kernel
theorem d_M_putPower_50 : decode b_M_putPower 50 = .ok (.iload_n 3, 1) := by decide +kernel
theorem d_M_putPower_51 : decode b_M_putPower 51 = .ok (.if_icmp .ge 16, 3) := by decide +kernel
theorem d_M_putPower_54 : decode b_M_putPower 54 = .ok (.bipush 10, 2) := by decide +kernel
theorem d_M_putPower_56 : decode b_M_putPower 56 = .ok (.iload 5, 2) := by decide +kernel
theorem d_M_putPower_58 : decode b_M_putPower 58 = .ok (.imul, 1) := by decide +kernel
theorem d_M_putPower_59 : decode b_M_putPower 59 = .ok (.istore 5, 2) := by decide +kernel
theorem d_M_putPower_61 : decode b_M_putPower 61 = .ok (.iinc 6 1, 3) := by decide +kernel
theorem d_M_putPower_64 : decode b_M_putPower 64 = .ok (.goto (-26), 3) := by decide +kernel
theorem d_M_putPower_67 : decode b_M_putPower 67 = .ok (.iload 5, 2) := by decide +kernel
theorem d_M_putPower_69 : decode b_M_putPower 69 = .ok (.istore 7, 2) := by decide +kernel
theorem d_M_putPower_71 : decode b_M_putPower 71 = .ok (.iload 7, 2) := by decide +kernel
theorem d_M_putPower_73 : decode b_M_putPower 73 = .ok (.ifCond .le 28, 3) := by decide +kernel
theorem d_M_putPower_76 : decode b_M_putPower 76 = .ok (.aload_n 0, 1) := by decide +kernel
theorem d_M_putPower_77 : decode b_M_putPower 77 = .ok (.bipush 48, 2) := by decide +kernel
theorem d_M_putPower_79 : decode b_M_putPower 79 = .ok (.iload 4, 2) := by decide +kernel
theorem d_M_putPower_81 : decode b_M_putPower 81 = .ok (.iload 7, 2) := by decide +kernel
theorem d_M_putPower_83 : decode b_M_putPower 83 = .ok (.idiv, 1) := by decide +kernel
theorem d_M_putPower_84 : decode b_M_putPower 84 = .ok (.bipush 10, 2) := by decide +kernel
theorem d_M_putPower_86 : decode b_M_putPower 86 = .ok (.irem, 1) := by decide +kernel
theorem d_M_putPower_87 : decode b_M_putPower 87 = .ok (.iadd, 1) := by decide +kernel
theorem d_M_putPower_88 : decode b_M_putPower 88 = .ok (.invokevirtual 225, 3) := by decide +kernel
theorem d_M_putPower_91 : decode b_M_putPower 91 = .ok (.iload 7, 2) := by decide +kernel
theorem d_M_putPower_93 : decode b_M_putPower 93 = .ok (.bipush 10, 2) := by decide +kernel
theorem d_M_putPower_95 : decode b_M_putPower 95 = .ok (.idiv, 1) := by decide +kernel
theorem d_M_putPower_96 : decode b_M_putPower 96 = .ok (.istore 7, 2) := by decide +kernel
theorem d_M_putPower_98 : decode b_M_putPower 98 = .ok (.goto (-27), 3) := by decide +kernel
theorem d_M_putPower_101 : decode b_M_putPower 101 = .ok (.return_, 1) := by decide +kernel
theorem d_M_power_0 : decode b_M_power 0 = .ok (.aload_n 0, 1) := by decide +kernel
theorem d_M_power_1 : decode b_M_power 1 = .ok (.bipush 48, 2) := by decide +kernel
theorem d_M_power_3 : decode b_M_power 3 = .ok (.aload_n 0, 1) := by decide +kernel
theorem d_M_power_4 : decode b_M_power 4 = .ok (.iconst 0, 1) := by decide +kernel
theorem d_M_power_5 : decode b_M_power 5 = .ok (.invokevirtual 231, 3) := by decide +kernel
theorem d_M_power_8 : decode b_M_power 8 = .ok (.iadd, 1) := by decide +kernel
theorem d_M_power_9 : decode b_M_power 9 = .ok (.invokevirtual 225, 3) := by decide +kernel
theorem d_M_power_12 : decode b_M_power 12 = .ok (.aload_n 0, 1) := by decide +kernel
theorem d_M_power_13 : decode b_M_power 13 = .ok (.iload_n 1, 1) := by decide +kernel
theorem d_M_power_14 : decode b_M_power 14 = .ok (.iload_n 2, 1) := by decide +kernel
theorem d_M_power_15 : decode b_M_power 15 = .ok (.invokevirtual 234, 3) := by decide +kernel
theorem d_M_power_18 : decode b_M_power 18 = .ok (.iconst 0, 1) := by decide +kernel
theorem d_M_power_19 : decode b_M_power 19 = .ok (.istore 4, 2) := by decide +kernel
theorem d_M_power_21 : decode b_M_power 21 = .ok (.iload 4, 2) := by decide +kernel
theorem d_M_power_23 : decode b_M_power 23 = .ok (.iload_n 1, 1) := by decide +kernel
theorem d_M_power_24 : decode b_M_power 24 = .ok (.if_icmp .ge 24, 3) := by decide +kernel
theorem d_M_power_27 : decode b_M_power 27 = .ok (.aload_n 0, 1) := by decide +kernel
theorem d_M_power_28 : decode b_M_power 28 = .ok (.bipush 48, 2) := by decide +kernel
theorem d_M_power_30 : decode b_M_power 30 = .ok (.aload_n 0, 1) := by decide +kernel
theorem d_M_power_31 : decode b_M_power 31 = .ok (.iconst 1, 1) := by decide +kernel
theorem d_M_power_32 : decode b_M_power 32 = .ok (.iload 4, 2) := by decide +kernel
theorem d_M_power_34 : decode b_M_power 34 = .ok (.iadd, 1) := by decide +kernel
theorem d_M_power_35 : decode b_M_power 35 = .ok (.invokevirtual 231, 3) := by decide +kernel
theorem d_M_power_38 : decode b_M_power 38 = .ok (.iadd, 1) := by decide +kernel
theorem d_M_power_39 : decode b_M_power 39 = .ok (.invokevirtual 225, 3) := by decide +kernel
theorem d_M_power_42 : decode b_M_power 42 = .ok (.iinc 4 1, 3) := by decide +kernel
theorem d_M_power_45 : decode b_M_power 45 = .ok (.goto (-24), 3) := by decide +kernel
theorem d_M_power_48 : decode b_M_power 48 = .ok (.aload_n 0, 1) := by decide +kernel
theorem d_M_power_49 : decode b_M_power 49 = .ok (.iload_n 3, 1) := by decide +kernel
theorem d_M_power_50 : decode b_M_power 50 = .ok (.aload_n 0, 1) := by decide +kernel
theorem d_M_power_51 : decode b_M_power 51 = .ok (.getfield 205, 3) := by decide +kernel
theorem d_M_power_54 : decode b_M_power 54 = .ok (.ifCond .ne 7, 3) := by decide +kernel
theorem d_M_power_57 : decode b_M_power 57 = .ok (.iconst 0, 1) := by decide +kernel
theorem d_M_power_58 : decode b_M_power 58 = .ok (.goto 9, 3) := by decide +kernel
theorem d_M_power_61 : decode b_M_power 61 = .ok (.aload_n 0, 1) := by decide +kernel
theorem d_M_power_62 : decode b_M_power 62 = .ok (.getfield 219, 3) := by decide +kernel
theorem d_M_power_65 : decode b_M_power 65 = .ok (.iconst 1, 1) := by decide +kernel
theorem d_M_power_66 : decode b_M_power 66 = .ok (.isub, 1) := by decide +kernel
theorem d_M_power_67 : decode b_M_power 67 = .ok (.iconst 2, 1) := by decide +kernel
theorem d_M_power_68 : decode b_M_power 68 = .ok (.invokevirtual 238, 3) := by decide +kernel
theorem d_M_power_71 : decode b_M_power 71 = .ok (.return_, 1) := by decide +kernel
theorem d_M_needed_0 : decode b_M_needed 0 = .ok (.iload_n 1, 1) := by decide +kernel
theorem d_M_needed_1 : decode b_M_needed 1 = .ok (.istore_n 3, 1) := by decide +kernel
theorem d_M_needed_2 : decode b_M_needed 2 = .ok (.iload_n 3, 1) := by decide +kernel
theorem d_M_needed_3 : decode b_M_needed 3 = .ok (.ifCond .le 19, 3) := by decide +kernel
theorem d_M_needed_6 : decode b_M_needed 6 = .ok (.aload_n 0, 1) := by decide +kernel
theorem d_M_needed_7 : decode b_M_needed 7 = .ok (.iload_n 2, 1) := by decide +kernel
theorem d_M_needed_8 : decode b_M_needed 8 = .ok (.iload_n 3, 1) := by decide +kernel
theorem d_M_needed_9 : decode b_M_needed 9 = .ok (.iadd, 1) := by decide +kernel
theorem d_M_needed_10 : decode b_M_needed 10 = .ok (.invokevirtual 231, 3) := by decide +kernel
theorem d_M_needed_13 : decode b_M_needed 13 = .ok (.ifCond .ne 9, 3) := by decide +kernel
theorem d_M_needed_16 : decode b_M_needed 16 = .ok (.iinc 3 (-1), 3) := by decide +kernel
theorem d_M_needed_19 : decode b_M_needed 19 = .ok (.goto (-17), 3) := by decide +kernel
theorem d_M_needed_22 : decode b_M_needed 22 = .ok (.iload_n 3, 1) := by decide +kernel
theorem d_M_needed_23 : decode b_M_needed 23 = .ok (.ireturn, 1) := by decide +kernel
theorem d_M_general_0 : decode b_M_general 0 = .ok (.iload_n 1, 1) := by decide +kernel
theorem d_M_general_1 : decode b_M_general 1 = .ok (.ifCond .ge 8, 3) := by decide +kernel
theorem d_M_general_4 : decode b_M_general 4 = .ok (.bipush 6, 2) := by decide +kernel
theorem d_M_general_6 : decode b_M_general 6 = .ok (.goto 12, 3) := by decide +kernel
theorem d_M_general_9 : decode b_M_general 9 = .ok (.iload_n 1, 1) := by decide +kernel
theorem d_M_general_10 : decode b_M_general 10 = .ok (.ifCond .ne 7, 3) := by decide +kernel
theorem d_M_general_13 : decode b_M_general 13 = .ok (.iconst 1, 1) := by decide +kernel
theorem d_M_general_14 : decode b_M_general 14 = .ok (.goto 4, 3) := by decide +kernel
theorem d_M_general_17 : decode b_M_general 17 = .ok (.iload_n 1, 1) := by decide +kernel
theorem d_M_general_18 : decode b_M_general 18 = .ok (.istore 4, 2) := by decide +kernel
theorem d_M_general_20 : decode b_M_general 20 = .ok (.aload_n 0, 1) := by decide +kernel
theorem d_M_general_21 : decode b_M_general 21 = .ok (.iload 4, 2) := by decide +kernel
theorem d_M_general_23 : decode b_M_general 23 = .ok (.invokevirtual 228, 3) := by decide +kernel
theorem d_M_general_26 : decode b_M_general 26 = .ok (.aload_n 0, 1) := by decide +kernel
theorem d_M_general_27 : decode b_M_general 27 = .ok (.getfield 205, 3) := by decide +kernel
theorem d_M_general_30 : decode b_M_general 30 = .ok (.ifCond .ne 7, 3) := by decide +kernel
theorem d_M_general_33 : decode b_M_general 33 = .ok (.iconst 0, 1) := by decide +kernel
theorem d_M_general_34 : decode b_M_general 34 = .ok (.goto 9, 3) := by decide +kernel
theorem d_M_general_37 : decode b_M_general 37 = .ok (.aload_n 0, 1) := by decide +kernel
theorem d_M_general_38 : decode b_M_general 38 = .ok (.getfield 219, 3) := by decide +kernel
theorem d_M_general_41 : decode b_M_general 41 = .ok (.iconst 1, 1) := by decide +kernel
theorem d_M_general_42 : decode b_M_general 42 = .ok (.isub, 1) := by decide +kernel
theorem d_M_general_43 : decode b_M_general 43 = .ok (.istore 5, 2) := by decide +kernel
theorem d_M_general_45 : decode b_M_general 45 = .ok (.iload 5, 2) := by decide +kernel
theorem d_M_general_47 : decode b_M_general 47 = .ok (.bipush (-4), 2) := by decide +kernel
theorem d_M_general_49 : decode b_M_general 49 = .ok (.if_icmp .lt 14, 3) := by decide +kernel
theorem d_M_general_52 : decode b_M_general 52 = .ok (.iload 5, 2) := by decide +kernel
theorem d_M_general_54 : decode b_M_general 54 = .ok (.iload 4, 2) := by decide +kernel
theorem d_M_general_56 : decode b_M_general 56 = .ok (.if_icmp .ge 7, 3) := by decide +kernel
theorem d_M_general_59 : decode b_M_general 59 = .ok (.iconst 1, 1) := by decide +kernel
theorem d_M_general_60 : decode b_M_general 60 = .ok (.goto 4, 3) := by decide +kernel
theorem d_M_general_63 : decode b_M_general 63 = .ok (.iconst 0, 1) := by decide +kernel
theorem d_M_general_64 : decode b_M_general 64 = .ok (.istore 6, 2) := by decide +kernel
theorem d_M_general_66 : decode b_M_general 66 = .ok (.iload 6, 2) := by decide +kernel
theorem d_M_general_68 : decode b_M_general 68 = .ok (.ifCond .eq 13, 3) := by decide +kernel
theorem d_M_general_71 : decode b_M_general 71 = .ok (.iload 4, 2) := by decide +kernel
theorem d_M_general_73 : decode b_M_general 73 = .ok (.iconst 1, 1) := by decide +kernel
theorem d_M_general_74 : decode b_M_general 74 = .ok (.isub, 1) := by decide +kernel
theorem d_M_general_75 : decode b_M_general 75 = .ok (.iload 5, 2) := by decide +kernel
theorem d_M_general_77 : decode b_M_general 77 = .ok (.isub, 1) := by decide +kernel
theorem d_M_general_78 : decode b_M_general 78 = .ok (.goto 7, 3) := by decide +kernel
theorem d_M_general_81 : decode b_M_general 81 = .ok (.iload 4, 2) := by decide +kernel
theorem d_M_general_83 : decode b_M_general 83 = .ok (.iconst 1, 1) := by decide +kernel
theorem d_M_general_84 : decode b_M_general 84 = .ok (.isub, 1) := by decide +kernel
theorem d_M_general_85 : decode b_M_general 85 = .ok (.istore 7, 2) := by decide +kernel
theorem d_M_general_87 : decode b_M_general 87 = .ok (.iload_n 2, 1) := by decide +kernel
theorem d_M_general_88 : decode b_M_general 88 = .ok (.ifCond .ne 22, 3) := by decide +kernel
theorem d_M_general_91 : decode b_M_general 91 = .ok (.aload_n 0, 1) := by decide +kernel
theorem d_M_general_92 : decode b_M_general 92 = .ok (.iload 7, 2) := by decide +kernel
theorem d_M_general_94 : decode b_M_general 94 = .ok (.iload 6, 2) := by decide +kernel
theorem d_M_general_96 : decode b_M_general 96 = .ok (.ifCond .eq 8, 3) := by decide +kernel
theorem d_M_general_99 : decode b_M_general 99 = .ok (.iload 5, 2) := by decide +kernel
theorem d_M_general_101 : decode b_M_general 101 = .ok (.goto 4, 3) := by decide +kernel
theorem d_M_general_104 : decode b_M_general 104 = .ok (.iconst 0, 1) := by decide +kernel
theorem d_M_general_105 : decode b_M_general 105 = .ok (.invokevirtual 242, 3) := by decide +kernel
theorem d_M_general_108 : decode b_M_general 108 = .ok (.istore 7, 2) := by decide +kernel
theorem d_M_general_110 : decode b_M_general 110 = .ok (.iload 6, 2) := by decide +kernel
theorem d_M_general_112 : decode b_M_general 112 = .ok (.ifCond .eq 13, 3) := by decide +kernel
theorem d_M_general_115 : decode b_M_general 115 = .ok (.aload_n 0, 1) := by decide +kernel
theorem d_M_general_116 : decode b_M_general 116 = .ok (.iload 7, 2) := by decide +kernel
theorem d_M_general_118 : decode b_M_general 118 = .ok (.iload_n 2, 1) := by decide +kernel
theorem d_M_general_119 : decode b_M_general 119 = .ok (.invokevirtual 245, 3) := by decide +kernel
theorem d_M_general_122 : decode b_M_general 122 = .ok (.goto 11, 3) := by decide +kernel
theorem d_M_general_125 : decode b_M_general 125 = .ok (.aload_n 0, 1) := by decide +kernel
theorem d_M_general_126 : decode b_M_general 126 = .ok (.iload 7, 2) := by decide +kernel
theorem d_M_general_128 : decode b_M_general 128 = .ok (.iload_n 2, 1) := by decide +kernel
theorem d_M_general_129 : decode b_M_general 129 = .ok (.iload_n 3, 1) := by decide +kernel
theorem d_M_general_130 : decode b_M_general 130 = .ok (.invokevirtual 248, 3) := by decide +kernel
theorem d_M_general_133 : decode b_M_general 133 = .ok (.return_, 1) := by decide +kernel
theorem d_M_sixteenDigit_0 : decode b_M_sixteenDigit 0 = .ok (.iload_n 0, 1) := by decide +kernel
theorem d_M_sixteenDigit_1 : decode b_M_sixteenDigit 1 = .ok (.bipush 10, 2) := by decide +kernel
theorem d_M_sixteenDigit_3 : decode b_M_sixteenDigit 3 = .ok (.if_icmp .ge 10, 3) := by decide +kernel
theorem d_M_sixteenDigit_6 : decode b_M_sixteenDigit 6 = .ok (.bipush 48, 2) := by decide +kernel
theorem d_M_sixteenDigit_8 : decode b_M_sixteenDigit 8 = .ok (.iload_n 0, 1) := by decide +kernel
theorem d_M_sixteenDigit_9 : decode b_M_sixteenDigit 9 = .ok (.iadd, 1) := by decide +kernel
theorem d_M_sixteenDigit_10 : decode b_M_sixteenDigit 10 = .ok (.goto 19, 3) := by decide +kernel
theorem d_M_sixteenDigit_13 : decode b_M_sixteenDigit 13 = .ok (.iload_n 1, 1) := by decide +kernel
theorem d_M_sixteenDigit_14 : decode b_M_sixteenDigit 14 = .ok (.ifCond .eq 8, 3) := by decide +kernel
theorem d_M_sixteenDigit_17 : decode b_M_sixteenDigit 17 = .ok (.bipush 65, 2) := by decide +kernel
theorem d_M_sixteenDigit_19 : decode b_M_sixteenDigit 19 = .ok (.goto 5, 3) := by decide +kernel
theorem d_M_sixteenDigit_22 : decode b_M_sixteenDigit 22 = .ok (.bipush 97, 2) := by decide +kernel
theorem d_M_sixteenDigit_24 : decode b_M_sixteenDigit 24 = .ok (.iload_n 0, 1) := by decide +kernel
theorem d_M_sixteenDigit_25 : decode b_M_sixteenDigit 25 = .ok (.iadd, 1) := by decide +kernel
theorem d_M_sixteenDigit_26 : decode b_M_sixteenDigit 26 = .ok (.bipush 10, 2) := by decide +kernel
theorem d_M_sixteenDigit_28 : decode b_M_sixteenDigit 28 = .ok (.isub, 1) := by decide +kernel
theorem d_M_sixteenDigit_29 : decode b_M_sixteenDigit 29 = .ok (.ireturn, 1) := by decide +kernel
theorem d_M_binary_0 : decode b_M_binary 0 = .ok (.aload_n 0, 1) := by decide +kernel
theorem d_M_binary_1 : decode b_M_binary 1 = .ok (.getfield 45, 3) := by decide +kernel
theorem d_M_binary_4 : decode b_M_binary 4 = .ok (.lconst 0, 1) := by decide +kernel
theorem d_M_binary_5 : decode b_M_binary 5 = .ok (.lcmp, 1) := by decide +kernel
theorem d_M_binary_6 : decode b_M_binary 6 = .ok (.ifCond .ge 11, 3) := by decide +kernel
theorem d_M_binary_9 : decode b_M_binary 9 = .ok (.aload_n 0, 1) := by decide +kernel
theorem d_M_binary_10 : decode b_M_binary 10 = .ok (.getfield 45, 3) := by decide +kernel
theorem d_M_binary_13 : decode b_M_binary 13 = .ok (.lneg, 1) := by decide +kernel
theorem d_M_binary_14 : decode b_M_binary 14 = .ok (.goto 7, 3) := by decide +kernel
theorem d_M_binary_17 : decode b_M_binary 17 = .ok (.aload_n 0, 1) := by decide +kernel
theorem d_M_binary_18 : decode b_M_binary 18 = .ok (.getfield 45, 3) := by decide +kernel
theorem d_M_binary_21 : decode b_M_binary 21 = .ok (.lstore 4, 2) := by decide +kernel
theorem d_M_binary_23 : decode b_M_binary 23 = .ok (.lload 4, 2) := by decide +kernel
theorem d_M_binary_25 : decode b_M_binary 25 = .ok (.lconst 0, 1) := by decide +kernel
theorem d_M_binary_26 : decode b_M_binary 26 = .ok (.lcmp, 1) := by decide +kernel
theorem d_M_binary_27 : decode b_M_binary 27 = .ok (.ifCond .ne 7, 3) := by decide +kernel
theorem d_M_binary_30 : decode b_M_binary 30 = .ok (.iconst 0, 1) := by decide +kernel
theorem d_M_binary_31 : decode b_M_binary 31 = .ok (.goto 10, 3) := by decide +kernel
theorem d_M_binary_34 : decode b_M_binary 34 = .ok (.aload_n 0, 1) := by decide +kernel
theorem d_M_binary_35 : decode b_M_binary 35 = .ok (.getfield 49, 3) := by decide +kernel
theorem d_M_binary_38 : decode b_M_binary 38 = .ok (.bipush 52, 2) := by decide +kernel
theorem d_M_binary_40 : decode b_M_binary 40 = .ok (.iadd, 1) := by decide +kernel
theorem d_M_binary_41 : decode b_M_binary 41 = .ok (.istore 6, 2) := by decide +kernel
theorem d_M_binary_43 : decode b_M_binary 43 = .ok (.lload 4, 2) := by decide +kernel
theorem d_M_binary_45 : decode b_M_binary 45 = .ok (.lconst 0, 1) := by decide +kernel
theorem d_M_binary_46 : decode b_M_binary 46 = .ok (.lcmp, 1) := by decide +kernel
theorem d_M_binary_47 : decode b_M_binary 47 = .ok (.ifCond .eq 32, 3) := by decide +kernel
theorem d_M_binary_50 : decode b_M_binary 50 = .ok (.lload 4, 2) := by decide +kernel
theorem d_M_binary_52 : decode b_M_binary 52 = .ok (.ldc2_w 62, 3) := by decide +kernel
theorem d_M_binary_55 : decode b_M_binary 55 = .ok (.lcmp, 1) := by decide +kernel
theorem d_M_binary_56 : decode b_M_binary 56 = .ok (.ifCond .ge 23, 3) := by decide +kernel
theorem d_M_binary_59 : decode b_M_binary 59 = .ok (.iload 6, 2) := by decide +kernel
theorem d_M_binary_61 : decode b_M_binary 61 = .ok (.sipush (-1022), 3) := by decide +kernel
theorem d_M_binary_64 : decode b_M_binary 64 = .ok (.if_icmp .le 15, 3) := by decide +kernel
theorem d_M_binary_67 : decode b_M_binary 67 = .ok (.lload 4, 2) := by decide +kernel
theorem d_M_binary_69 : decode b_M_binary 69 = .ok (.iconst 1, 1) := by decide +kernel
theorem d_M_binary_70 : decode b_M_binary 70 = .ok (.lshl, 1) := by decide +kernel
theorem d_M_binary_71 : decode b_M_binary 71 = .ok (.lstore 4, 2) := by decide +kernel
theorem d_M_binary_73 : decode b_M_binary 73 = .ok (.iinc 6 (-1), 3) := by decide +kernel
theorem d_M_binary_76 : decode b_M_binary 76 = .ok (.goto (-33), 3) := by decide +kernel
theorem d_M_binary_79 : decode b_M_binary 79 = .ok (.lload 4, 2) := by decide +kernel
theorem d_M_binary_81 : decode b_M_binary 81 = .ok (.lconst 0, 1) := by decide +kernel
theorem d_M_binary_82 : decode b_M_binary 82 = .ok (.lcmp, 1) := by decide +kernel
theorem d_M_binary_83 : decode b_M_binary 83 = .ok (.ifCond .eq 23, 3) := by decide +kernel
theorem d_M_binary_86 : decode b_M_binary 86 = .ok (.iload 6, 2) := by decide +kernel
theorem d_M_binary_88 : decode b_M_binary 88 = .ok (.sipush (-1022), 3) := by decide +kernel
theorem d_M_binary_91 : decode b_M_binary 91 = .ok (.if_icmp .ge 15, 3) := by decide +kernel
theorem d_M_binary_94 : decode b_M_binary 94 = .ok (.lload 4, 2) := by decide +kernel
theorem d_M_binary_96 : decode b_M_binary 96 = .ok (.iconst 1, 1) := by decide +kernel
theorem d_M_binary_97 : decode b_M_binary 97 = .ok (.lshr, 1) := by decide +kernel
theorem d_M_binary_98 : decode b_M_binary 98 = .ok (.lstore 4, 2) := by decide +kernel
theorem d_M_binary_100 : decode b_M_binary 100 = .ok (.iinc 6 1, 3) := by decide +kernel
theorem d_M_binary_103 : decode b_M_binary 103 = .ok (.goto (-24), 3) := by decide +kernel
theorem d_M_binary_106 : decode b_M_binary 106 = .ok (.iload_n 1, 1) := by decide +kernel
theorem d_M_binary_107 : decode b_M_binary 107 = .ok (.ifCond .lt 18, 3) := by decide +kernel
theorem d_M_binary_110 : decode b_M_binary 110 = .ok (.iload_n 1, 1) := by decide +kernel
theorem d_M_binary_111 : decode b_M_binary 111 = .ok (.bipush 13, 2) := by decide +kernel
theorem d_M_binary_113 : decode b_M_binary 113 = .ok (.if_icmp .ge 12, 3) := by decide +kernel
theorem d_M_binary_116 : decode b_M_binary 116 = .ok (.iconst 4, 1) := by decide +kernel
theorem d_M_binary_117 : decode b_M_binary 117 = .ok (.bipush 13, 2) := by decide +kernel
theorem d_M_binary_119 : decode b_M_binary 119 = .ok (.iload_n 1, 1) := by decide +kernel
theorem d_M_binary_120 : decode b_M_binary 120 = .ok (.isub, 1) := by decide +kernel
theorem d_M_binary_121 : decode b_M_binary 121 = .ok (.imul, 1) := by decide +kernel
theorem d_M_binary_122 : decode b_M_binary 122 = .ok (.goto 4, 3) := by decide +kernel
theorem d_M_binary_125 : decode b_M_binary 125 = .ok (.iconst 0, 1) := by decide +kernel
theorem d_M_binary_126 : decode b_M_binary 126 = .ok (.istore 7, 2) := by decide +kernel
theorem d_M_binary_128 : decode b_M_binary 128 = .ok (.lload 4, 2) := by decide +kernel
theorem d_M_binary_130 : decode b_M_binary 130 = .ok (.iload 7, 2) := by decide +kernel
theorem d_M_binary_132 : decode b_M_binary 132 = .ok (.lshr, 1) := by decide +kernel
theorem d_M_binary_133 : decode b_M_binary 133 = .ok (.lstore 8, 2) := by decide +kernel
theorem d_M_binary_135 : decode b_M_binary 135 = .ok (.lload 4, 2) := by decide +kernel
theorem d_M_binary_137 : decode b_M_binary 137 = .ok (.lload 8, 2) := by decide +kernel
theorem d_M_binary_139 : decode b_M_binary 139 = .ok (.iload 7, 2) := by decide +kernel
theorem d_M_binary_141 : decode b_M_binary 141 = .ok (.lshl, 1) := by decide +kernel
theorem d_M_binary_142 : decode b_M_binary 142 = .ok (.lsub, 1) := by decide +kernel
theorem d_M_binary_143 : decode b_M_binary 143 = .ok (.lstore 10, 2) := by decide +kernel
theorem d_M_binary_145 : decode b_M_binary 145 = .ok (.iload 7, 2) := by decide +kernel
theorem d_M_binary_147 : decode b_M_binary 147 = .ok (.ifCond .ne 7, 3) := by decide +kernel
theorem d_M_binary_150 : decode b_M_binary 150 = .ok (.lconst 1, 1) := by decide +kernel
theorem d_M_binary_151 : decode b_M_binary 151 = .ok (.goto 9, 3) := by decide +kernel
theorem d_M_binary_154 : decode b_M_binary 154 = .ok (.lconst 1, 1) := by decide +kernel
theorem d_M_binary_155 : decode b_M_binary 155 = .ok (.iload 7, 2) := by decide +kernel
theorem d_M_binary_157 : decode b_M_binary 157 = .ok (.iconst 1, 1) := by decide +kernel
theorem d_M_binary_158 : decode b_M_binary 158 = .ok (.isub, 1) := by decide +kernel
theorem d_M_binary_159 : decode b_M_binary 159 = .ok (.lshl, 1) := by decide +kernel
theorem d_M_binary_160 : decode b_M_binary 160 = .ok (.lstore 12, 2) := by decide +kernel
theorem d_M_binary_162 : decode b_M_binary 162 = .ok (.lload 10, 2) := by decide +kernel
theorem d_M_binary_164 : decode b_M_binary 164 = .ok (.lload 12, 2) := by decide +kernel
theorem d_M_binary_166 : decode b_M_binary 166 = .ok (.lcmp, 1) := by decide +kernel
theorem d_M_binary_167 : decode b_M_binary 167 = .ok (.ifCond .gt 22, 3) := by decide +kernel
theorem d_M_binary_170 : decode b_M_binary 170 = .ok (.lload 10, 2) := by decide +kernel
theorem d_M_binary_172 : decode b_M_binary 172 = .ok (.lload 12, 2) := by decide +kernel
theorem d_M_binary_174 : decode b_M_binary 174 = .ok (.lcmp, 1) := by decide +kernel
theorem d_M_binary_175 : decode b_M_binary 175 = .ok (.ifCond .ne 20, 3) := by decide +kernel
theorem d_M_binary_178 : decode b_M_binary 178 = .ok (.lload 8, 2) := by decide +kernel
theorem d_M_binary_180 : decode b_M_binary 180 = .ok (.ldc2_w 58, 3) := by decide +kernel
theorem d_M_binary_183 : decode b_M_binary 183 = .ok (.lrem, 1) := by decide +kernel
theorem d_M_binary_184 : decode b_M_binary 184 = .ok (.lconst 1, 1) := by decide +kernel
theorem d_M_binary_185 : decode b_M_binary 185 = .ok (.lcmp, 1) := by decide +kernel
theorem d_M_binary_186 : decode b_M_binary 186 = .ok (.ifCond .ne 9, 3) := by decide +kernel
theorem d_M_binary_189 : decode b_M_binary 189 = .ok (.lload 8, 2) := by decide +kernel
theorem d_M_binary_191 : decode b_M_binary 191 = .ok (.lconst 1, 1) := by decide +kernel
theorem d_M_binary_192 : decode b_M_binary 192 = .ok (.ladd, 1) := by decide +kernel
theorem d_M_binary_193 : decode b_M_binary 193 = .ok (.lstore 8, 2) := by decide +kernel
theorem d_M_binary_195 : decode b_M_binary 195 = .ok (.lload 8, 2) := by decide +kernel
theorem d_M_binary_197 : decode b_M_binary 197 = .ok (.iload 7, 2) := by decide +kernel
theorem d_M_binary_199 : decode b_M_binary 199 = .ok (.lshl, 1) := by decide +kernel
theorem d_M_binary_200 : decode b_M_binary 200 = .ok (.lstore 8, 2) := by decide +kernel
theorem d_M_binary_202 : decode b_M_binary 202 = .ok (.iload_n 1, 1) := by decide +kernel
theorem d_M_binary_203 : decode b_M_binary 203 = .ok (.ifCond .ge 8, 3) := by decide +kernel
theorem d_M_binary_206 : decode b_M_binary 206 = .ok (.bipush 13, 2) := by decide +kernel
theorem d_M_binary_208 : decode b_M_binary 208 = .ok (.goto 4, 3) := by decide +kernel
theorem d_M_binary_211 : decode b_M_binary 211 = .ok (.iload_n 1, 1) := by decide +kernel
theorem d_M_binary_212 : decode b_M_binary 212 = .ok (.istore 14, 2) := by decide +kernel
theorem d_M_binary_214 : decode b_M_binary 214 = .ok (.iload_n 1, 1) := by decide +kernel
theorem d_M_binary_215 : decode b_M_binary 215 = .ok (.ifCond .ge 33, 3) := by decide +kernel
theorem d_M_binary_218 : decode b_M_binary 218 = .ok (.iload 14, 2) := by decide +kernel
theorem d_M_binary_220 : decode b_M_binary 220 = .ok (.ifCond .le 28, 3) := by decide +kernel
theorem d_M_binary_223 : decode b_M_binary 223 = .ok (.lload 8, 2) := by decide +kernel
theorem d_M_binary_225 : decode b_M_binary 225 = .ok (.iconst 4, 1) := by decide +kernel
theorem d_M_binary_226 : decode b_M_binary 226 = .ok (.bipush 13, 2) := by decide +kernel
theorem d_M_binary_228 : decode b_M_binary 228 = .ok (.iload 14, 2) := by decide +kernel
theorem d_M_binary_230 : decode b_M_binary 230 = .ok (.isub, 1) := by decide +kernel
theorem d_M_binary_231 : decode b_M_binary 231 = .ok (.imul, 1) := by decide +kernel
theorem d_M_binary_232 : decode b_M_binary 232 = .ok (.lshr, 1) := by decide +kernel
theorem d_M_binary_233 : decode b_M_binary 233 = .ok (.ldc2_w 251, 3) := by decide +kernel
theorem d_M_binary_236 : decode b_M_binary 236 = .ok (.land, 1) := by decide +kernel
theorem d_M_binary_237 : decode b_M_binary 237 = .ok (.lconst 0, 1) := by decide +kernel
theorem d_M_binary_238 : decode b_M_binary 238 = .ok (.lcmp, 1) := by decide +kernel
theorem d_M_binary_239 : decode b_M_binary 239 = .ok (.ifCond .ne 9, 3) := by decide +kernel
theorem d_M_binary_242 : decode b_M_binary 242 = .ok (.iinc 14 (-1), 3) := by decide +kernel
theorem d_M_binary_245 : decode b_M_binary 245 = .ok (.goto (-31), 3) := by decide +kernel
theorem d_M_binary_248 : decode b_M_binary 248 = .ok (.aload_n 0, 1) := by decide +kernel
theorem d_M_binary_249 : decode b_M_binary 249 = .ok (.bipush 48, 2) := by decide +kernel
theorem d_M_binary_251 : decode b_M_binary 251 = .ok (.invokevirtual 225, 3) := by decide +kernel
theorem d_M_binary_254 : decode b_M_binary 254 = .ok (.aload_n 0, 1) := by decide +kernel
theorem d_M_binary_255 : decode b_M_binary 255 = .ok (.iload_n 3, 1) := by decide +kernel
theorem d_M_binary_256 : decode b_M_binary 256 = .ok (.ifCond .eq 8, 3) := by decide +kernel
theorem d_M_binary_259 : decode b_M_binary 259 = .ok (.bipush 88, 2) := by decide +kernel
theorem d_M_binary_261 : decode b_M_binary 261 = .ok (.goto 5, 3) := by decide +kernel
theorem d_M_binary_264 : decode b_M_binary 264 = .ok (.bipush 120, 2) := by decide +kernel
theorem d_M_binary_266 : decode b_M_binary 266 = .ok (.invokevirtual 225, 3) := by decide +kernel
theorem d_M_binary_269 : decode b_M_binary 269 = .ok (.aload_n 0, 1) := by decide +kernel
theorem d_M_binary_270 : decode b_M_binary 270 = .ok (.bipush 48, 2) := by decide +kernel
theorem d_M_binary_272 : decode b_M_binary 272 = .ok (.lload 8, 2) := by decide +kernel
theorem d_M_binary_274 : decode b_M_binary 274 = .ok (.bipush 52, 2) := by decide +kernel
theorem d_M_binary_276 : decode b_M_binary 276 = .ok (.lshr, 1) := by decide +kernel
theorem d_M_binary_277 : decode b_M_binary 277 = .ok (.l2i, 1) := by decide +kernel
theorem d_M_binary_278 : decode b_M_binary 278 = .ok (.iadd, 1) := by decide +kernel
theorem d_M_binary_279 : decode b_M_binary 279 = .ok (.invokevirtual 225, 3) := by decide +kernel
theorem d_M_binary_282 : decode b_M_binary 282 = .ok (.aload_n 0, 1) := by decide +kernel
theorem d_M_binary_283 : decode b_M_binary 283 = .ok (.iload 14, 2) := by decide +kernel
theorem d_M_binary_285 : decode b_M_binary 285 = .ok (.iload_n 2, 1) := by decide +kernel
theorem d_M_binary_286 : decode b_M_binary 286 = .ok (.invokevirtual 234, 3) := by decide +kernel
theorem d_M_binary_289 : decode b_M_binary 289 = .ok (.iconst 1, 1) := by decide +kernel
theorem d_M_binary_290 : decode b_M_binary 290 = .ok (.istore 15, 2) := by decide +kernel
theorem d_M_binary_292 : decode b_M_binary 292 = .ok (.iload 15, 2) := by decide +kernel
theorem d_M_binary_294 : decode b_M_binary 294 = .ok (.iload 14, 2) := by decide +kernel
theorem d_M_binary_296 : decode b_M_binary 296 = .ok (.if_icmp .gt 44, 3) := by decide +kernel
theorem d_M_binary_299 : decode b_M_binary 299 = .ok (.aload_n 0, 1) := by decide +kernel
theorem d_M_binary_300 : decode b_M_binary 300 = .ok (.iload 15, 2) := by decide +kernel
theorem d_M_binary_302 : decode b_M_binary 302 = .ok (.bipush 13, 2) := by decide +kernel
theorem d_M_binary_304 : decode b_M_binary 304 = .ok (.if_icmp .le 8, 3) := by decide +kernel
theorem d_M_binary_307 : decode b_M_binary 307 = .ok (.bipush 48, 2) := by decide +kernel
theorem d_M_binary_309 : decode b_M_binary 309 = .ok (.goto 22, 3) := by decide +kernel
theorem d_M_binary_312 : decode b_M_binary 312 = .ok (.lload 8, 2) := by decide +kernel
theorem d_M_binary_314 : decode b_M_binary 314 = .ok (.iconst 4, 1) := by decide +kernel
theorem d_M_binary_315 : decode b_M_binary 315 = .ok (.bipush 13, 2) := by decide +kernel
theorem d_M_binary_317 : decode b_M_binary 317 = .ok (.iload 15, 2) := by decide +kernel
theorem d_M_binary_319 : decode b_M_binary 319 = .ok (.isub, 1) := by decide +kernel
theorem d_M_binary_320 : decode b_M_binary 320 = .ok (.imul, 1) := by decide +kernel
theorem d_M_binary_321 : decode b_M_binary 321 = .ok (.lshr, 1) := by decide +kernel
theorem d_M_binary_322 : decode b_M_binary 322 = .ok (.ldc2_w 251, 3) := by decide +kernel
theorem d_M_binary_325 : decode b_M_binary 325 = .ok (.land, 1) := by decide +kernel
theorem d_M_binary_326 : decode b_M_binary 326 = .ok (.l2i, 1) := by decide +kernel
theorem d_M_binary_327 : decode b_M_binary 327 = .ok (.iload_n 3, 1) := by decide +kernel
theorem d_M_binary_328 : decode b_M_binary 328 = .ok (.invokestatic 253, 3) := by decide +kernel
theorem d_M_binary_331 : decode b_M_binary 331 = .ok (.invokevirtual 225, 3) := by decide +kernel
theorem d_M_binary_334 : decode b_M_binary 334 = .ok (.iinc 15 1, 3) := by decide +kernel
theorem d_M_binary_337 : decode b_M_binary 337 = .ok (.goto (-45), 3) := by decide +kernel
theorem d_M_binary_340 : decode b_M_binary 340 = .ok (.aload_n 0, 1) := by decide +kernel
theorem d_M_binary_341 : decode b_M_binary 341 = .ok (.iload_n 3, 1) := by decide +kernel
theorem d_M_binary_342 : decode b_M_binary 342 = .ok (.ifCond .eq 8, 3) := by decide +kernel
theorem d_M_binary_345 : decode b_M_binary 345 = .ok (.bipush 80, 2) := by decide +kernel
theorem d_M_binary_347 : decode b_M_binary 347 = .ok (.goto 5, 3) := by decide +kernel
theorem d_M_binary_350 : decode b_M_binary 350 = .ok (.bipush 112, 2) := by decide +kernel
theorem d_M_binary_352 : decode b_M_binary 352 = .ok (.iload 6, 2) := by decide +kernel
theorem d_M_binary_354 : decode b_M_binary 354 = .ok (.iconst 1, 1) := by decide +kernel
theorem d_M_binary_355 : decode b_M_binary 355 = .ok (.invokevirtual 238, 3) := by decide +kernel
theorem d_M_binary_358 : decode b_M_binary 358 = .ok (.return_, 1) := by decide +kernel
