theorem d_Writer_putPowerForm_0 : decode b_Writer_putPowerForm 0 = .ok (.aload_n 0, 1) := by decide +kernel
theorem d_Writer_putPowerForm_1 : decode b_Writer_putPowerForm 1 = .ok (.getfield 34, 3) := by decide +kernel
theorem d_Writer_putPowerForm_4 : decode b_Writer_putPowerForm 4 = .ok (.invokevirtual 123, 3) := by decide +kernel
theorem d_Writer_putPowerForm_7 : decode b_Writer_putPowerForm 7 = .ok (.istore_n 2, 1) := by decide +kernel
theorem d_Writer_putPowerForm_8 : decode b_Writer_putPowerForm 8 = .ok (.aload_n 0, 1) := by decide +kernel
theorem d_Writer_putPowerForm_9 : decode b_Writer_putPowerForm 9 = .ok (.getfield 30, 3) := by decide +kernel
theorem d_Writer_putPowerForm_12 : decode b_Writer_putPowerForm 12 = .ok (.bipush 48, 2) := by decide +kernel
theorem d_Writer_putPowerForm_14 : decode b_Writer_putPowerForm 14 = .ok (.aload_n 0, 1) := by decide +kernel
theorem d_Writer_putPowerForm_15 : decode b_Writer_putPowerForm 15 = .ok (.getfield 34, 3) := by decide +kernel
theorem d_Writer_putPowerForm_18 : decode b_Writer_putPowerForm 18 = .ok (.iload_n 2, 1) := by decide +kernel
theorem d_Writer_putPowerForm_19 : decode b_Writer_putPowerForm 19 = .ok (.invokevirtual 135, 3) := by decide +kernel
theorem d_Writer_putPowerForm_22 : decode b_Writer_putPowerForm 22 = .ok (.iadd, 1) := by decide +kernel
theorem d_Writer_putPowerForm_23 : decode b_Writer_putPowerForm 23 = .ok (.invokevirtual 138, 3) := by decide +kernel
theorem d_Writer_putPowerForm_26 : decode b_Writer_putPowerForm 26 = .ok (.aload_n 0, 1) := by decide +kernel
theorem d_Writer_putPowerForm_27 : decode b_Writer_putPowerForm 27 = .ok (.iload_n 2, 1) := by decide +kernel
theorem d_Writer_putPowerForm_28 : decode b_Writer_putPowerForm 28 = .ok (.iconst 1, 1) := by decide +kernel
theorem d_Writer_putPowerForm_29 : decode b_Writer_putPowerForm 29 = .ok (.isub, 1) := by decide +kernel
theorem d_Writer_putPowerForm_30 : decode b_Writer_putPowerForm 30 = .ok (.iload_n 1, 1) := by decide +kernel
theorem d_Writer_putPowerForm_31 : decode b_Writer_putPowerForm 31 = .ok (.invokevirtual 141, 3) := by decide +kernel
theorem d_Writer_putPowerForm_34 : decode b_Writer_putPowerForm 34 = .ok (.aload_n 0, 1) := by decide +kernel
theorem d_Writer_putPowerForm_35 : decode b_Writer_putPowerForm 35 = .ok (.getfield 30, 3) := by decide +kernel
theorem d_Writer_putPowerForm_38 : decode b_Writer_putPowerForm 38 = .ok (.aload_n 0, 1) := by decide +kernel
theorem d_Writer_putPowerForm_39 : decode b_Writer_putPowerForm 39 = .ok (.invokevirtual 47, 3) := by decide +kernel
theorem d_Writer_putPowerForm_42 : decode b_Writer_putPowerForm 42 = .ok (.ifCond .eq 8, 3) := by decide +kernel
theorem d_Writer_putPowerForm_45 : decode b_Writer_putPowerForm 45 = .ok (.bipush 69, 2) := by decide +kernel
theorem d_Writer_putPowerForm_47 : decode b_Writer_putPowerForm 47 = .ok (.goto 5, 3) := by decide +kernel
theorem d_Writer_putPowerForm_50 : decode b_Writer_putPowerForm 50 = .ok (.bipush 101, 2) := by decide +kernel
theorem d_Writer_putPowerForm_52 : decode b_Writer_putPowerForm 52 = .ok (.invokevirtual 138, 3) := by decide +kernel
theorem d_Writer_putPowerForm_55 : decode b_Writer_putPowerForm 55 = .ok (.aload_n 0, 1) := by decide +kernel
theorem d_Writer_putPowerForm_56 : decode b_Writer_putPowerForm 56 = .ok (.iload_n 2, 1) := by decide +kernel
theorem d_Writer_putPowerForm_57 : decode b_Writer_putPowerForm 57 = .ok (.iconst 2, 1) := by decide +kernel
theorem d_Writer_putPowerForm_58 : decode b_Writer_putPowerForm 58 = .ok (.invokevirtual 144, 3) := by decide +kernel
theorem d_Writer_putPowerForm_61 : decode b_Writer_putPowerForm 61 = .ok (.return_, 1) := by decide +kernel
theorem d_Writer_needed_0 : decode b_Writer_needed 0 = .ok (.iload_n 2, 1) := by decide +kernel
theorem d_Writer_needed_1 : decode b_Writer_needed 1 = .ok (.istore_n 3, 1) := by decide +kernel
theorem d_Writer_needed_2 : decode b_Writer_needed 2 = .ok (.iload_n 3, 1) := by decide +kernel
theorem d_Writer_needed_3 : decode b_Writer_needed 3 = .ok (.ifCond .le 33, 3) := by decide +kernel
theorem d_Writer_needed_6 : decode b_Writer_needed 6 = .ok (.aload_n 0, 1) := by decide +kernel
theorem d_Writer_needed_7 : decode b_Writer_needed 7 = .ok (.bipush 8, 2) := by decide +kernel
theorem d_Writer_needed_9 : decode b_Writer_needed 9 = .ok (.invokevirtual 73, 3) := by decide +kernel
theorem d_Writer_needed_12 : decode b_Writer_needed 12 = .ok (.ifCond .ne 24, 3) := by decide +kernel
theorem d_Writer_needed_15 : decode b_Writer_needed 15 = .ok (.aload_n 0, 1) := by decide +kernel
theorem d_Writer_needed_16 : decode b_Writer_needed 16 = .ok (.getfield 34, 3) := by decide +kernel
theorem d_Writer_needed_19 : decode b_Writer_needed 19 = .ok (.iload_n 1, 1) := by decide +kernel
theorem d_Writer_needed_20 : decode b_Writer_needed 20 = .ok (.iload_n 3, 1) := by decide +kernel
theorem d_Writer_needed_21 : decode b_Writer_needed 21 = .ok (.isub, 1) := by decide +kernel
theorem d_Writer_needed_22 : decode b_Writer_needed 22 = .ok (.iconst 1, 1) := by decide +kernel
theorem d_Writer_needed_23 : decode b_Writer_needed 23 = .ok (.iadd, 1) := by decide +kernel
theorem d_Writer_needed_24 : decode b_Writer_needed 24 = .ok (.invokevirtual 135, 3) := by decide +kernel
theorem d_Writer_needed_27 : decode b_Writer_needed 27 = .ok (.ifCond .ne 9, 3) := by decide +kernel
theorem d_Writer_needed_30 : decode b_Writer_needed 30 = .ok (.iinc 3 (-1), 3) := by decide +kernel
theorem d_Writer_needed_33 : decode b_Writer_needed 33 = .ok (.goto (-31), 3) := by decide +kernel
theorem d_Writer_needed_36 : decode b_Writer_needed 36 = .ok (.iload_n 3, 1) := by decide +kernel
theorem d_Writer_needed_37 : decode b_Writer_needed 37 = .ok (.ireturn, 1) := by decide +kernel
theorem d_Writer_putShorterForm_0 : decode b_Writer_putShorterForm 0 = .ok (.aload_n 0, 1) := by decide +kernel
theorem d_Writer_putShorterForm_1 : decode b_Writer_putShorterForm 1 = .ok (.getfield 34, 3) := by decide +kernel
theorem d_Writer_putShorterForm_4 : decode b_Writer_putShorterForm 4 = .ok (.aload_n 0, 1) := by decide +kernel
theorem d_Writer_putShorterForm_5 : decode b_Writer_putShorterForm 5 = .ok (.getfield 34, 3) := by decide +kernel
theorem d_Writer_putShorterForm_8 : decode b_Writer_putShorterForm 8 = .ok (.invokevirtual 123, 3) := by decide +kernel
theorem d_Writer_putShorterForm_11 : decode b_Writer_putShorterForm 11 = .ok (.iload_n 1, 1) := by decide +kernel
theorem d_Writer_putShorterForm_12 : decode b_Writer_putShorterForm 12 = .ok (.isub, 1) := by decide +kernel
theorem d_Writer_putShorterForm_13 : decode b_Writer_putShorterForm 13 = .ok (.invokevirtual 116, 3) := by decide +kernel
theorem d_Writer_putShorterForm_16 : decode b_Writer_putShorterForm 16 = .ok (.aload_n 0, 1) := by decide +kernel
theorem d_Writer_putShorterForm_17 : decode b_Writer_putShorterForm 17 = .ok (.getfield 34, 3) := by decide +kernel
theorem d_Writer_putShorterForm_20 : decode b_Writer_putShorterForm 20 = .ok (.invokevirtual 123, 3) := by decide +kernel
theorem d_Writer_putShorterForm_23 : decode b_Writer_putShorterForm 23 = .ok (.istore_n 2, 1) := by decide +kernel
theorem d_Writer_putShorterForm_24 : decode b_Writer_putShorterForm 24 = .ok (.iload_n 2, 1) := by decide +kernel
theorem d_Writer_putShorterForm_25 : decode b_Writer_putShorterForm 25 = .ok (.bipush (-4), 2) := by decide +kernel
theorem d_Writer_putShorterForm_27 : decode b_Writer_putShorterForm 27 = .ok (.if_icmp .lt 23, 3) := by decide +kernel
theorem d_Writer_putShorterForm_30 : decode b_Writer_putShorterForm 30 = .ok (.iload_n 2, 1) := by decide +kernel
theorem d_Writer_putShorterForm_31 : decode b_Writer_putShorterForm 31 = .ok (.iload_n 1, 1) := by decide +kernel
theorem d_Writer_putShorterForm_32 : decode b_Writer_putShorterForm 32 = .ok (.if_icmp .gt 18, 3) := by decide +kernel
theorem d_Writer_putShorterForm_35 : decode b_Writer_putShorterForm 35 = .ok (.aload_n 0, 1) := by decide +kernel
theorem d_Writer_putShorterForm_36 : decode b_Writer_putShorterForm 36 = .ok (.aload_n 0, 1) := by decide +kernel
theorem d_Writer_putShorterForm_37 : decode b_Writer_putShorterForm 37 = .ok (.iconst (-1), 1) := by decide +kernel
theorem d_Writer_putShorterForm_38 : decode b_Writer_putShorterForm 38 = .ok (.iload_n 1, 1) := by decide +kernel
theorem d_Writer_putShorterForm_39 : decode b_Writer_putShorterForm 39 = .ok (.iload_n 2, 1) := by decide +kernel
theorem d_Writer_putShorterForm_40 : decode b_Writer_putShorterForm 40 = .ok (.isub, 1) := by decide +kernel
theorem d_Writer_putShorterForm_41 : decode b_Writer_putShorterForm 41 = .ok (.invokevirtual 132, 3) := by decide +kernel
theorem d_Writer_putShorterForm_44 : decode b_Writer_putShorterForm 44 = .ok (.invokevirtual 120, 3) := by decide +kernel
theorem d_Writer_putShorterForm_47 : decode b_Writer_putShorterForm 47 = .ok (.goto 15, 3) := by decide +kernel
theorem d_Writer_putShorterForm_50 : decode b_Writer_putShorterForm 50 = .ok (.aload_n 0, 1) := by decide +kernel
theorem d_Writer_putShorterForm_51 : decode b_Writer_putShorterForm 51 = .ok (.aload_n 0, 1) := by decide +kernel
theorem d_Writer_putShorterForm_52 : decode b_Writer_putShorterForm 52 = .ok (.iload_n 2, 1) := by decide +kernel
theorem d_Writer_putShorterForm_53 : decode b_Writer_putShorterForm 53 = .ok (.iconst 1, 1) := by decide +kernel
theorem d_Writer_putShorterForm_54 : decode b_Writer_putShorterForm 54 = .ok (.isub, 1) := by decide +kernel
theorem d_Writer_putShorterForm_55 : decode b_Writer_putShorterForm 55 = .ok (.iload_n 1, 1) := by decide +kernel
theorem d_Writer_putShorterForm_56 : decode b_Writer_putShorterForm 56 = .ok (.invokevirtual 132, 3) := by decide +kernel
theorem d_Writer_putShorterForm_59 : decode b_Writer_putShorterForm 59 = .ok (.invokevirtual 126, 3) := by decide +kernel
theorem d_Writer_putShorterForm_62 : decode b_Writer_putShorterForm 62 = .ok (.return_, 1) := by decide +kernel
theorem d_Writer_writeSize_0 : decode b_Writer_writeSize 0 = .ok (.aload_n 0, 1) := by decide +kernel
theorem d_Writer_writeSize_1 : decode b_Writer_writeSize 1 = .ok (.invokevirtual 92, 3) := by decide +kernel
theorem d_Writer_writeSize_4 : decode b_Writer_writeSize 4 = .ok (.bipush 97, 2) := by decide +kernel
theorem d_Writer_writeSize_6 : decode b_Writer_writeSize 6 = .ok (.if_icmp .ne 7, 3) := by decide +kernel
theorem d_Writer_writeSize_9 : decode b_Writer_writeSize 9 = .ok (.iconst 1, 1) := by decide +kernel
theorem d_Writer_writeSize_10 : decode b_Writer_writeSize 10 = .ok (.goto 4, 3) := by decide +kernel
theorem d_Writer_writeSize_13 : decode b_Writer_writeSize 13 = .ok (.iconst 0, 1) := by decide +kernel
theorem d_Writer_writeSize_14 : decode b_Writer_writeSize 14 = .ok (.istore_n 3, 1) := by decide +kernel
theorem d_Writer_writeSize_15 : decode b_Writer_writeSize 15 = .ok (.aload_n 0, 1) := by decide +kernel
theorem d_Writer_writeSize_16 : decode b_Writer_writeSize 16 = .ok (.getfield 30, 3) := by decide +kernel
theorem d_Writer_writeSize_19 : decode b_Writer_writeSize 19 = .ok (.invokevirtual 38, 3) := by decide +kernel
theorem d_Writer_writeSize_22 : decode b_Writer_writeSize 22 = .ok (.aload_n 0, 1) := by decide +kernel
theorem d_Writer_writeSize_23 : decode b_Writer_writeSize 23 = .ok (.iload_n 1, 1) := by decide +kernel
theorem d_Writer_writeSize_24 : decode b_Writer_writeSize 24 = .ok (.invokevirtual 43, 3) := by decide +kernel
theorem d_Writer_writeSize_27 : decode b_Writer_writeSize 27 = .ok (.iload_n 3, 1) := by decide +kernel
theorem d_Writer_writeSize_28 : decode b_Writer_writeSize 28 = .ok (.ifCond .eq 27, 3) := by decide +kernel
theorem d_Writer_writeSize_31 : decode b_Writer_writeSize 31 = .ok (.aload_n 0, 1) := by decide +kernel
theorem d_Writer_writeSize_32 : decode b_Writer_writeSize 32 = .ok (.getfield 30, 3) := by decide +kernel
theorem d_Writer_writeSize_35 : decode b_Writer_writeSize 35 = .ok (.aload_n 0, 1) := by decide +kernel
theorem d_Writer_writeSize_36 : decode b_Writer_writeSize 36 = .ok (.invokevirtual 47, 3) := by decide +kernel
theorem d_Writer_writeSize_39 : decode b_Writer_writeSize 39 = .ok (.ifCond .eq 8, 3) := by decide +kernel
theorem d_Writer_writeSize_42 : decode b_Writer_writeSize 42 = .ok (.ldc 95, 2) := by decide +kernel
theorem d_Writer_writeSize_44 : decode b_Writer_writeSize 44 = .ok (.goto 5, 3) := by decide +kernel
theorem d_Writer_writeSize_47 : decode b_Writer_writeSize 47 = .ok (.ldc 97, 2) := by decide +kernel
theorem d_Writer_writeSize_49 : decode b_Writer_writeSize 49 = .ok (.invokevirtual 51, 3) := by decide +kernel
theorem d_Writer_writeSize_52 : decode b_Writer_writeSize 52 = .ok (.goto 18, 3) := by decide +kernel
theorem d_Writer_writeSize_55 : decode b_Writer_writeSize 55 = .ok (.aload_n 0, 1) := by decide +kernel
theorem d_Writer_writeSize_56 : decode b_Writer_writeSize 56 = .ok (.getfield 34, 3) := by decide +kernel
theorem d_Writer_writeSize_59 : decode b_Writer_writeSize 59 = .ok (.aload_n 2, 1) := by decide +kernel
theorem d_Writer_writeSize_60 : decode b_Writer_writeSize 60 = .ok (.invokevirtual 99, 3) := by decide +kernel
theorem d_Writer_writeSize_63 : decode b_Writer_writeSize 63 = .ok (.aload_n 2, 1) := by decide +kernel
theorem d_Writer_writeSize_64 : decode b_Writer_writeSize 64 = .ok (.invokevirtual 105, 3) := by decide +kernel
theorem d_Writer_writeSize_67 : decode b_Writer_writeSize 67 = .ok (.invokevirtual 108, 3) := by decide +kernel
theorem d_Writer_writeSize_70 : decode b_Writer_writeSize 70 = .ok (.aload_n 0, 1) := by decide +kernel
theorem d_Writer_writeSize_71 : decode b_Writer_writeSize 71 = .ok (.getfield 30, 3) := by decide +kernel
theorem d_Writer_writeSize_74 : decode b_Writer_writeSize 74 = .ok (.invokevirtual 81, 3) := by decide +kernel
theorem d_Writer_writeSize_77 : decode b_Writer_writeSize 77 = .ok (.istore 4, 2) := by decide +kernel
theorem d_Writer_writeSize_79 : decode b_Writer_writeSize 79 = .ok (.aload_n 0, 1) := by decide +kernel
theorem d_Writer_writeSize_80 : decode b_Writer_writeSize 80 = .ok (.bipush 6, 2) := by decide +kernel
theorem d_Writer_writeSize_82 : decode b_Writer_writeSize 82 = .ok (.invokevirtual 63, 3) := by decide +kernel
theorem d_Writer_writeSize_85 : decode b_Writer_writeSize 85 = .ok (.istore 5, 2) := by decide +kernel
theorem d_Writer_writeSize_87 : decode b_Writer_writeSize 87 = .ok (.iload_n 3, 1) := by decide +kernel
theorem d_Writer_writeSize_88 : decode b_Writer_writeSize 88 = .ok (.ifCond .eq 18, 3) := by decide +kernel
theorem d_Writer_writeSize_91 : decode b_Writer_writeSize 91 = .ok (.aload_n 0, 1) := by decide +kernel
theorem d_Writer_writeSize_92 : decode b_Writer_writeSize 92 = .ok (.aload_n 2, 1) := by decide +kernel
theorem d_Writer_writeSize_93 : decode b_Writer_writeSize 93 = .ok (.invokevirtual 99, 3) := by decide +kernel
theorem d_Writer_writeSize_96 : decode b_Writer_writeSize 96 = .ok (.aload_n 2, 1) := by decide +kernel
theorem d_Writer_writeSize_97 : decode b_Writer_writeSize 97 = .ok (.invokevirtual 105, 3) := by decide +kernel
theorem d_Writer_writeSize_100 : decode b_Writer_writeSize 100 = .ok (.invokevirtual 113, 3) := by decide +kernel
theorem d_Writer_writeSize_103 : decode b_Writer_writeSize 103 = .ok (.goto 83, 3) := by decide +kernel
theorem d_Writer_writeSize_106 : decode b_Writer_writeSize 106 = .ok (.aload_n 0, 1) := by decide +kernel
theorem d_Writer_writeSize_107 : decode b_Writer_writeSize 107 = .ok (.invokevirtual 92, 3) := by decide +kernel
theorem d_Writer_writeSize_110 : decode b_Writer_writeSize 110 = .ok (.bipush 102, 2) := by decide +kernel
theorem d_Writer_writeSize_112 : decode b_Writer_writeSize 112 = .ok (.if_icmp .ne 22, 3) := by decide +kernel
theorem d_Writer_writeSize_115 : decode b_Writer_writeSize 115 = .ok (.aload_n 0, 1) := by decide +kernel
theorem d_Writer_writeSize_116 : decode b_Writer_writeSize 116 = .ok (.getfield 34, 3) := by decide +kernel
theorem d_Writer_writeSize_119 : decode b_Writer_writeSize 119 = .ok (.iload 5, 2) := by decide +kernel
theorem d_Writer_writeSize_121 : decode b_Writer_writeSize 121 = .ok (.ineg, 1) := by decide +kernel
theorem d_Writer_writeSize_122 : decode b_Writer_writeSize 122 = .ok (.invokevirtual 116, 3) := by decide +kernel
theorem d_Writer_writeSize_125 : decode b_Writer_writeSize 125 = .ok (.aload_n 0, 1) := by decide +kernel
theorem d_Writer_writeSize_126 : decode b_Writer_writeSize 126 = .ok (.iload 5, 2) := by decide +kernel
theorem d_Writer_writeSize_128 : decode b_Writer_writeSize 128 = .ok (.invokevirtual 120, 3) := by decide +kernel
theorem d_Writer_writeSize_131 : decode b_Writer_writeSize 131 = .ok (.goto 55, 3) := by decide +kernel
theorem d_Writer_writeSize_134 : decode b_Writer_writeSize 134 = .ok (.aload_n 0, 1) := by decide +kernel
theorem d_Writer_writeSize_135 : decode b_Writer_writeSize 135 = .ok (.invokevirtual 92, 3) := by decide +kernel
theorem d_Writer_writeSize_138 : decode b_Writer_writeSize 138 = .ok (.bipush 101, 2) := by decide +kernel
theorem d_Writer_writeSize_140 : decode b_Writer_writeSize 140 = .ok (.if_icmp .ne 29, 3) := by decide +kernel
theorem d_Writer_writeSize_143 : decode b_Writer_writeSize 143 = .ok (.aload_n 0, 1) := by decide +kernel
theorem d_Writer_writeSize_144 : decode b_Writer_writeSize 144 = .ok (.getfield 34, 3) := by decide +kernel
theorem d_Writer_writeSize_147 : decode b_Writer_writeSize 147 = .ok (.aload_n 0, 1) := by decide +kernel
theorem d_Writer_writeSize_148 : decode b_Writer_writeSize 148 = .ok (.getfield 34, 3) := by decide +kernel
theorem d_Writer_writeSize_151 : decode b_Writer_writeSize 151 = .ok (.invokevirtual 123, 3) := by decide +kernel
theorem d_Writer_writeSize_154 : decode b_Writer_writeSize 154 = .ok (.iload 5, 2) := by decide +kernel
theorem d_Writer_writeSize_156 : decode b_Writer_writeSize 156 = .ok (.isub, 1) := by decide +kernel
theorem d_Writer_writeSize_157 : decode b_Writer_writeSize 157 = .ok (.invokevirtual 116, 3) := by decide +kernel
theorem d_Writer_writeSize_160 : decode b_Writer_writeSize 160 = .ok (.aload_n 0, 1) := by decide +kernel
theorem d_Writer_writeSize_161 : decode b_Writer_writeSize 161 = .ok (.iload 5, 2) := by decide +kernel
theorem d_Writer_writeSize_163 : decode b_Writer_writeSize 163 = .ok (.invokevirtual 126, 3) := by decide +kernel
theorem d_Writer_writeSize_166 : decode b_Writer_writeSize 166 = .ok (.goto 20, 3) := by decide +kernel
theorem d_Writer_writeSize_169 : decode b_Writer_writeSize 169 = .ok (.aload_n 0, 1) := by decide +kernel
theorem d_Writer_writeSize_170 : decode b_Writer_writeSize 170 = .ok (.iload 5, 2) := by decide +kernel
theorem d_Writer_writeSize_172 : decode b_Writer_writeSize 172 = .ok (.ifCond .le 10, 3) := by decide +kernel
theorem d_Writer_writeSize_175 : decode b_Writer_writeSize 175 = .ok (.iload 5, 2) := by decide +kernel
theorem d_Writer_writeSize_177 : decode b_Writer_writeSize 177 = .ok (.iconst 1, 1) := by decide +kernel
theorem d_Writer_writeSize_178 : decode b_Writer_writeSize 178 = .ok (.isub, 1) := by decide +kernel
theorem d_Writer_writeSize_179 : decode b_Writer_writeSize 179 = .ok (.goto 4, 3) := by decide +kernel
theorem d_Writer_writeSize_182 : decode b_Writer_writeSize 182 = .ok (.iconst 0, 1) := by decide +kernel
theorem d_Writer_writeSize_183 : decode b_Writer_writeSize 183 = .ok (.invokevirtual 129, 3) := by decide +kernel
theorem d_Writer_writeSize_186 : decode b_Writer_writeSize 186 = .ok (.aload_n 0, 1) := by decide +kernel
theorem d_Writer_writeSize_187 : decode b_Writer_writeSize 187 = .ok (.iload 4, 2) := by decide +kernel
theorem d_Writer_writeSize_189 : decode b_Writer_writeSize 189 = .ok (.iconst 1, 1) := by decide +kernel
theorem d_Writer_writeSize_190 : decode b_Writer_writeSize 190 = .ok (.invokevirtual 55, 3) := by decide +kernel
theorem d_Writer_writeSize_193 : decode b_Writer_writeSize 193 = .ok (.return_, 1) := by decide +kernel
theorem d_N_writeAsReal_0 : decode b_N_writeAsReal 0 = .ok (.aload_n 0, 1) := by decide +kernel
theorem d_N_writeAsReal_1 : decode b_N_writeAsReal 1 = .ok (.getfield 61, 3) := by decide +kernel
theorem d_N_writeAsReal_4 : decode b_N_writeAsReal 4 = .ok (.iconst 5, 1) := by decide +kernel
theorem d_N_writeAsReal_5 : decode b_N_writeAsReal 5 = .ok (.if_icmp .ne 18, 3) := by decide +kernel
theorem d_N_writeAsReal_8 : decode b_N_writeAsReal 8 = .ok (.aload_n 0, 1) := by decide +kernel
theorem d_N_writeAsReal_9 : decode b_N_writeAsReal 9 = .ok (.getfield 57, 3) := by decide +kernel
theorem d_N_writeAsReal_12 : decode b_N_writeAsReal 12 = .ok (.ldc 181, 2) := by decide +kernel
theorem d_N_writeAsReal_14 : decode b_N_writeAsReal 14 = .ok (.ldc 183, 2) := by decide +kernel
theorem d_N_writeAsReal_16 : decode b_N_writeAsReal 16 = .ok (.iconst 0, 1) := by decide +kernel
theorem d_N_writeAsReal_17 : decode b_N_writeAsReal 17 = .ok (.invokevirtual 185, 3) := by decide +kernel
theorem d_N_writeAsReal_20 : decode b_N_writeAsReal 20 = .ok (.goto 75, 3) := by decide +kernel
theorem d_N_writeAsReal_23 : decode b_N_writeAsReal 23 = .ok (.aload_n 0, 1) := by decide +kernel
theorem d_N_writeAsReal_24 : decode b_N_writeAsReal 24 = .ok (.getfield 61, 3) := by decide +kernel
theorem d_N_writeAsReal_27 : decode b_N_writeAsReal 27 = .ok (.iconst 3, 1) := by decide +kernel
theorem d_N_writeAsReal_28 : decode b_N_writeAsReal 28 = .ok (.if_icmp .eq 11, 3) := by decide +kernel
theorem d_N_writeAsReal_31 : decode b_N_writeAsReal 31 = .ok (.aload_n 0, 1) := by decide +kernel
theorem d_N_writeAsReal_32 : decode b_N_writeAsReal 32 = .ok (.getfield 61, 3) := by decide +kernel
theorem d_N_writeAsReal_35 : decode b_N_writeAsReal 35 = .ok (.iconst 4, 1) := by decide +kernel
theorem d_N_writeAsReal_36 : decode b_N_writeAsReal 36 = .ok (.if_icmp .ne 30, 3) := by decide +kernel
theorem d_N_writeAsReal_39 : decode b_N_writeAsReal 39 = .ok (.aload_n 0, 1) := by decide +kernel
theorem d_N_writeAsReal_40 : decode b_N_writeAsReal 40 = .ok (.getfield 57, 3) := by decide +kernel
theorem d_N_writeAsReal_43 : decode b_N_writeAsReal 43 = .ok (.ldc 189, 2) := by decide +kernel
theorem d_N_writeAsReal_45 : decode b_N_writeAsReal 45 = .ok (.ldc 191, 2) := by decide +kernel
theorem d_N_writeAsReal_47 : decode b_N_writeAsReal 47 = .ok (.aload_n 0, 1) := by decide +kernel
theorem d_N_writeAsReal_48 : decode b_N_writeAsReal 48 = .ok (.getfield 61, 3) := by decide +kernel
theorem d_N_writeAsReal_51 : decode b_N_writeAsReal 51 = .ok (.iconst 4, 1) := by decide +kernel
theorem d_N_writeAsReal_52 : decode b_N_writeAsReal 52 = .ok (.if_icmp .ne 7, 3) := by decide +kernel
theorem d_N_writeAsReal_55 : decode b_N_writeAsReal 55 = .ok (.iconst 1, 1) := by decide +kernel
theorem d_N_writeAsReal_56 : decode b_N_writeAsReal 56 = .ok (.goto 4, 3) := by decide +kernel
theorem d_N_writeAsReal_59 : decode b_N_writeAsReal 59 = .ok (.iconst 0, 1) := by decide +kernel
theorem d_N_writeAsReal_60 : decode b_N_writeAsReal 60 = .ok (.invokevirtual 185, 3) := by decide +kernel
theorem d_N_writeAsReal_63 : decode b_N_writeAsReal 63 = .ok (.goto 32, 3) := by decide +kernel
theorem d_N_writeAsReal_66 : decode b_N_writeAsReal 66 = .ok (.aload_n 0, 1) := by decide +kernel
theorem d_N_writeAsReal_67 : decode b_N_writeAsReal 67 = .ok (.invokevirtual 145, 3) := by decide +kernel
theorem d_N_writeAsReal_70 : decode b_N_writeAsReal 70 = .ok (.aload_n 0, 1) := by decide +kernel
theorem d_N_writeAsReal_71 : decode b_N_writeAsReal 71 = .ok (.getfield 57, 3) := by decide +kernel
theorem d_N_writeAsReal_74 : decode b_N_writeAsReal 74 = .ok (.aload_n 0, 1) := by decide +kernel
theorem d_N_writeAsReal_75 : decode b_N_writeAsReal 75 = .ok (.getfield 65, 3) := by decide +kernel
theorem d_N_writeAsReal_78 : decode b_N_writeAsReal 78 = .ok (.lconst 0, 1) := by decide +kernel
theorem d_N_writeAsReal_79 : decode b_N_writeAsReal 79 = .ok (.lcmp, 1) := by decide +kernel
theorem d_N_writeAsReal_80 : decode b_N_writeAsReal 80 = .ok (.ifCond .ge 7, 3) := by decide +kernel
theorem d_N_writeAsReal_83 : decode b_N_writeAsReal 83 = .ok (.iconst 1, 1) := by decide +kernel
theorem d_N_writeAsReal_84 : decode b_N_writeAsReal 84 = .ok (.goto 4, 3) := by decide +kernel
theorem d_N_writeAsReal_87 : decode b_N_writeAsReal 87 = .ok (.iconst 0, 1) := by decide +kernel
theorem d_N_writeAsReal_88 : decode b_N_writeAsReal 88 = .ok (.aload_n 0, 1) := by decide +kernel
theorem d_N_writeAsReal_89 : decode b_N_writeAsReal 89 = .ok (.getfield 38, 3) := by decide +kernel
theorem d_N_writeAsReal_92 : decode b_N_writeAsReal 92 = .ok (.invokevirtual 151, 3) := by decide +kernel
theorem d_N_writeAsReal_95 : decode b_N_writeAsReal 95 = .ok (.return_, 1) := by decide +kernel
theorem d_Page_holds_0 : decode b_Page_holds 0 = .ok (.iconst 0, 1) := by decide +kernel
theorem d_Page_holds_1 : decode b_Page_holds 1 = .ok (.istore_n 2, 1) := by decide +kernel
theorem d_Page_holds_2 : decode b_Page_holds 2 = .ok (.iload_n 2, 1) := by decide +kernel
theorem d_Page_holds_3 : decode b_Page_holds 3 = .ok (.aload_n 0, 1) := by decide +kernel
theorem d_Page_holds_4 : decode b_Page_holds 4 = .ok (.getfield 15, 3) := by decide +kernel
theorem d_Page_holds_7 : decode b_Page_holds 7 = .ok (.if_icmp .ge 20, 3) := by decide +kernel
theorem d_Page_holds_10 : decode b_Page_holds 10 = .ok (.aload_n 0, 1) := by decide +kernel
theorem d_Page_holds_11 : decode b_Page_holds 11 = .ok (.iload_n 2, 1) := by decide +kernel
theorem d_Page_holds_12 : decode b_Page_holds 12 = .ok (.invokevirtual 32, 3) := by decide +kernel
theorem d_Page_holds_15 : decode b_Page_holds 15 = .ok (.iload_n 1, 1) := by decide +kernel
theorem d_Page_holds_16 : decode b_Page_holds 16 = .ok (.if_icmp .ne 5, 3) := by decide +kernel
theorem d_Page_holds_19 : decode b_Page_holds 19 = .ok (.iconst 1, 1) := by decide +kernel
theorem d_Page_holds_20 : decode b_Page_holds 20 = .ok (.ireturn, 1) := by decide +kernel
theorem d_Page_holds_21 : decode b_Page_holds 21 = .ok (.iinc 2 1, 3) := by decide +kernel
theorem d_Page_holds_24 : decode b_Page_holds 24 = .ok (.goto (-22), 3) := by decide +kernel
theorem d_Page_holds_27 : decode b_Page_holds 27 = .ok (.iconst 0, 1) := by decide +kernel
theorem d_Page_holds_28 : decode b_Page_holds 28 = .ok (.ireturn, 1) := by decide +kernel
theorem d_N_plain_0 : decode b_N_plain 0 = .ok (.aload_n 0, 1) := by decide +kernel
theorem d_N_plain_1 : decode b_N_plain 1 = .ok (.getfield 61, 3) := by decide +kernel
theorem d_N_plain_4 : decode b_N_plain 4 = .ok (.iconst 1, 1) := by decide +kernel
theorem d_N_plain_5 : decode b_N_plain 5 = .ok (.if_icmp .ne 34, 3) := by decide +kernel
theorem d_N_plain_8 : decode b_N_plain 8 = .ok (.aload_n 0, 1) := by decide +kernel
theorem d_N_plain_9 : decode b_N_plain 9 = .ok (.getfield 57, 3) := by decide +kernel
theorem d_N_plain_12 : decode b_N_plain 12 = .ok (.bipush 100, 2) := by decide +kernel
theorem d_N_plain_14 : decode b_N_plain 14 = .ok (.iconst 0, 1) := by decide +kernel
theorem d_N_plain_15 : decode b_N_plain 15 = .ok (.iconst 0, 1) := by decide +kernel
theorem d_N_plain_16 : decode b_N_plain 16 = .ok (.iconst (-1), 1) := by decide +kernel
theorem d_N_plain_17 : decode b_N_plain 17 = .ok (.invokevirtual 109, 3) := by decide +kernel
theorem d_N_plain_20 : decode b_N_plain 20 = .ok (.aload_n 0, 1) := by decide +kernel
theorem d_N_plain_21 : decode b_N_plain 21 = .ok (.getfield 57, 3) := by decide +kernel
theorem d_N_plain_24 : decode b_N_plain 24 = .ok (.aload_n 0, 1) := by decide +kernel
theorem d_N_plain_25 : decode b_N_plain 25 = .ok (.getfield 65, 3) := by decide +kernel
theorem d_N_plain_28 : decode b_N_plain 28 = .ok (.invokevirtual 113, 3) := by decide +kernel
theorem d_N_plain_31 : decode b_N_plain 31 = .ok (.aload_n 0, 1) := by decide +kernel
theorem d_N_plain_32 : decode b_N_plain 32 = .ok (.getfield 48, 3) := by decide +kernel
theorem d_N_plain_35 : decode b_N_plain 35 = .ok (.invokevirtual 117, 3) := by decide +kernel
theorem d_N_plain_38 : decode b_N_plain 38 = .ok (.ireturn, 1) := by decide +kernel
theorem d_N_plain_39 : decode b_N_plain 39 = .ok (.aload_n 0, 1) := by decide +kernel
theorem d_N_plain_40 : decode b_N_plain 40 = .ok (.getfield 57, 3) := by decide +kernel
theorem d_N_plain_43 : decode b_N_plain 43 = .ok (.bipush 103, 2) := by decide +kernel
theorem d_N_plain_45 : decode b_N_plain 45 = .ok (.iconst 0, 1) := by decide +kernel
theorem d_N_plain_46 : decode b_N_plain 46 = .ok (.iconst 0, 1) := by decide +kernel
theorem d_N_plain_47 : decode b_N_plain 47 = .ok (.bipush 14, 2) := by decide +kernel
theorem d_N_plain_49 : decode b_N_plain 49 = .ok (.invokevirtual 109, 3) := by decide +kernel
theorem d_N_plain_52 : decode b_N_plain 52 = .ok (.aload_n 0, 1) := by decide +kernel
theorem d_N_plain_53 : decode b_N_plain 53 = .ok (.invokevirtual 118, 3) := by decide +kernel
theorem d_N_plain_56 : decode b_N_plain 56 = .ok (.aload_n 0, 1) := by decide +kernel
theorem d_N_plain_57 : decode b_N_plain 57 = .ok (.getfield 61, 3) := by decide +kernel
theorem d_N_plain_60 : decode b_N_plain 60 = .ok (.iconst 2, 1) := by decide +kernel
theorem d_N_plain_61 : decode b_N_plain 61 = .ok (.if_icmp .ne 36, 3) := by decide +kernel
theorem d_N_plain_64 : decode b_N_plain 64 = .ok (.aload_n 0, 1) := by decide +kernel
theorem d_N_plain_65 : decode b_N_plain 65 = .ok (.getfield 48, 3) := by decide +kernel
theorem d_N_plain_68 : decode b_N_plain 68 = .ok (.bipush 46, 2) := by decide +kernel
theorem d_N_plain_70 : decode b_N_plain 70 = .ok (.invokevirtual 121, 3) := by decide +kernel
theorem d_N_plain_73 : decode b_N_plain 73 = .ok (.ifCond .ne 24, 3) := by decide +kernel
theorem d_N_plain_76 : decode b_N_plain 76 = .ok (.aload_n 0, 1) := by decide +kernel
theorem d_N_plain_77 : decode b_N_plain 77 = .ok (.getfield 48, 3) := by decide +kernel
theorem d_N_plain_80 : decode b_N_plain 80 = .ok (.bipush 101, 2) := by decide +kernel
theorem d_N_plain_82 : decode b_N_plain 82 = .ok (.invokevirtual 121, 3) := by decide +kernel
theorem d_N_plain_85 : decode b_N_plain 85 = .ok (.ifCond .ne 12, 3) := by decide +kernel
theorem d_N_plain_88 : decode b_N_plain 88 = .ok (.aload_n 0, 1) := by decide +kernel
theorem d_N_plain_89 : decode b_N_plain 89 = .ok (.getfield 48, 3) := by decide +kernel
theorem d_N_plain_92 : decode b_N_plain 92 = .ok (.ldc 124, 2) := by decide +kernel
theorem d_N_plain_94 : decode b_N_plain 94 = .ok (.invokevirtual 126, 3) := by decide +kernel
theorem d_N_plain_97 : decode b_N_plain 97 = .ok (.aload_n 0, 1) := by decide +kernel
theorem d_N_plain_98 : decode b_N_plain 98 = .ok (.getfield 48, 3) := by decide +kernel
theorem d_N_plain_101 : decode b_N_plain 101 = .ok (.invokevirtual 117, 3) := by decide +kernel
theorem d_N_plain_104 : decode b_N_plain 104 = .ok (.ireturn, 1) := by decide +kernel
theorem d_N_isLetterOfWholes_0 : decode b_N_isLetterOfWholes 0 = .ok (.iload_n 0, 1) := by decide +kernel
theorem d_N_isLetterOfWholes_1 : decode b_N_isLetterOfWholes 1 = .ok (.bipush 100, 2) := by decide +kernel
theorem d_N_isLetterOfWholes_3 : decode b_N_isLetterOfWholes 3 = .ok (.if_icmp .eq 21, 3) := by decide +kernel
theorem d_N_isLetterOfWholes_6 : decode b_N_isLetterOfWholes 6 = .ok (.iload_n 0, 1) := by decide +kernel
theorem d_N_isLetterOfWholes_7 : decode b_N_isLetterOfWholes 7 = .ok (.bipush 120, 2) := by decide +kernel
theorem d_N_isLetterOfWholes_9 : decode b_N_isLetterOfWholes 9 = .ok (.if_icmp .eq 15, 3) := by decide +kernel
theorem d_N_isLetterOfWholes_12 : decode b_N_isLetterOfWholes 12 = .ok (.iload_n 0, 1) := by decide +kernel
theorem d_N_isLetterOfWholes_13 : decode b_N_isLetterOfWholes 13 = .ok (.bipush 88, 2) := by decide +kernel
theorem d_N_isLetterOfWholes_15 : decode b_N_isLetterOfWholes 15 = .ok (.if_icmp .eq 9, 3) := by decide +kernel
theorem d_N_isLetterOfWholes_18 : decode b_N_isLetterOfWholes 18 = .ok (.iload_n 0, 1) := by decide +kernel
theorem d_N_isLetterOfWholes_19 : decode b_N_isLetterOfWholes 19 = .ok (.bipush 111, 2) := by decide +kernel
theorem d_N_isLetterOfWholes_21 : decode b_N_isLetterOfWholes 21 = .ok (.if_icmp .ne 7, 3) := by decide +kernel
theorem d_N_isLetterOfWholes_24 : decode b_N_isLetterOfWholes 24 = .ok (.iconst 1, 1) := by decide +kernel
theorem d_N_isLetterOfWholes_25 : decode b_N_isLetterOfWholes 25 = .ok (.goto 4, 3) := by decide +kernel
theorem d_N_isLetterOfWholes_28 : decode b_N_isLetterOfWholes 28 = .ok (.iconst 0, 1) := by decide +kernel
theorem d_N_isLetterOfWholes_29 : decode b_N_isLetterOfWholes 29 = .ok (.ireturn, 1) := by decide +kernel
theorem d_N_isLetterOfReals_0 : decode b_N_isLetterOfReals 0 = .ok (.iload_n 0, 1) := by decide +kernel
theorem d_N_isLetterOfReals_1 : decode b_N_isLetterOfReals 1 = .ok (.bipush 65, 2) := by decide +kernel
theorem d_N_isLetterOfReals_3 : decode b_N_isLetterOfReals 3 = .ok (.if_icmp .lt 19, 3) := by decide +kernel
theorem d_N_isLetterOfReals_6 : decode b_N_isLetterOfReals 6 = .ok (.iload_n 0, 1) := by decide +kernel
theorem d_N_isLetterOfReals_7 : decode b_N_isLetterOfReals 7 = .ok (.bipush 90, 2) := by decide +kernel
theorem d_N_isLetterOfReals_9 : decode b_N_isLetterOfReals 9 = .ok (.if_icmp .gt 13, 3) := by decide +kernel
theorem d_N_isLetterOfReals_12 : decode b_N_isLetterOfReals 12 = .ok (.iload_n 0, 1) := by decide +kernel
theorem d_N_isLetterOfReals_13 : decode b_N_isLetterOfReals 13 = .ok (.bipush 65, 2) := by decide +kernel
theorem d_N_isLetterOfReals_15 : decode b_N_isLetterOfReals 15 = .ok (.isub, 1) := by decide +kernel
theorem d_N_isLetterOfReals_16 : decode b_N_isLetterOfReals 16 = .ok (.bipush 97, 2) := by decide +kernel
theorem d_N_isLetterOfReals_18 : decode b_N_isLetterOfReals 18 = .ok (.iadd, 1) := by decide +kernel
theorem d_N_isLetterOfReals_19 : decode b_N_isLetterOfReals 19 = .ok (.goto 4, 3) := by decide +kernel
theorem d_N_isLetterOfReals_22 : decode b_N_isLetterOfReals 22 = .ok (.iload_n 0, 1) := by decide +kernel
theorem d_N_isLetterOfReals_23 : decode b_N_isLetterOfReals 23 = .ok (.istore_n 1, 1) := by decide +kernel
theorem d_N_isLetterOfReals_24 : decode b_N_isLetterOfReals 24 = .ok (.iload_n 1, 1) := by decide +kernel
theorem d_N_isLetterOfReals_25 : decode b_N_isLetterOfReals 25 = .ok (.bipush 97, 2) := by decide +kernel
theorem d_N_isLetterOfReals_27 : decode b_N_isLetterOfReals 27 = .ok (.if_icmp .eq 15, 3) := by decide +kernel
theorem d_N_isLetterOfReals_30 : decode b_N_isLetterOfReals 30 = .ok (.iload_n 1, 1) := by decide +kernel
theorem d_N_isLetterOfReals_31 : decode b_N_isLetterOfReals 31 = .ok (.bipush 101, 2) := by decide +kernel
theorem d_N_isLetterOfReals_33 : decode b_N_isLetterOfReals 33 = .ok (.if_icmp .lt 13, 3) := by decide +kernel
theorem d_N_isLetterOfReals_36 : decode b_N_isLetterOfReals 36 = .ok (.iload_n 1, 1) := by decide +kernel
theorem d_N_isLetterOfReals_37 : decode b_N_isLetterOfReals 37 = .ok (.bipush 103, 2) := by decide +kernel
theorem d_N_isLetterOfReals_39 : decode b_N_isLetterOfReals 39 = .ok (.if_icmp .gt 7, 3) := by decide +kernel
theorem d_N_isLetterOfReals_42 : decode b_N_isLetterOfReals 42 = .ok (.iconst 1, 1) := by decide +kernel
theorem d_N_isLetterOfReals_43 : decode b_N_isLetterOfReals 43 = .ok (.goto 4, 3) := by decide +kernel
theorem d_N_isLetterOfReals_46 : decode b_N_isLetterOfReals 46 = .ok (.iconst 0, 1) := by decide +kernel
theorem d_N_isLetterOfReals_47 : decode b_N_isLetterOfReals 47 = .ok (.ireturn, 1) := by decide +kernel
