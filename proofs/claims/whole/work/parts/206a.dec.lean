theorem d_M_wholeDigits_0 : decode b_M_wholeDigits 0 = .ok (.iconst 0, 1) := by decide +kernel
theorem d_M_wholeDigits_1 : decode b_M_wholeDigits 1 = .ok (.istore 4, 2) := by decide +kernel
theorem d_M_wholeDigits_3 : decode b_M_wholeDigits 3 = .ok (.aload_n 0, 1) := by decide +kernel
theorem d_M_wholeDigits_4 : decode b_M_wholeDigits 4 = .ok (.getfield 45, 3) := by decide +kernel
theorem d_M_wholeDigits_7 : decode b_M_wholeDigits 7 = .ok (.lstore 5, 2) := by decide +kernel
theorem d_M_wholeDigits_9 : decode b_M_wholeDigits 9 = .ok (.aload_n 0, 1) := by decide +kernel
theorem d_M_wholeDigits_10 : decode b_M_wholeDigits 10 = .ok (.getfield 222, 3) := by decide +kernel
theorem d_M_wholeDigits_13 : decode b_M_wholeDigits 13 = .ok (.istore 7, 2) := by decide +kernel
theorem d_M_wholeDigits_15 : decode b_M_wholeDigits 15 = .ok (.lload 5, 2) := by decide +kernel
theorem d_M_wholeDigits_17 : decode b_M_wholeDigits 17 = .ok (.lconst 0, 1) := by decide +kernel
theorem d_M_wholeDigits_18 : decode b_M_wholeDigits 18 = .ok (.lcmp, 1) := by decide +kernel
theorem d_M_wholeDigits_19 : decode b_M_wholeDigits 19 = .ok (.ifCond .eq 87, 3) := by decide +kernel
theorem d_M_wholeDigits_22 : decode b_M_wholeDigits 22 = .ok (.iload_n 1, 1) := by decide +kernel
theorem d_M_wholeDigits_23 : decode b_M_wholeDigits 23 = .ok (.bipush 10, 2) := by decide +kernel
theorem d_M_wholeDigits_25 : decode b_M_wholeDigits 25 = .ok (.if_icmp .ne 13, 3) := by decide +kernel
theorem d_M_wholeDigits_28 : decode b_M_wholeDigits 28 = .ok (.lload 5, 2) := by decide +kernel
theorem d_M_wholeDigits_30 : decode b_M_wholeDigits 30 = .ok (.ldc2_w 154, 3) := by decide +kernel
theorem d_M_wholeDigits_33 : decode b_M_wholeDigits 33 = .ok (.lrem, 1) := by decide +kernel
theorem d_M_wholeDigits_34 : decode b_M_wholeDigits 34 = .ok (.l2i, 1) := by decide +kernel
theorem d_M_wholeDigits_35 : decode b_M_wholeDigits 35 = .ok (.goto 11, 3) := by decide +kernel
theorem d_M_wholeDigits_38 : decode b_M_wholeDigits 38 = .ok (.lload 5, 2) := by decide +kernel
theorem d_M_wholeDigits_40 : decode b_M_wholeDigits 40 = .ok (.iload_n 1, 1) := by decide +kernel
theorem d_M_wholeDigits_41 : decode b_M_wholeDigits 41 = .ok (.i2l, 1) := by decide +kernel
theorem d_M_wholeDigits_42 : decode b_M_wholeDigits 42 = .ok (.lconst 1, 1) := by decide +kernel
theorem d_M_wholeDigits_43 : decode b_M_wholeDigits 43 = .ok (.lsub, 1) := by decide +kernel
theorem d_M_wholeDigits_44 : decode b_M_wholeDigits 44 = .ok (.land, 1) := by decide +kernel
theorem d_M_wholeDigits_45 : decode b_M_wholeDigits 45 = .ok (.l2i, 1) := by decide +kernel
theorem d_M_wholeDigits_46 : decode b_M_wholeDigits 46 = .ok (.istore 8, 2) := by decide +kernel
theorem d_M_wholeDigits_48 : decode b_M_wholeDigits 48 = .ok (.aload_n 0, 1) := by decide +kernel
theorem d_M_wholeDigits_49 : decode b_M_wholeDigits 49 = .ok (.iload 8, 2) := by decide +kernel
theorem d_M_wholeDigits_51 : decode b_M_wholeDigits 51 = .ok (.ifCond .ge 9, 3) := by decide +kernel
theorem d_M_wholeDigits_54 : decode b_M_wholeDigits 54 = .ok (.iload 8, 2) := by decide +kernel
theorem d_M_wholeDigits_56 : decode b_M_wholeDigits 56 = .ok (.ineg, 1) := by decide +kernel
theorem d_M_wholeDigits_57 : decode b_M_wholeDigits 57 = .ok (.goto 5, 3) := by decide +kernel
theorem d_M_wholeDigits_60 : decode b_M_wholeDigits 60 = .ok (.iload 8, 2) := by decide +kernel
theorem d_M_wholeDigits_62 : decode b_M_wholeDigits 62 = .ok (.iload_n 2, 1) := by decide +kernel
theorem d_M_wholeDigits_63 : decode b_M_wholeDigits 63 = .ok (.invokestatic 253, 3) := by decide +kernel
theorem d_M_wholeDigits_66 : decode b_M_wholeDigits 66 = .ok (.invokevirtual 225, 3) := by decide +kernel
theorem d_M_wholeDigits_69 : decode b_M_wholeDigits 69 = .ok (.iload_n 1, 1) := by decide +kernel
theorem d_M_wholeDigits_70 : decode b_M_wholeDigits 70 = .ok (.bipush 10, 2) := by decide +kernel
theorem d_M_wholeDigits_72 : decode b_M_wholeDigits 72 = .ok (.if_icmp .ne 12, 3) := by decide +kernel
theorem d_M_wholeDigits_75 : decode b_M_wholeDigits 75 = .ok (.lload 5, 2) := by decide +kernel
theorem d_M_wholeDigits_77 : decode b_M_wholeDigits 77 = .ok (.ldc2_w 154, 3) := by decide +kernel
theorem d_M_wholeDigits_80 : decode b_M_wholeDigits 80 = .ok (.ldiv, 1) := by decide +kernel
theorem d_M_wholeDigits_81 : decode b_M_wholeDigits 81 = .ok (.goto 17, 3) := by decide +kernel
theorem d_M_wholeDigits_84 : decode b_M_wholeDigits 84 = .ok (.lload 5, 2) := by decide +kernel
theorem d_M_wholeDigits_86 : decode b_M_wholeDigits 86 = .ok (.iload_n 1, 1) := by decide +kernel
theorem d_M_wholeDigits_87 : decode b_M_wholeDigits 87 = .ok (.bipush 8, 2) := by decide +kernel
theorem d_M_wholeDigits_89 : decode b_M_wholeDigits 89 = .ok (.if_icmp .ne 7, 3) := by decide +kernel
theorem d_M_wholeDigits_92 : decode b_M_wholeDigits 92 = .ok (.iconst 3, 1) := by decide +kernel
theorem d_M_wholeDigits_93 : decode b_M_wholeDigits 93 = .ok (.goto 4, 3) := by decide +kernel
theorem d_M_wholeDigits_96 : decode b_M_wholeDigits 96 = .ok (.iconst 4, 1) := by decide +kernel
theorem d_M_wholeDigits_97 : decode b_M_wholeDigits 97 = .ok (.lushr, 1) := by decide +kernel
theorem d_M_wholeDigits_98 : decode b_M_wholeDigits 98 = .ok (.lstore 5, 2) := by decide +kernel
theorem d_M_wholeDigits_100 : decode b_M_wholeDigits 100 = .ok (.iinc 4 1, 3) := by decide +kernel
theorem d_M_wholeDigits_103 : decode b_M_wholeDigits 103 = .ok (.goto (-88), 3) := by decide +kernel
theorem d_M_wholeDigits_106 : decode b_M_wholeDigits 106 = .ok (.iload 4, 2) := by decide +kernel
theorem d_M_wholeDigits_108 : decode b_M_wholeDigits 108 = .ok (.iload_n 3, 1) := by decide +kernel
theorem d_M_wholeDigits_109 : decode b_M_wholeDigits 109 = .ok (.if_icmp .ge 15, 3) := by decide +kernel
theorem d_M_wholeDigits_112 : decode b_M_wholeDigits 112 = .ok (.aload_n 0, 1) := by decide +kernel
theorem d_M_wholeDigits_113 : decode b_M_wholeDigits 113 = .ok (.bipush 48, 2) := by decide +kernel
theorem d_M_wholeDigits_115 : decode b_M_wholeDigits 115 = .ok (.invokevirtual 225, 3) := by decide +kernel
theorem d_M_wholeDigits_118 : decode b_M_wholeDigits 118 = .ok (.iinc 4 1, 3) := by decide +kernel
theorem d_M_wholeDigits_121 : decode b_M_wholeDigits 121 = .ok (.goto (-15), 3) := by decide +kernel
theorem d_M_wholeDigits_124 : decode b_M_wholeDigits 124 = .ok (.iconst 0, 1) := by decide +kernel
theorem d_M_wholeDigits_125 : decode b_M_wholeDigits 125 = .ok (.istore 8, 2) := by decide +kernel
theorem d_M_wholeDigits_127 : decode b_M_wholeDigits 127 = .ok (.iload 8, 2) := by decide +kernel
theorem d_M_wholeDigits_129 : decode b_M_wholeDigits 129 = .ok (.iload 4, 2) := by decide +kernel
theorem d_M_wholeDigits_131 : decode b_M_wholeDigits 131 = .ok (.iconst 2, 1) := by decide +kernel
theorem d_M_wholeDigits_132 : decode b_M_wholeDigits 132 = .ok (.idiv, 1) := by decide +kernel
theorem d_M_wholeDigits_133 : decode b_M_wholeDigits 133 = .ok (.if_icmp .ge 63, 3) := by decide +kernel
theorem d_M_wholeDigits_136 : decode b_M_wholeDigits 136 = .ok (.aload_n 0, 1) := by decide +kernel
theorem d_M_wholeDigits_137 : decode b_M_wholeDigits 137 = .ok (.getfield 39, 3) := by decide +kernel
theorem d_M_wholeDigits_140 : decode b_M_wholeDigits 140 = .ok (.iload 7, 2) := by decide +kernel
theorem d_M_wholeDigits_142 : decode b_M_wholeDigits 142 = .ok (.iload 8, 2) := by decide +kernel
theorem d_M_wholeDigits_144 : decode b_M_wholeDigits 144 = .ok (.iadd, 1) := by decide +kernel
theorem d_M_wholeDigits_145 : decode b_M_wholeDigits 145 = .ok (.baload, 1) := by decide +kernel
theorem d_M_wholeDigits_146 : decode b_M_wholeDigits 146 = .ok (.istore 9, 2) := by decide +kernel
theorem d_M_wholeDigits_148 : decode b_M_wholeDigits 148 = .ok (.aload_n 0, 1) := by decide +kernel
theorem d_M_wholeDigits_149 : decode b_M_wholeDigits 149 = .ok (.getfield 39, 3) := by decide +kernel
theorem d_M_wholeDigits_152 : decode b_M_wholeDigits 152 = .ok (.iload 7, 2) := by decide +kernel
theorem d_M_wholeDigits_154 : decode b_M_wholeDigits 154 = .ok (.iload 8, 2) := by decide +kernel
theorem d_M_wholeDigits_156 : decode b_M_wholeDigits 156 = .ok (.iadd, 1) := by decide +kernel
theorem d_M_wholeDigits_157 : decode b_M_wholeDigits 157 = .ok (.aload_n 0, 1) := by decide +kernel
theorem d_M_wholeDigits_158 : decode b_M_wholeDigits 158 = .ok (.getfield 39, 3) := by decide +kernel
theorem d_M_wholeDigits_161 : decode b_M_wholeDigits 161 = .ok (.iload 7, 2) := by decide +kernel
theorem d_M_wholeDigits_163 : decode b_M_wholeDigits 163 = .ok (.iload 4, 2) := by decide +kernel
theorem d_M_wholeDigits_165 : decode b_M_wholeDigits 165 = .ok (.iadd, 1) := by decide +kernel
theorem d_M_wholeDigits_166 : decode b_M_wholeDigits 166 = .ok (.iconst 1, 1) := by decide +kernel
theorem d_M_wholeDigits_167 : decode b_M_wholeDigits 167 = .ok (.isub, 1) := by decide +kernel
theorem d_M_wholeDigits_168 : decode b_M_wholeDigits 168 = .ok (.iload 8, 2) := by decide +kernel
theorem d_M_wholeDigits_170 : decode b_M_wholeDigits 170 = .ok (.isub, 1) := by decide +kernel
theorem d_M_wholeDigits_171 : decode b_M_wholeDigits 171 = .ok (.baload, 1) := by decide +kernel
theorem d_M_wholeDigits_172 : decode b_M_wholeDigits 172 = .ok (.bastore, 1) := by decide +kernel
theorem d_M_wholeDigits_173 : decode b_M_wholeDigits 173 = .ok (.aload_n 0, 1) := by decide +kernel
theorem d_M_wholeDigits_174 : decode b_M_wholeDigits 174 = .ok (.getfield 39, 3) := by decide +kernel
theorem d_M_wholeDigits_177 : decode b_M_wholeDigits 177 = .ok (.iload 7, 2) := by decide +kernel
theorem d_M_wholeDigits_179 : decode b_M_wholeDigits 179 = .ok (.iload 4, 2) := by decide +kernel
theorem d_M_wholeDigits_181 : decode b_M_wholeDigits 181 = .ok (.iadd, 1) := by decide +kernel
theorem d_M_wholeDigits_182 : decode b_M_wholeDigits 182 = .ok (.iconst 1, 1) := by decide +kernel
theorem d_M_wholeDigits_183 : decode b_M_wholeDigits 183 = .ok (.isub, 1) := by decide +kernel
theorem d_M_wholeDigits_184 : decode b_M_wholeDigits 184 = .ok (.iload 8, 2) := by decide +kernel
theorem d_M_wholeDigits_186 : decode b_M_wholeDigits 186 = .ok (.isub, 1) := by decide +kernel
theorem d_M_wholeDigits_187 : decode b_M_wholeDigits 187 = .ok (.iload 9, 2) := by decide +kernel
theorem d_M_wholeDigits_189 : decode b_M_wholeDigits 189 = .ok (.bastore, 1) := by decide +kernel
theorem d_M_wholeDigits_190 : decode b_M_wholeDigits 190 = .ok (.iinc 8 1, 3) := by decide +kernel
theorem d_M_wholeDigits_193 : decode b_M_wholeDigits 193 = .ok (.goto (-66), 3) := by decide +kernel
theorem d_M_wholeDigits_196 : decode b_M_wholeDigits 196 = .ok (.return_, 1) := by decide +kernel
theorem d_M_three_0 : decode b_M_three 0 = .ok (.iload 4, 2) := by decide +kernel
theorem d_M_three_2 : decode b_M_three 2 = .ok (.ifCond .eq 8, 3) := by decide +kernel
theorem d_M_three_5 : decode b_M_three 5 = .ok (.bipush 32, 2) := by decide +kernel
theorem d_M_three_7 : decode b_M_three 7 = .ok (.goto 4, 3) := by decide +kernel
theorem d_M_three_10 : decode b_M_three 10 = .ok (.iconst 0, 1) := by decide +kernel
theorem d_M_three_11 : decode b_M_three 11 = .ok (.istore 5, 2) := by decide +kernel
theorem d_M_three_13 : decode b_M_three 13 = .ok (.aload_n 0, 1) := by decide +kernel
theorem d_M_three_14 : decode b_M_three 14 = .ok (.iload_n 1, 1) := by decide +kernel
theorem d_M_three_15 : decode b_M_three 15 = .ok (.iload 5, 2) := by decide +kernel
theorem d_M_three_17 : decode b_M_three 17 = .ok (.isub, 1) := by decide +kernel
theorem d_M_three_18 : decode b_M_three 18 = .ok (.invokevirtual 225, 3) := by decide +kernel
theorem d_M_three_21 : decode b_M_three 21 = .ok (.aload_n 0, 1) := by decide +kernel
theorem d_M_three_22 : decode b_M_three 22 = .ok (.iload_n 2, 1) := by decide +kernel
theorem d_M_three_23 : decode b_M_three 23 = .ok (.iload 5, 2) := by decide +kernel
theorem d_M_three_25 : decode b_M_three 25 = .ok (.isub, 1) := by decide +kernel
theorem d_M_three_26 : decode b_M_three 26 = .ok (.invokevirtual 225, 3) := by decide +kernel
theorem d_M_three_29 : decode b_M_three 29 = .ok (.aload_n 0, 1) := by decide +kernel
theorem d_M_three_30 : decode b_M_three 30 = .ok (.iload_n 3, 1) := by decide +kernel
theorem d_M_three_31 : decode b_M_three 31 = .ok (.iload 5, 2) := by decide +kernel
theorem d_M_three_33 : decode b_M_three 33 = .ok (.isub, 1) := by decide +kernel
theorem d_M_three_34 : decode b_M_three 34 = .ok (.invokevirtual 225, 3) := by decide +kernel
theorem d_M_three_37 : decode b_M_three 37 = .ok (.return_, 1) := by decide +kernel
theorem d_M_write_0 : decode b_M_write 0 = .ok (.aload_n 0, 1) := by decide +kernel
theorem d_M_write_1 : decode b_M_write 1 = .ok (.getfield 36, 3) := by decide +kernel
theorem d_M_write_4 : decode b_M_write 4 = .ok (.aload_n 0, 1) := by decide +kernel
theorem d_M_write_5 : decode b_M_write 5 = .ok (.getfield 256, 3) := by decide +kernel
theorem d_M_write_8 : decode b_M_write 8 = .ok (.iload_n 1, 1) := by decide +kernel
theorem d_M_write_9 : decode b_M_write 9 = .ok (.i2b, 1) := by decide +kernel
theorem d_M_write_10 : decode b_M_write 10 = .ok (.bastore, 1) := by decide +kernel
theorem d_M_write_11 : decode b_M_write 11 = .ok (.aload_n 0, 1) := by decide +kernel
theorem d_M_write_12 : decode b_M_write 12 = .ok (.dup, 1) := by decide +kernel
theorem d_M_write_13 : decode b_M_write 13 = .ok (.getfield 256, 3) := by decide +kernel
theorem d_M_write_16 : decode b_M_write 16 = .ok (.iconst 1, 1) := by decide +kernel
theorem d_M_write_17 : decode b_M_write 17 = .ok (.iadd, 1) := by decide +kernel
theorem d_M_write_18 : decode b_M_write 18 = .ok (.putfield 256, 3) := by decide +kernel
theorem d_M_write_21 : decode b_M_write 21 = .ok (.return_, 1) := by decide +kernel
theorem d_M_finish_0 : decode b_M_finish 0 = .ok (.aload_n 0, 1) := by decide +kernel
theorem d_M_finish_1 : decode b_M_finish 1 = .ok (.getfield 222, 3) := by decide +kernel
theorem d_M_finish_4 : decode b_M_finish 4 = .ok (.iload_n 3, 1) := by decide +kernel
theorem d_M_finish_5 : decode b_M_finish 5 = .ok (.ifCond .ne 7, 3) := by decide +kernel
theorem d_M_finish_8 : decode b_M_finish 8 = .ok (.iconst 0, 1) := by decide +kernel
theorem d_M_finish_9 : decode b_M_finish 9 = .ok (.goto 4, 3) := by decide +kernel
theorem d_M_finish_12 : decode b_M_finish 12 = .ok (.iconst 1, 1) := by decide +kernel
theorem d_M_finish_13 : decode b_M_finish 13 = .ok (.iadd, 1) := by decide +kernel
theorem d_M_finish_14 : decode b_M_finish 14 = .ok (.istore 6, 2) := by decide +kernel
theorem d_M_finish_16 : decode b_M_finish 16 = .ok (.iload_n 2, 1) := by decide +kernel
theorem d_M_finish_17 : decode b_M_finish 17 = .ok (.iload 6, 2) := by decide +kernel
theorem d_M_finish_19 : decode b_M_finish 19 = .ok (.if_icmp .le 10, 3) := by decide +kernel
theorem d_M_finish_22 : decode b_M_finish 22 = .ok (.iload_n 2, 1) := by decide +kernel
theorem d_M_finish_23 : decode b_M_finish 23 = .ok (.iload 6, 2) := by decide +kernel
theorem d_M_finish_25 : decode b_M_finish 25 = .ok (.isub, 1) := by decide +kernel
theorem d_M_finish_26 : decode b_M_finish 26 = .ok (.goto 4, 3) := by decide +kernel
theorem d_M_finish_29 : decode b_M_finish 29 = .ok (.iconst 0, 1) := by decide +kernel
theorem d_M_finish_30 : decode b_M_finish 30 = .ok (.istore 7, 2) := by decide +kernel
theorem d_M_finish_32 : decode b_M_finish 32 = .ok (.iload_n 1, 1) := by decide +kernel
theorem d_M_finish_33 : decode b_M_finish 33 = .ok (.iconst 1, 1) := by decide +kernel
theorem d_M_finish_34 : decode b_M_finish 34 = .ok (.iand, 1) := by decide +kernel
theorem d_M_finish_35 : decode b_M_finish 35 = .ok (.iconst 1, 1) := by decide +kernel
theorem d_M_finish_36 : decode b_M_finish 36 = .ok (.if_icmp .ne 7, 3) := by decide +kernel
theorem d_M_finish_39 : decode b_M_finish 39 = .ok (.iconst 1, 1) := by decide +kernel
theorem d_M_finish_40 : decode b_M_finish 40 = .ok (.goto 4, 3) := by decide +kernel
theorem d_M_finish_43 : decode b_M_finish 43 = .ok (.iconst 0, 1) := by decide +kernel
theorem d_M_finish_44 : decode b_M_finish 44 = .ok (.istore 8, 2) := by decide +kernel
theorem d_M_finish_46 : decode b_M_finish 46 = .ok (.aload_n 0, 1) := by decide +kernel
theorem d_M_finish_47 : decode b_M_finish 47 = .ok (.iconst 0, 1) := by decide +kernel
theorem d_M_finish_48 : decode b_M_finish 48 = .ok (.putfield 256, 3) := by decide +kernel
theorem d_M_finish_51 : decode b_M_finish 51 = .ok (.iconst 0, 1) := by decide +kernel
theorem d_M_finish_52 : decode b_M_finish 52 = .ok (.istore 9, 2) := by decide +kernel
theorem d_M_finish_54 : decode b_M_finish 54 = .ok (.iload 9, 2) := by decide +kernel
theorem d_M_finish_56 : decode b_M_finish 56 = .ok (.iload 7, 2) := by decide +kernel
theorem d_M_finish_58 : decode b_M_finish 58 = .ok (.if_icmp .ge 25, 3) := by decide +kernel
theorem d_M_finish_61 : decode b_M_finish 61 = .ok (.iload 8, 2) := by decide +kernel
theorem d_M_finish_63 : decode b_M_finish 63 = .ok (.ifCond .ne 20, 3) := by decide +kernel
theorem d_M_finish_66 : decode b_M_finish 66 = .ok (.iload 5, 2) := by decide +kernel
theorem d_M_finish_68 : decode b_M_finish 68 = .ok (.ifCond .ne 15, 3) := by decide +kernel
theorem d_M_finish_71 : decode b_M_finish 71 = .ok (.aload_n 0, 1) := by decide +kernel
theorem d_M_finish_72 : decode b_M_finish 72 = .ok (.bipush 32, 2) := by decide +kernel
theorem d_M_finish_74 : decode b_M_finish 74 = .ok (.invokevirtual 259, 3) := by decide +kernel
theorem d_M_finish_77 : decode b_M_finish 77 = .ok (.iinc 9 1, 3) := by decide +kernel
theorem d_M_finish_80 : decode b_M_finish 80 = .ok (.goto (-26), 3) := by decide +kernel
theorem d_M_finish_83 : decode b_M_finish 83 = .ok (.iload_n 3, 1) := by decide +kernel
theorem d_M_finish_84 : decode b_M_finish 84 = .ok (.ifCond .eq 8, 3) := by decide +kernel
theorem d_M_finish_87 : decode b_M_finish 87 = .ok (.aload_n 0, 1) := by decide +kernel
theorem d_M_finish_88 : decode b_M_finish 88 = .ok (.iload_n 3, 1) := by decide +kernel
theorem d_M_finish_89 : decode b_M_finish 89 = .ok (.invokevirtual 259, 3) := by decide +kernel
theorem d_M_finish_92 : decode b_M_finish 92 = .ok (.iconst 0, 1) := by decide +kernel
theorem d_M_finish_93 : decode b_M_finish 93 = .ok (.istore 9, 2) := by decide +kernel
theorem d_M_finish_95 : decode b_M_finish 95 = .ok (.iload 9, 2) := by decide +kernel
theorem d_M_finish_97 : decode b_M_finish 97 = .ok (.iload 4, 2) := by decide +kernel
theorem d_M_finish_99 : decode b_M_finish 99 = .ok (.if_icmp .ge 20, 3) := by decide +kernel
theorem d_M_finish_102 : decode b_M_finish 102 = .ok (.aload_n 0, 1) := by decide +kernel
theorem d_M_finish_103 : decode b_M_finish 103 = .ok (.aload_n 0, 1) := by decide +kernel
theorem d_M_finish_104 : decode b_M_finish 104 = .ok (.getfield 39, 3) := by decide +kernel
theorem d_M_finish_107 : decode b_M_finish 107 = .ok (.iload 9, 2) := by decide +kernel
theorem d_M_finish_109 : decode b_M_finish 109 = .ok (.baload, 1) := by decide +kernel
theorem d_M_finish_110 : decode b_M_finish 110 = .ok (.invokevirtual 259, 3) := by decide +kernel
theorem d_M_finish_113 : decode b_M_finish 113 = .ok (.iinc 9 1, 3) := by decide +kernel
theorem d_M_finish_116 : decode b_M_finish 116 = .ok (.goto (-21), 3) := by decide +kernel
theorem d_M_finish_119 : decode b_M_finish 119 = .ok (.iconst 0, 1) := by decide +kernel
theorem d_M_finish_120 : decode b_M_finish 120 = .ok (.istore 9, 2) := by decide +kernel
theorem d_M_finish_122 : decode b_M_finish 122 = .ok (.iload 9, 2) := by decide +kernel
theorem d_M_finish_124 : decode b_M_finish 124 = .ok (.iload 7, 2) := by decide +kernel
theorem d_M_finish_126 : decode b_M_finish 126 = .ok (.if_icmp .ge 25, 3) := by decide +kernel
theorem d_M_finish_129 : decode b_M_finish 129 = .ok (.iload 8, 2) := by decide +kernel
theorem d_M_finish_131 : decode b_M_finish 131 = .ok (.ifCond .ne 20, 3) := by decide +kernel
theorem d_M_finish_134 : decode b_M_finish 134 = .ok (.iload 5, 2) := by decide +kernel
theorem d_M_finish_136 : decode b_M_finish 136 = .ok (.ifCond .eq 15, 3) := by decide +kernel
theorem d_M_finish_139 : decode b_M_finish 139 = .ok (.aload_n 0, 1) := by decide +kernel
theorem d_M_finish_140 : decode b_M_finish 140 = .ok (.bipush 48, 2) := by decide +kernel
theorem d_M_finish_142 : decode b_M_finish 142 = .ok (.invokevirtual 259, 3) := by decide +kernel
theorem d_M_finish_145 : decode b_M_finish 145 = .ok (.iinc 9 1, 3) := by decide +kernel
theorem d_M_finish_148 : decode b_M_finish 148 = .ok (.goto (-26), 3) := by decide +kernel
theorem d_M_finish_151 : decode b_M_finish 151 = .ok (.iload 4, 2) := by decide +kernel
theorem d_M_finish_153 : decode b_M_finish 153 = .ok (.istore 9, 2) := by decide +kernel
theorem d_M_finish_155 : decode b_M_finish 155 = .ok (.iload 9, 2) := by decide +kernel
theorem d_M_finish_157 : decode b_M_finish 157 = .ok (.aload_n 0, 1) := by decide +kernel
theorem d_M_finish_158 : decode b_M_finish 158 = .ok (.getfield 222, 3) := by decide +kernel
theorem d_M_finish_161 : decode b_M_finish 161 = .ok (.if_icmp .ge 20, 3) := by decide +kernel
theorem d_M_finish_164 : decode b_M_finish 164 = .ok (.aload_n 0, 1) := by decide +kernel
theorem d_M_finish_165 : decode b_M_finish 165 = .ok (.aload_n 0, 1) := by decide +kernel
theorem d_M_finish_166 : decode b_M_finish 166 = .ok (.getfield 39, 3) := by decide +kernel
theorem d_M_finish_169 : decode b_M_finish 169 = .ok (.iload 9, 2) := by decide +kernel
theorem d_M_finish_171 : decode b_M_finish 171 = .ok (.baload, 1) := by decide +kernel
theorem d_M_finish_172 : decode b_M_finish 172 = .ok (.invokevirtual 259, 3) := by decide +kernel
theorem d_M_finish_175 : decode b_M_finish 175 = .ok (.iinc 9 1, 3) := by decide +kernel
theorem d_M_finish_178 : decode b_M_finish 178 = .ok (.goto (-23), 3) := by decide +kernel
theorem d_M_finish_181 : decode b_M_finish 181 = .ok (.iconst 0, 1) := by decide +kernel
theorem d_M_finish_182 : decode b_M_finish 182 = .ok (.istore 9, 2) := by decide +kernel
theorem d_M_finish_184 : decode b_M_finish 184 = .ok (.iload 9, 2) := by decide +kernel
theorem d_M_finish_186 : decode b_M_finish 186 = .ok (.iload 7, 2) := by decide +kernel
theorem d_M_finish_188 : decode b_M_finish 188 = .ok (.if_icmp .ge 20, 3) := by decide +kernel
theorem d_M_finish_191 : decode b_M_finish 191 = .ok (.iload 8, 2) := by decide +kernel
theorem d_M_finish_193 : decode b_M_finish 193 = .ok (.ifCond .eq 15, 3) := by decide +kernel
theorem d_M_finish_196 : decode b_M_finish 196 = .ok (.aload_n 0, 1) := by decide +kernel
theorem d_M_finish_197 : decode b_M_finish 197 = .ok (.bipush 32, 2) := by decide +kernel
theorem d_M_finish_199 : decode b_M_finish 199 = .ok (.invokevirtual 259, 3) := by decide +kernel
theorem d_M_finish_202 : decode b_M_finish 202 = .ok (.iinc 9 1, 3) := by decide +kernel
theorem d_M_finish_205 : decode b_M_finish 205 = .ok (.goto (-21), 3) := by decide +kernel
theorem d_M_finish_208 : decode b_M_finish 208 = .ok (.aload_n 0, 1) := by decide +kernel
theorem d_M_finish_209 : decode b_M_finish 209 = .ok (.getfield 256, 3) := by decide +kernel
theorem d_M_finish_212 : decode b_M_finish 212 = .ok (.ireturn, 1) := by decide +kernel
theorem d_M_signOf_0 : decode b_M_signOf 0 = .ok (.iload_n 2, 1) := by decide +kernel
theorem d_M_signOf_1 : decode b_M_signOf 1 = .ok (.ifCond .eq 8, 3) := by decide +kernel
theorem d_M_signOf_4 : decode b_M_signOf 4 = .ok (.bipush 45, 2) := by decide +kernel
theorem d_M_signOf_6 : decode b_M_signOf 6 = .ok (.goto 26, 3) := by decide +kernel
theorem d_M_signOf_9 : decode b_M_signOf 9 = .ok (.iload_n 1, 1) := by decide +kernel
theorem d_M_signOf_10 : decode b_M_signOf 10 = .ok (.iconst 2, 1) := by decide +kernel
theorem d_M_signOf_11 : decode b_M_signOf 11 = .ok (.iand, 1) := by decide +kernel
theorem d_M_signOf_12 : decode b_M_signOf 12 = .ok (.ifCond .eq 8, 3) := by decide +kernel
theorem d_M_signOf_15 : decode b_M_signOf 15 = .ok (.bipush 43, 2) := by decide +kernel
theorem d_M_signOf_17 : decode b_M_signOf 17 = .ok (.goto 15, 3) := by decide +kernel
theorem d_M_signOf_20 : decode b_M_signOf 20 = .ok (.iload_n 1, 1) := by decide +kernel
theorem d_M_signOf_21 : decode b_M_signOf 21 = .ok (.iconst 4, 1) := by decide +kernel
theorem d_M_signOf_22 : decode b_M_signOf 22 = .ok (.iand, 1) := by decide +kernel
theorem d_M_signOf_23 : decode b_M_signOf 23 = .ok (.ifCond .eq 8, 3) := by decide +kernel
theorem d_M_signOf_26 : decode b_M_signOf 26 = .ok (.bipush 32, 2) := by decide +kernel
theorem d_M_signOf_28 : decode b_M_signOf 28 = .ok (.goto 4, 3) := by decide +kernel
theorem d_M_signOf_31 : decode b_M_signOf 31 = .ok (.iconst 0, 1) := by decide +kernel
theorem d_M_signOf_32 : decode b_M_signOf 32 = .ok (.ireturn, 1) := by decide +kernel
theorem d_M_isRealLetter_0 : decode b_M_isRealLetter 0 = .ok (.iload_n 0, 1) := by decide +kernel
theorem d_M_isRealLetter_1 : decode b_M_isRealLetter 1 = .ok (.bipush 101, 2) := by decide +kernel
theorem d_M_isRealLetter_3 : decode b_M_isRealLetter 3 = .ok (.if_icmp .eq 45, 3) := by decide +kernel
theorem d_M_isRealLetter_6 : decode b_M_isRealLetter 6 = .ok (.iload_n 0, 1) := by decide +kernel
theorem d_M_isRealLetter_7 : decode b_M_isRealLetter 7 = .ok (.bipush 69, 2) := by decide +kernel
theorem d_M_isRealLetter_9 : decode b_M_isRealLetter 9 = .ok (.if_icmp .eq 39, 3) := by decide +kernel
theorem d_M_isRealLetter_12 : decode b_M_isRealLetter 12 = .ok (.iload_n 0, 1) := by decide +kernel
theorem d_M_isRealLetter_13 : decode b_M_isRealLetter 13 = .ok (.bipush 102, 2) := by decide +kernel
theorem d_M_isRealLetter_15 : decode b_M_isRealLetter 15 = .ok (.if_icmp .eq 33, 3) := by decide +kernel
theorem d_M_isRealLetter_18 : decode b_M_isRealLetter 18 = .ok (.iload_n 0, 1) := by decide +kernel
theorem d_M_isRealLetter_19 : decode b_M_isRealLetter 19 = .ok (.bipush 70, 2) := by decide +kernel
theorem d_M_isRealLetter_21 : decode b_M_isRealLetter 21 = .ok (.if_icmp .eq 27, 3) := by decide +kernel
theorem d_M_isRealLetter_24 : decode b_M_isRealLetter 24 = .ok (.iload_n 0, 1) := by decide +kernel
theorem d_M_isRealLetter_25 : decode b_M_isRealLetter 25 = .ok (.bipush 103, 2) := by decide +kernel
theorem d_M_isRealLetter_27 : decode b_M_isRealLetter 27 = .ok (.if_icmp .eq 21, 3) := by decide +kernel
theorem d_M_isRealLetter_30 : decode b_M_isRealLetter 30 = .ok (.iload_n 0, 1) := by decide +kernel
theorem d_M_isRealLetter_31 : decode b_M_isRealLetter 31 = .ok (.bipush 71, 2) := by decide +kernel
theorem d_M_isRealLetter_33 : decode b_M_isRealLetter 33 = .ok (.if_icmp .eq 15, 3) := by decide +kernel
theorem d_M_isRealLetter_36 : decode b_M_isRealLetter 36 = .ok (.iload_n 0, 1) := by decide +kernel
theorem d_M_isRealLetter_37 : decode b_M_isRealLetter 37 = .ok (.bipush 97, 2) := by decide +kernel
theorem d_M_isRealLetter_39 : decode b_M_isRealLetter 39 = .ok (.if_icmp .eq 9, 3) := by decide +kernel
theorem d_M_isRealLetter_42 : decode b_M_isRealLetter 42 = .ok (.iload_n 0, 1) := by decide +kernel
theorem d_M_isRealLetter_43 : decode b_M_isRealLetter 43 = .ok (.bipush 65, 2) := by decide +kernel
theorem d_M_isRealLetter_45 : decode b_M_isRealLetter 45 = .ok (.if_icmp .ne 7, 3) := by decide +kernel
theorem d_M_isRealLetter_48 : decode b_M_isRealLetter 48 = .ok (.iconst 1, 1) := by decide +kernel
theorem d_M_isRealLetter_49 : decode b_M_isRealLetter 49 = .ok (.goto 4, 3) := by decide +kernel
theorem d_M_isRealLetter_52 : decode b_M_isRealLetter 52 = .ok (.iconst 0, 1) := by decide +kernel
theorem d_M_isRealLetter_53 : decode b_M_isRealLetter 53 = .ok (.ireturn, 1) := by decide +kernel
theorem d_M_becomesWhole_0 : decode b_M_becomesWhole 0 = .ok (.aload_n 0, 1) := by decide +kernel
theorem d_M_becomesWhole_1 : decode b_M_becomesWhole 1 = .ok (.getfield 13, 3) := by decide +kernel
theorem d_M_becomesWhole_4 : decode b_M_becomesWhole 4 = .ok (.iconst 1, 1) := by decide +kernel
theorem d_M_becomesWhole_5 : decode b_M_becomesWhole 5 = .ok (.if_icmp .ne 5, 3) := by decide +kernel
theorem d_M_becomesWhole_8 : decode b_M_becomesWhole 8 = .ok (.iconst 1, 1) := by decide +kernel
theorem d_M_becomesWhole_9 : decode b_M_becomesWhole 9 = .ok (.ireturn, 1) := by decide +kernel
theorem d_M_becomesWhole_10 : decode b_M_becomesWhole 10 = .ok (.aload_n 0, 1) := by decide +kernel
theorem d_M_becomesWhole_11 : decode b_M_becomesWhole 11 = .ok (.getfield 13, 3) := by decide +kernel
theorem d_M_becomesWhole_14 : decode b_M_becomesWhole 14 = .ok (.iconst 2, 1) := by decide +kernel
theorem d_M_becomesWhole_15 : decode b_M_becomesWhole 15 = .ok (.if_icmp .ne 19, 3) := by decide +kernel
theorem d_M_becomesWhole_18 : decode b_M_becomesWhole 18 = .ok (.aload_n 0, 1) := by decide +kernel
theorem d_M_becomesWhole_19 : decode b_M_becomesWhole 19 = .ok (.getfield 49, 3) := by decide +kernel
theorem d_M_becomesWhole_22 : decode b_M_becomesWhole 22 = .ok (.ifCond .lt 12, 3) := by decide +kernel
theorem d_M_becomesWhole_25 : decode b_M_becomesWhole 25 = .ok (.aload_n 0, 1) := by decide +kernel
theorem d_M_becomesWhole_26 : decode b_M_becomesWhole 26 = .ok (.getfield 49, 3) := by decide +kernel
theorem d_M_becomesWhole_29 : decode b_M_becomesWhole 29 = .ok (.bipush 63, 2) := by decide +kernel
theorem d_M_becomesWhole_31 : decode b_M_becomesWhole 31 = .ok (.if_icmp .le 5, 3) := by decide +kernel
theorem d_M_becomesWhole_34 : decode b_M_becomesWhole 34 = .ok (.iconst 0, 1) := by decide +kernel
theorem d_M_becomesWhole_35 : decode b_M_becomesWhole 35 = .ok (.ireturn, 1) := by decide +kernel
theorem d_M_becomesWhole_36 : decode b_M_becomesWhole 36 = .ok (.aload_n 0, 1) := by decide +kernel
theorem d_M_becomesWhole_37 : decode b_M_becomesWhole 37 = .ok (.getfield 45, 3) := by decide +kernel
theorem d_M_becomesWhole_40 : decode b_M_becomesWhole 40 = .ok (.aload_n 0, 1) := by decide +kernel
theorem d_M_becomesWhole_41 : decode b_M_becomesWhole 41 = .ok (.getfield 49, 3) := by decide +kernel
theorem d_M_becomesWhole_44 : decode b_M_becomesWhole 44 = .ok (.lshl, 1) := by decide +kernel
theorem d_M_becomesWhole_45 : decode b_M_becomesWhole 45 = .ok (.aload_n 0, 1) := by decide +kernel
theorem d_M_becomesWhole_46 : decode b_M_becomesWhole 46 = .ok (.getfield 49, 3) := by decide +kernel
theorem d_M_becomesWhole_49 : decode b_M_becomesWhole 49 = .ok (.lshr, 1) := by decide +kernel
theorem d_M_becomesWhole_50 : decode b_M_becomesWhole 50 = .ok (.aload_n 0, 1) := by decide +kernel
theorem d_M_becomesWhole_51 : decode b_M_becomesWhole 51 = .ok (.getfield 45, 3) := by decide +kernel
theorem d_M_becomesWhole_54 : decode b_M_becomesWhole 54 = .ok (.lcmp, 1) := by decide +kernel
theorem d_M_becomesWhole_55 : decode b_M_becomesWhole 55 = .ok (.ifCond .eq 5, 3) := by decide +kernel
theorem d_M_becomesWhole_58 : decode b_M_becomesWhole 58 = .ok (.iconst 0, 1) := by decide +kernel
theorem d_M_becomesWhole_59 : decode b_M_becomesWhole 59 = .ok (.ireturn, 1) := by decide +kernel
theorem d_M_becomesWhole_60 : decode b_M_becomesWhole 60 = .ok (.aload_n 0, 1) := by decide +kernel
theorem d_M_becomesWhole_61 : decode b_M_becomesWhole 61 = .ok (.aload_n 0, 1) := by decide +kernel
theorem d_M_becomesWhole_62 : decode b_M_becomesWhole 62 = .ok (.getfield 45, 3) := by decide +kernel
theorem d_M_becomesWhole_65 : decode b_M_becomesWhole 65 = .ok (.aload_n 0, 1) := by decide +kernel
theorem d_M_becomesWhole_66 : decode b_M_becomesWhole 66 = .ok (.getfield 49, 3) := by decide +kernel
theorem d_M_becomesWhole_69 : decode b_M_becomesWhole 69 = .ok (.lshl, 1) := by decide +kernel
theorem d_M_becomesWhole_70 : decode b_M_becomesWhole 70 = .ok (.putfield 45, 3) := by decide +kernel
theorem d_M_becomesWhole_73 : decode b_M_becomesWhole 73 = .ok (.aload_n 0, 1) := by decide +kernel
theorem d_M_becomesWhole_74 : decode b_M_becomesWhole 74 = .ok (.iconst 1, 1) := by decide +kernel
theorem d_M_becomesWhole_75 : decode b_M_becomesWhole 75 = .ok (.putfield 13, 3) := by decide +kernel
theorem d_M_becomesWhole_78 : decode b_M_becomesWhole 78 = .ok (.aload_n 0, 1) := by decide +kernel
theorem d_M_becomesWhole_79 : decode b_M_becomesWhole 79 = .ok (.iconst 0, 1) := by decide +kernel
theorem d_M_becomesWhole_80 : decode b_M_becomesWhole 80 = .ok (.putfield 49, 3) := by decide +kernel
theorem d_M_becomesWhole_83 : decode b_M_becomesWhole 83 = .ok (.iconst 1, 1) := by decide +kernel
theorem d_M_becomesWhole_84 : decode b_M_becomesWhole 84 = .ok (.ireturn, 1) := by decide +kernel
