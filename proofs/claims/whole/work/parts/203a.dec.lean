theorem d_M_isEnough_0 : decode b_M_isEnough 0 = .ok (.iload_n 2, 1) := by decide +kernel
theorem d_M_isEnough_1 : decode b_M_isEnough 1 = .ok (.iconst 1, 1) := by decide +kernel
theorem d_M_isEnough_2 : decode b_M_isEnough 2 = .ok (.isub, 1) := by decide +kernel
theorem d_M_isEnough_3 : decode b_M_isEnough 3 = .ok (.istore_n 3, 1) := by decide +kernel
theorem d_M_isEnough_4 : decode b_M_isEnough 4 = .ok (.iload_n 3, 1) := by decide +kernel
theorem d_M_isEnough_5 : decode b_M_isEnough 5 = .ok (.ifCond .lt 33, 3) := by decide +kernel
theorem d_M_isEnough_8 : decode b_M_isEnough 8 = .ok (.aload_n 0, 1) := by decide +kernel
theorem d_M_isEnough_9 : decode b_M_isEnough 9 = .ok (.iload_n 3, 1) := by decide +kernel
theorem d_M_isEnough_10 : decode b_M_isEnough 10 = .ok (.iaload, 1) := by decide +kernel
theorem d_M_isEnough_11 : decode b_M_isEnough 11 = .ok (.aload_n 1, 1) := by decide +kernel
theorem d_M_isEnough_12 : decode b_M_isEnough 12 = .ok (.iload_n 3, 1) := by decide +kernel
theorem d_M_isEnough_13 : decode b_M_isEnough 13 = .ok (.iaload, 1) := by decide +kernel
theorem d_M_isEnough_14 : decode b_M_isEnough 14 = .ok (.if_icmp .eq 18, 3) := by decide +kernel
theorem d_M_isEnough_17 : decode b_M_isEnough 17 = .ok (.aload_n 0, 1) := by decide +kernel
theorem d_M_isEnough_18 : decode b_M_isEnough 18 = .ok (.iload_n 3, 1) := by decide +kernel
theorem d_M_isEnough_19 : decode b_M_isEnough 19 = .ok (.iaload, 1) := by decide +kernel
theorem d_M_isEnough_20 : decode b_M_isEnough 20 = .ok (.aload_n 1, 1) := by decide +kernel
theorem d_M_isEnough_21 : decode b_M_isEnough 21 = .ok (.iload_n 3, 1) := by decide +kernel
theorem d_M_isEnough_22 : decode b_M_isEnough 22 = .ok (.iaload, 1) := by decide +kernel
theorem d_M_isEnough_23 : decode b_M_isEnough 23 = .ok (.if_icmp .le 7, 3) := by decide +kernel
theorem d_M_isEnough_26 : decode b_M_isEnough 26 = .ok (.iconst 1, 1) := by decide +kernel
theorem d_M_isEnough_27 : decode b_M_isEnough 27 = .ok (.goto 4, 3) := by decide +kernel
theorem d_M_isEnough_30 : decode b_M_isEnough 30 = .ok (.iconst 0, 1) := by decide +kernel
theorem d_M_isEnough_31 : decode b_M_isEnough 31 = .ok (.ireturn, 1) := by decide +kernel
theorem d_M_isEnough_32 : decode b_M_isEnough 32 = .ok (.iinc 3 (-1), 3) := by decide +kernel
theorem d_M_isEnough_35 : decode b_M_isEnough 35 = .ok (.goto (-31), 3) := by decide +kernel
theorem d_M_isEnough_38 : decode b_M_isEnough 38 = .ok (.iconst 1, 1) := by decide +kernel
theorem d_M_isEnough_39 : decode b_M_isEnough 39 = .ok (.ireturn, 1) := by decide +kernel
theorem d_M_subtract_0 : decode b_M_subtract 0 = .ok (.iconst 0, 1) := by decide +kernel
theorem d_M_subtract_1 : decode b_M_subtract 1 = .ok (.istore_n 3, 1) := by decide +kernel
theorem d_M_subtract_2 : decode b_M_subtract 2 = .ok (.iconst 0, 1) := by decide +kernel
theorem d_M_subtract_3 : decode b_M_subtract 3 = .ok (.istore 4, 2) := by decide +kernel
theorem d_M_subtract_5 : decode b_M_subtract 5 = .ok (.iload 4, 2) := by decide +kernel
theorem d_M_subtract_7 : decode b_M_subtract 7 = .ok (.iload_n 2, 1) := by decide +kernel
theorem d_M_subtract_8 : decode b_M_subtract 8 = .ok (.if_icmp .ge 42, 3) := by decide +kernel
theorem d_M_subtract_11 : decode b_M_subtract 11 = .ok (.aload_n 0, 1) := by decide +kernel
theorem d_M_subtract_12 : decode b_M_subtract 12 = .ok (.iload 4, 2) := by decide +kernel
theorem d_M_subtract_14 : decode b_M_subtract 14 = .ok (.iaload, 1) := by decide +kernel
theorem d_M_subtract_15 : decode b_M_subtract 15 = .ok (.aload_n 1, 1) := by decide +kernel
theorem d_M_subtract_16 : decode b_M_subtract 16 = .ok (.iload 4, 2) := by decide +kernel
theorem d_M_subtract_18 : decode b_M_subtract 18 = .ok (.iaload, 1) := by decide +kernel
theorem d_M_subtract_19 : decode b_M_subtract 19 = .ok (.isub, 1) := by decide +kernel
theorem d_M_subtract_20 : decode b_M_subtract 20 = .ok (.iload_n 3, 1) := by decide +kernel
theorem d_M_subtract_21 : decode b_M_subtract 21 = .ok (.isub, 1) := by decide +kernel
theorem d_M_subtract_22 : decode b_M_subtract 22 = .ok (.istore 5, 2) := by decide +kernel
theorem d_M_subtract_24 : decode b_M_subtract 24 = .ok (.iload 5, 2) := by decide +kernel
theorem d_M_subtract_26 : decode b_M_subtract 26 = .ok (.ifCond .ge 7, 3) := by decide +kernel
theorem d_M_subtract_29 : decode b_M_subtract 29 = .ok (.iconst 1, 1) := by decide +kernel
theorem d_M_subtract_30 : decode b_M_subtract 30 = .ok (.goto 4, 3) := by decide +kernel
theorem d_M_subtract_33 : decode b_M_subtract 33 = .ok (.iconst 0, 1) := by decide +kernel
theorem d_M_subtract_34 : decode b_M_subtract 34 = .ok (.istore_n 3, 1) := by decide +kernel
theorem d_M_subtract_35 : decode b_M_subtract 35 = .ok (.aload_n 0, 1) := by decide +kernel
theorem d_M_subtract_36 : decode b_M_subtract 36 = .ok (.iload 4, 2) := by decide +kernel
theorem d_M_subtract_38 : decode b_M_subtract 38 = .ok (.iload 5, 2) := by decide +kernel
theorem d_M_subtract_40 : decode b_M_subtract 40 = .ok (.ldc 166, 2) := by decide +kernel
theorem d_M_subtract_42 : decode b_M_subtract 42 = .ok (.iand, 1) := by decide +kernel
theorem d_M_subtract_43 : decode b_M_subtract 43 = .ok (.iastore, 1) := by decide +kernel
theorem d_M_subtract_44 : decode b_M_subtract 44 = .ok (.iinc 4 1, 3) := by decide +kernel
theorem d_M_subtract_47 : decode b_M_subtract 47 = .ok (.goto (-42), 3) := by decide +kernel
theorem d_M_subtract_50 : decode b_M_subtract 50 = .ok (.return_, 1) := by decide +kernel
theorem d_M_divide_0 : decode b_M_divide 0 = .ok (.bipush 61, 2) := by decide +kernel
theorem d_M_divide_2 : decode b_M_divide 2 = .ok (.aload_n 0, 1) := by decide +kernel
theorem d_M_divide_3 : decode b_M_divide 3 = .ok (.getfield 17, 3) := by decide +kernel
theorem d_M_divide_6 : decode b_M_divide 6 = .ok (.aload_n 0, 1) := by decide +kernel
theorem d_M_divide_7 : decode b_M_divide 7 = .ok (.getfield 167, 3) := by decide +kernel
theorem d_M_divide_10 : decode b_M_divide 10 = .ok (.invokestatic 176, 3) := by decide +kernel
theorem d_M_divide_13 : decode b_M_divide 13 = .ok (.isub, 1) := by decide +kernel
theorem d_M_divide_14 : decode b_M_divide 14 = .ok (.aload_n 0, 1) := by decide +kernel
theorem d_M_divide_15 : decode b_M_divide 15 = .ok (.getfield 21, 3) := by decide +kernel
theorem d_M_divide_18 : decode b_M_divide 18 = .ok (.aload_n 0, 1) := by decide +kernel
theorem d_M_divide_19 : decode b_M_divide 19 = .ok (.getfield 170, 3) := by decide +kernel
theorem d_M_divide_22 : decode b_M_divide 22 = .ok (.invokestatic 176, 3) := by decide +kernel
theorem d_M_divide_25 : decode b_M_divide 25 = .ok (.iadd, 1) := by decide +kernel
theorem d_M_divide_26 : decode b_M_divide 26 = .ok (.istore_n 1, 1) := by decide +kernel
theorem d_M_divide_27 : decode b_M_divide 27 = .ok (.iload_n 1, 1) := by decide +kernel
theorem d_M_divide_28 : decode b_M_divide 28 = .ok (.ifCond .le 22, 3) := by decide +kernel
theorem d_M_divide_31 : decode b_M_divide 31 = .ok (.aload_n 0, 1) := by decide +kernel
theorem d_M_divide_32 : decode b_M_divide 32 = .ok (.aload_n 0, 1) := by decide +kernel
theorem d_M_divide_33 : decode b_M_divide 33 = .ok (.getfield 17, 3) := by decide +kernel
theorem d_M_divide_36 : decode b_M_divide 36 = .ok (.aload_n 0, 1) := by decide +kernel
theorem d_M_divide_37 : decode b_M_divide 37 = .ok (.getfield 167, 3) := by decide +kernel
theorem d_M_divide_40 : decode b_M_divide 40 = .ok (.iload_n 1, 1) := by decide +kernel
theorem d_M_divide_41 : decode b_M_divide 41 = .ok (.invokestatic 180, 3) := by decide +kernel
theorem d_M_divide_44 : decode b_M_divide 44 = .ok (.putfield 167, 3) := by decide +kernel
theorem d_M_divide_47 : decode b_M_divide 47 = .ok (.goto 20, 3) := by decide +kernel
theorem d_M_divide_50 : decode b_M_divide 50 = .ok (.aload_n 0, 1) := by decide +kernel
theorem d_M_divide_51 : decode b_M_divide 51 = .ok (.aload_n 0, 1) := by decide +kernel
theorem d_M_divide_52 : decode b_M_divide 52 = .ok (.getfield 21, 3) := by decide +kernel
theorem d_M_divide_55 : decode b_M_divide 55 = .ok (.aload_n 0, 1) := by decide +kernel
theorem d_M_divide_56 : decode b_M_divide 56 = .ok (.getfield 170, 3) := by decide +kernel
theorem d_M_divide_59 : decode b_M_divide 59 = .ok (.iload_n 1, 1) := by decide +kernel
theorem d_M_divide_60 : decode b_M_divide 60 = .ok (.ineg, 1) := by decide +kernel
theorem d_M_divide_61 : decode b_M_divide 61 = .ok (.invokestatic 180, 3) := by decide +kernel
theorem d_M_divide_64 : decode b_M_divide 64 = .ok (.putfield 170, 3) := by decide +kernel
theorem d_M_divide_67 : decode b_M_divide 67 = .ok (.aload_n 0, 1) := by decide +kernel
theorem d_M_divide_68 : decode b_M_divide 68 = .ok (.aload_n 0, 1) := by decide +kernel
theorem d_M_divide_69 : decode b_M_divide 69 = .ok (.getfield 21, 3) := by decide +kernel
theorem d_M_divide_72 : decode b_M_divide 72 = .ok (.aload_n 0, 1) := by decide +kernel
theorem d_M_divide_73 : decode b_M_divide 73 = .ok (.getfield 170, 3) := by decide +kernel
theorem d_M_divide_76 : decode b_M_divide 76 = .ok (.bipush 62, 2) := by decide +kernel
theorem d_M_divide_78 : decode b_M_divide 78 = .ok (.invokestatic 180, 3) := by decide +kernel
theorem d_M_divide_81 : decode b_M_divide 81 = .ok (.putfield 170, 3) := by decide +kernel
theorem d_M_divide_84 : decode b_M_divide 84 = .ok (.aload_n 0, 1) := by decide +kernel
theorem d_M_divide_85 : decode b_M_divide 85 = .ok (.getfield 167, 3) := by decide +kernel
theorem d_M_divide_88 : decode b_M_divide 88 = .ok (.aload_n 0, 1) := by decide +kernel
theorem d_M_divide_89 : decode b_M_divide 89 = .ok (.getfield 170, 3) := by decide +kernel
theorem d_M_divide_92 : decode b_M_divide 92 = .ok (.if_icmp .le 10, 3) := by decide +kernel
theorem d_M_divide_95 : decode b_M_divide 95 = .ok (.aload_n 0, 1) := by decide +kernel
theorem d_M_divide_96 : decode b_M_divide 96 = .ok (.getfield 167, 3) := by decide +kernel
theorem d_M_divide_99 : decode b_M_divide 99 = .ok (.goto 7, 3) := by decide +kernel
theorem d_M_divide_102 : decode b_M_divide 102 = .ok (.aload_n 0, 1) := by decide +kernel
theorem d_M_divide_103 : decode b_M_divide 103 = .ok (.getfield 170, 3) := by decide +kernel
theorem d_M_divide_106 : decode b_M_divide 106 = .ok (.istore_n 2, 1) := by decide +kernel
theorem d_M_divide_107 : decode b_M_divide 107 = .ok (.lconst 0, 1) := by decide +kernel
theorem d_M_divide_108 : decode b_M_divide 108 = .ok (.lstore_n 3, 1) := by decide +kernel
theorem d_M_divide_109 : decode b_M_divide 109 = .ok (.iconst 0, 1) := by decide +kernel
theorem d_M_divide_110 : decode b_M_divide 110 = .ok (.istore 5, 2) := by decide +kernel
theorem d_M_divide_112 : decode b_M_divide 112 = .ok (.iload 5, 2) := by decide +kernel
theorem d_M_divide_114 : decode b_M_divide 114 = .ok (.bipush 62, 2) := by decide +kernel
theorem d_M_divide_116 : decode b_M_divide 116 = .ok (.if_icmp .ge 54, 3) := by decide +kernel
theorem d_M_divide_119 : decode b_M_divide 119 = .ok (.aload_n 0, 1) := by decide +kernel
theorem d_M_divide_120 : decode b_M_divide 120 = .ok (.getfield 21, 3) := by decide +kernel
theorem d_M_divide_123 : decode b_M_divide 123 = .ok (.iload_n 2, 1) := by decide +kernel
theorem d_M_divide_124 : decode b_M_divide 124 = .ok (.invokestatic 184, 3) := by decide +kernel
theorem d_M_divide_127 : decode b_M_divide 127 = .ok (.ldc2_w 58, 3) := by decide +kernel
theorem d_M_divide_130 : decode b_M_divide 130 = .ok (.lload_n 3, 1) := by decide +kernel
theorem d_M_divide_131 : decode b_M_divide 131 = .ok (.lmul, 1) := by decide +kernel
theorem d_M_divide_132 : decode b_M_divide 132 = .ok (.lstore_n 3, 1) := by decide +kernel
theorem d_M_divide_133 : decode b_M_divide 133 = .ok (.aload_n 0, 1) := by decide +kernel
theorem d_M_divide_134 : decode b_M_divide 134 = .ok (.getfield 17, 3) := by decide +kernel
theorem d_M_divide_137 : decode b_M_divide 137 = .ok (.aload_n 0, 1) := by decide +kernel
theorem d_M_divide_138 : decode b_M_divide 138 = .ok (.getfield 21, 3) := by decide +kernel
theorem d_M_divide_141 : decode b_M_divide 141 = .ok (.iload_n 2, 1) := by decide +kernel
theorem d_M_divide_142 : decode b_M_divide 142 = .ok (.invokestatic 188, 3) := by decide +kernel
theorem d_M_divide_145 : decode b_M_divide 145 = .ok (.ifCond .eq 19, 3) := by decide +kernel
theorem d_M_divide_148 : decode b_M_divide 148 = .ok (.aload_n 0, 1) := by decide +kernel
theorem d_M_divide_149 : decode b_M_divide 149 = .ok (.getfield 17, 3) := by decide +kernel
theorem d_M_divide_152 : decode b_M_divide 152 = .ok (.aload_n 0, 1) := by decide +kernel
theorem d_M_divide_153 : decode b_M_divide 153 = .ok (.getfield 21, 3) := by decide +kernel
theorem d_M_divide_156 : decode b_M_divide 156 = .ok (.iload_n 2, 1) := by decide +kernel
theorem d_M_divide_157 : decode b_M_divide 157 = .ok (.invokestatic 192, 3) := by decide +kernel
theorem d_M_divide_160 : decode b_M_divide 160 = .ok (.lload_n 3, 1) := by decide +kernel
theorem d_M_divide_161 : decode b_M_divide 161 = .ok (.lconst 1, 1) := by decide +kernel
theorem d_M_divide_162 : decode b_M_divide 162 = .ok (.ladd, 1) := by decide +kernel
theorem d_M_divide_163 : decode b_M_divide 163 = .ok (.lstore_n 3, 1) := by decide +kernel
theorem d_M_divide_164 : decode b_M_divide 164 = .ok (.iinc 5 1, 3) := by decide +kernel
theorem d_M_divide_167 : decode b_M_divide 167 = .ok (.goto (-55), 3) := by decide +kernel
theorem d_M_divide_170 : decode b_M_divide 170 = .ok (.iconst 0, 1) := by decide +kernel
theorem d_M_divide_171 : decode b_M_divide 171 = .ok (.istore 5, 2) := by decide +kernel
theorem d_M_divide_173 : decode b_M_divide 173 = .ok (.iconst 0, 1) := by decide +kernel
theorem d_M_divide_174 : decode b_M_divide 174 = .ok (.istore 6, 2) := by decide +kernel
theorem d_M_divide_176 : decode b_M_divide 176 = .ok (.iload 6, 2) := by decide +kernel
theorem d_M_divide_178 : decode b_M_divide 178 = .ok (.iload_n 2, 1) := by decide +kernel
theorem d_M_divide_179 : decode b_M_divide 179 = .ok (.if_icmp .ge 31, 3) := by decide +kernel
theorem d_M_divide_182 : decode b_M_divide 182 = .ok (.iload 5, 2) := by decide +kernel
theorem d_M_divide_184 : decode b_M_divide 184 = .ok (.ifCond .ne 13, 3) := by decide +kernel
theorem d_M_divide_187 : decode b_M_divide 187 = .ok (.aload_n 0, 1) := by decide +kernel
theorem d_M_divide_188 : decode b_M_divide 188 = .ok (.getfield 17, 3) := by decide +kernel
theorem d_M_divide_191 : decode b_M_divide 191 = .ok (.iload 6, 2) := by decide +kernel
theorem d_M_divide_193 : decode b_M_divide 193 = .ok (.iaload, 1) := by decide +kernel
theorem d_M_divide_194 : decode b_M_divide 194 = .ok (.ifCond .eq 7, 3) := by decide +kernel
theorem d_M_divide_197 : decode b_M_divide 197 = .ok (.iconst 1, 1) := by decide +kernel
theorem d_M_divide_198 : decode b_M_divide 198 = .ok (.goto 4, 3) := by decide +kernel
theorem d_M_divide_201 : decode b_M_divide 201 = .ok (.iconst 0, 1) := by decide +kernel
theorem d_M_divide_202 : decode b_M_divide 202 = .ok (.istore 5, 2) := by decide +kernel
theorem d_M_divide_204 : decode b_M_divide 204 = .ok (.iinc 6 1, 3) := by decide +kernel
theorem d_M_divide_207 : decode b_M_divide 207 = .ok (.goto (-31), 3) := by decide +kernel
theorem d_M_divide_210 : decode b_M_divide 210 = .ok (.aload_n 0, 1) := by decide +kernel
theorem d_M_divide_211 : decode b_M_divide 211 = .ok (.iload 5, 2) := by decide +kernel
theorem d_M_divide_213 : decode b_M_divide 213 = .ok (.ifCond .eq 9, 3) := by decide +kernel
theorem d_M_divide_216 : decode b_M_divide 216 = .ok (.lload_n 3, 1) := by decide +kernel
theorem d_M_divide_217 : decode b_M_divide 217 = .ok (.lconst 1, 1) := by decide +kernel
theorem d_M_divide_218 : decode b_M_divide 218 = .ok (.lor, 1) := by decide +kernel
theorem d_M_divide_219 : decode b_M_divide 219 = .ok (.goto 4, 3) := by decide +kernel
theorem d_M_divide_222 : decode b_M_divide 222 = .ok (.lload_n 3, 1) := by decide +kernel
theorem d_M_divide_223 : decode b_M_divide 223 = .ok (.iload_n 1, 1) := by decide +kernel
theorem d_M_divide_224 : decode b_M_divide 224 = .ok (.ineg, 1) := by decide +kernel
theorem d_M_divide_225 : decode b_M_divide 225 = .ok (.aload_n 0, 1) := by decide +kernel
theorem d_M_divide_226 : decode b_M_divide 226 = .ok (.getfield 98, 3) := by decide +kernel
theorem d_M_divide_229 : decode b_M_divide 229 = .ok (.invokevirtual 68, 3) := by decide +kernel
theorem d_M_divide_232 : decode b_M_divide 232 = .ok (.ireturn, 1) := by decide +kernel
theorem d_M_readTen_0 : decode b_M_readTen 0 = .ok (.iconst 0, 1) := by decide +kernel
theorem d_M_readTen_1 : decode b_M_readTen 1 = .ok (.istore_n 2, 1) := by decide +kernel
theorem d_M_readTen_2 : decode b_M_readTen 2 = .ok (.iload_n 2, 1) := by decide +kernel
theorem d_M_readTen_3 : decode b_M_readTen 3 = .ok (.sipush 400, 3) := by decide +kernel
theorem d_M_readTen_6 : decode b_M_readTen 6 = .ok (.if_icmp .ge 23, 3) := by decide +kernel
theorem d_M_readTen_9 : decode b_M_readTen 9 = .ok (.aload_n 0, 1) := by decide +kernel
theorem d_M_readTen_10 : decode b_M_readTen 10 = .ok (.getfield 17, 3) := by decide +kernel
theorem d_M_readTen_13 : decode b_M_readTen 13 = .ok (.iload_n 2, 1) := by decide +kernel
theorem d_M_readTen_14 : decode b_M_readTen 14 = .ok (.iconst 0, 1) := by decide +kernel
theorem d_M_readTen_15 : decode b_M_readTen 15 = .ok (.iastore, 1) := by decide +kernel
theorem d_M_readTen_16 : decode b_M_readTen 16 = .ok (.aload_n 0, 1) := by decide +kernel
theorem d_M_readTen_17 : decode b_M_readTen 17 = .ok (.getfield 21, 3) := by decide +kernel
theorem d_M_readTen_20 : decode b_M_readTen 20 = .ok (.iload_n 2, 1) := by decide +kernel
theorem d_M_readTen_21 : decode b_M_readTen 21 = .ok (.iconst 0, 1) := by decide +kernel
theorem d_M_readTen_22 : decode b_M_readTen 22 = .ok (.iastore, 1) := by decide +kernel
theorem d_M_readTen_23 : decode b_M_readTen 23 = .ok (.iinc 2 1, 3) := by decide +kernel
theorem d_M_readTen_26 : decode b_M_readTen 26 = .ok (.goto (-24), 3) := by decide +kernel
theorem d_M_readTen_29 : decode b_M_readTen 29 = .ok (.aload_n 0, 1) := by decide +kernel
theorem d_M_readTen_30 : decode b_M_readTen 30 = .ok (.iconst 0, 1) := by decide +kernel
theorem d_M_readTen_31 : decode b_M_readTen 31 = .ok (.putfield 167, 3) := by decide +kernel
theorem d_M_readTen_34 : decode b_M_readTen 34 = .ok (.iconst 0, 1) := by decide +kernel
theorem d_M_readTen_35 : decode b_M_readTen 35 = .ok (.istore_n 2, 1) := by decide +kernel
theorem d_M_readTen_36 : decode b_M_readTen 36 = .ok (.iconst 0, 1) := by decide +kernel
theorem d_M_readTen_37 : decode b_M_readTen 37 = .ok (.istore_n 3, 1) := by decide +kernel
theorem d_M_readTen_38 : decode b_M_readTen 38 = .ok (.iload_n 3, 1) := by decide +kernel
theorem d_M_readTen_39 : decode b_M_readTen 39 = .ok (.aload_n 0, 1) := by decide +kernel
theorem d_M_readTen_40 : decode b_M_readTen 40 = .ok (.getfield 111, 3) := by decide +kernel
theorem d_M_readTen_43 : decode b_M_readTen 43 = .ok (.if_icmp .ge 47, 3) := by decide +kernel
theorem d_M_readTen_46 : decode b_M_readTen 46 = .ok (.aload_n 0, 1) := by decide +kernel
theorem d_M_readTen_47 : decode b_M_readTen 47 = .ok (.aload_n 0, 1) := by decide +kernel
theorem d_M_readTen_48 : decode b_M_readTen 48 = .ok (.getfield 17, 3) := by decide +kernel
theorem d_M_readTen_51 : decode b_M_readTen 51 = .ok (.aload_n 0, 1) := by decide +kernel
theorem d_M_readTen_52 : decode b_M_readTen 52 = .ok (.getfield 167, 3) := by decide +kernel
theorem d_M_readTen_55 : decode b_M_readTen 55 = .ok (.bipush 10, 2) := by decide +kernel
theorem d_M_readTen_57 : decode b_M_readTen 57 = .ok (.aload_n 0, 1) := by decide +kernel
theorem d_M_readTen_58 : decode b_M_readTen 58 = .ok (.getfield 24, 3) := by decide +kernel
theorem d_M_readTen_61 : decode b_M_readTen 61 = .ok (.iload_n 3, 1) := by decide +kernel
theorem d_M_readTen_62 : decode b_M_readTen 62 = .ok (.baload, 1) := by decide +kernel
theorem d_M_readTen_63 : decode b_M_readTen 63 = .ok (.invokestatic 162, 3) := by decide +kernel
theorem d_M_readTen_66 : decode b_M_readTen 66 = .ok (.putfield 167, 3) := by decide +kernel
theorem d_M_readTen_69 : decode b_M_readTen 69 = .ok (.iload_n 2, 1) := by decide +kernel
theorem d_M_readTen_70 : decode b_M_readTen 70 = .ok (.aload_n 0, 1) := by decide +kernel
theorem d_M_readTen_71 : decode b_M_readTen 71 = .ok (.getfield 167, 3) := by decide +kernel
theorem d_M_readTen_74 : decode b_M_readTen 74 = .ok (.ifCond .ne 7, 3) := by decide +kernel
theorem d_M_readTen_77 : decode b_M_readTen 77 = .ok (.iconst 1, 1) := by decide +kernel
theorem d_M_readTen_78 : decode b_M_readTen 78 = .ok (.goto 4, 3) := by decide +kernel
theorem d_M_readTen_81 : decode b_M_readTen 81 = .ok (.iconst 0, 1) := by decide +kernel
theorem d_M_readTen_82 : decode b_M_readTen 82 = .ok (.iadd, 1) := by decide +kernel
theorem d_M_readTen_83 : decode b_M_readTen 83 = .ok (.istore_n 2, 1) := by decide +kernel
theorem d_M_readTen_84 : decode b_M_readTen 84 = .ok (.iinc 3 1, 3) := by decide +kernel
theorem d_M_readTen_87 : decode b_M_readTen 87 = .ok (.goto (-49), 3) := by decide +kernel
theorem d_M_readTen_90 : decode b_M_readTen 90 = .ok (.aload_n 0, 1) := by decide +kernel
theorem d_M_readTen_91 : decode b_M_readTen 91 = .ok (.getfield 167, 3) := by decide +kernel
theorem d_M_readTen_94 : decode b_M_readTen 94 = .ok (.ifCond .ne 11, 3) := by decide +kernel
theorem d_M_readTen_97 : decode b_M_readTen 97 = .ok (.aload_n 0, 1) := by decide +kernel
theorem d_M_readTen_98 : decode b_M_readTen 98 = .ok (.iconst 2, 1) := by decide +kernel
theorem d_M_readTen_99 : decode b_M_readTen 99 = .ok (.lconst 0, 1) := by decide +kernel
theorem d_M_readTen_100 : decode b_M_readTen 100 = .ok (.iconst 0, 1) := by decide +kernel
theorem d_M_readTen_101 : decode b_M_readTen 101 = .ok (.invokevirtual 52, 3) := by decide +kernel
theorem d_M_readTen_104 : decode b_M_readTen 104 = .ok (.ireturn, 1) := by decide +kernel
theorem d_M_readTen_105 : decode b_M_readTen 105 = .ok (.iload_n 1, 1) := by decide +kernel
theorem d_M_readTen_106 : decode b_M_readTen 106 = .ok (.aload_n 0, 1) := by decide +kernel
theorem d_M_readTen_107 : decode b_M_readTen 107 = .ok (.getfield 111, 3) := by decide +kernel
theorem d_M_readTen_110 : decode b_M_readTen 110 = .ok (.iadd, 1) := by decide +kernel
theorem d_M_readTen_111 : decode b_M_readTen 111 = .ok (.iload_n 2, 1) := by decide +kernel
theorem d_M_readTen_112 : decode b_M_readTen 112 = .ok (.isub, 1) := by decide +kernel
theorem d_M_readTen_113 : decode b_M_readTen 113 = .ok (.sipush (-400), 3) := by decide +kernel
theorem d_M_readTen_116 : decode b_M_readTen 116 = .ok (.if_icmp .ge 11, 3) := by decide +kernel
theorem d_M_readTen_119 : decode b_M_readTen 119 = .ok (.aload_n 0, 1) := by decide +kernel
theorem d_M_readTen_120 : decode b_M_readTen 120 = .ok (.iconst 2, 1) := by decide +kernel
theorem d_M_readTen_121 : decode b_M_readTen 121 = .ok (.lconst 0, 1) := by decide +kernel
theorem d_M_readTen_122 : decode b_M_readTen 122 = .ok (.iconst 0, 1) := by decide +kernel
theorem d_M_readTen_123 : decode b_M_readTen 123 = .ok (.invokevirtual 52, 3) := by decide +kernel
theorem d_M_readTen_126 : decode b_M_readTen 126 = .ok (.ireturn, 1) := by decide +kernel
theorem d_M_readTen_127 : decode b_M_readTen 127 = .ok (.iload_n 1, 1) := by decide +kernel
theorem d_M_readTen_128 : decode b_M_readTen 128 = .ok (.aload_n 0, 1) := by decide +kernel
theorem d_M_readTen_129 : decode b_M_readTen 129 = .ok (.getfield 111, 3) := by decide +kernel
theorem d_M_readTen_132 : decode b_M_readTen 132 = .ok (.iadd, 1) := by decide +kernel
theorem d_M_readTen_133 : decode b_M_readTen 133 = .ok (.iload_n 2, 1) := by decide +kernel
theorem d_M_readTen_134 : decode b_M_readTen 134 = .ok (.isub, 1) := by decide +kernel
theorem d_M_readTen_135 : decode b_M_readTen 135 = .ok (.sipush 400, 3) := by decide +kernel
theorem d_M_readTen_138 : decode b_M_readTen 138 = .ok (.if_icmp .le 22, 3) := by decide +kernel
theorem d_M_readTen_141 : decode b_M_readTen 141 = .ok (.aload_n 0, 1) := by decide +kernel
theorem d_M_readTen_142 : decode b_M_readTen 142 = .ok (.aload_n 0, 1) := by decide +kernel
theorem d_M_readTen_143 : decode b_M_readTen 143 = .ok (.getfield 98, 3) := by decide +kernel
theorem d_M_readTen_146 : decode b_M_readTen 146 = .ok (.ifCond .eq 7, 3) := by decide +kernel
theorem d_M_readTen_149 : decode b_M_readTen 149 = .ok (.iconst 4, 1) := by decide +kernel
theorem d_M_readTen_150 : decode b_M_readTen 150 = .ok (.goto 4, 3) := by decide +kernel
theorem d_M_readTen_153 : decode b_M_readTen 153 = .ok (.iconst 3, 1) := by decide +kernel
theorem d_M_readTen_154 : decode b_M_readTen 154 = .ok (.lconst 0, 1) := by decide +kernel
theorem d_M_readTen_155 : decode b_M_readTen 155 = .ok (.iconst 0, 1) := by decide +kernel
theorem d_M_readTen_156 : decode b_M_readTen 156 = .ok (.invokevirtual 52, 3) := by decide +kernel
theorem d_M_readTen_159 : decode b_M_readTen 159 = .ok (.ireturn, 1) := by decide +kernel
theorem d_M_readTen_160 : decode b_M_readTen 160 = .ok (.aload_n 0, 1) := by decide +kernel
theorem d_M_readTen_161 : decode b_M_readTen 161 = .ok (.getfield 21, 3) := by decide +kernel
theorem d_M_readTen_164 : decode b_M_readTen 164 = .ok (.iconst 0, 1) := by decide +kernel
theorem d_M_readTen_165 : decode b_M_readTen 165 = .ok (.iconst 1, 1) := by decide +kernel
theorem d_M_readTen_166 : decode b_M_readTen 166 = .ok (.iastore, 1) := by decide +kernel
theorem d_M_readTen_167 : decode b_M_readTen 167 = .ok (.aload_n 0, 1) := by decide +kernel
theorem d_M_readTen_168 : decode b_M_readTen 168 = .ok (.iconst 1, 1) := by decide +kernel
theorem d_M_readTen_169 : decode b_M_readTen 169 = .ok (.putfield 170, 3) := by decide +kernel
theorem d_M_readTen_172 : decode b_M_readTen 172 = .ok (.iconst 0, 1) := by decide +kernel
theorem d_M_readTen_173 : decode b_M_readTen 173 = .ok (.istore_n 3, 1) := by decide +kernel
theorem d_M_readTen_174 : decode b_M_readTen 174 = .ok (.iload_n 3, 1) := by decide +kernel
theorem d_M_readTen_175 : decode b_M_readTen 175 = .ok (.iload_n 1, 1) := by decide +kernel
theorem d_M_readTen_176 : decode b_M_readTen 176 = .ok (.if_icmp .ge 27, 3) := by decide +kernel
theorem d_M_readTen_179 : decode b_M_readTen 179 = .ok (.aload_n 0, 1) := by decide +kernel
theorem d_M_readTen_180 : decode b_M_readTen 180 = .ok (.aload_n 0, 1) := by decide +kernel
theorem d_M_readTen_181 : decode b_M_readTen 181 = .ok (.getfield 17, 3) := by decide +kernel
theorem d_M_readTen_184 : decode b_M_readTen 184 = .ok (.aload_n 0, 1) := by decide +kernel
theorem d_M_readTen_185 : decode b_M_readTen 185 = .ok (.getfield 167, 3) := by decide +kernel
theorem d_M_readTen_188 : decode b_M_readTen 188 = .ok (.bipush 10, 2) := by decide +kernel
theorem d_M_readTen_190 : decode b_M_readTen 190 = .ok (.iconst 0, 1) := by decide +kernel
theorem d_M_readTen_191 : decode b_M_readTen 191 = .ok (.invokestatic 162, 3) := by decide +kernel
theorem d_M_readTen_194 : decode b_M_readTen 194 = .ok (.putfield 167, 3) := by decide +kernel
theorem d_M_readTen_197 : decode b_M_readTen 197 = .ok (.iinc 3 1, 3) := by decide +kernel
theorem d_M_readTen_200 : decode b_M_readTen 200 = .ok (.goto (-26), 3) := by decide +kernel
theorem d_M_readTen_203 : decode b_M_readTen 203 = .ok (.iconst 0, 1) := by decide +kernel
theorem d_M_readTen_204 : decode b_M_readTen 204 = .ok (.istore_n 3, 1) := by decide +kernel
theorem d_M_readTen_205 : decode b_M_readTen 205 = .ok (.iload_n 3, 1) := by decide +kernel
theorem d_M_readTen_206 : decode b_M_readTen 206 = .ok (.iload_n 1, 1) := by decide +kernel
theorem d_M_readTen_207 : decode b_M_readTen 207 = .ok (.ineg, 1) := by decide +kernel
theorem d_M_readTen_208 : decode b_M_readTen 208 = .ok (.if_icmp .ge 27, 3) := by decide +kernel
theorem d_M_readTen_211 : decode b_M_readTen 211 = .ok (.aload_n 0, 1) := by decide +kernel
theorem d_M_readTen_212 : decode b_M_readTen 212 = .ok (.aload_n 0, 1) := by decide +kernel
theorem d_M_readTen_213 : decode b_M_readTen 213 = .ok (.getfield 21, 3) := by decide +kernel
theorem d_M_readTen_216 : decode b_M_readTen 216 = .ok (.aload_n 0, 1) := by decide +kernel
theorem d_M_readTen_217 : decode b_M_readTen 217 = .ok (.getfield 170, 3) := by decide +kernel
theorem d_M_readTen_220 : decode b_M_readTen 220 = .ok (.bipush 10, 2) := by decide +kernel
theorem d_M_readTen_222 : decode b_M_readTen 222 = .ok (.iconst 0, 1) := by decide +kernel
theorem d_M_readTen_223 : decode b_M_readTen 223 = .ok (.invokestatic 162, 3) := by decide +kernel
theorem d_M_readTen_226 : decode b_M_readTen 226 = .ok (.putfield 170, 3) := by decide +kernel
theorem d_M_readTen_229 : decode b_M_readTen 229 = .ok (.iinc 3 1, 3) := by decide +kernel
theorem d_M_readTen_232 : decode b_M_readTen 232 = .ok (.goto (-27), 3) := by decide +kernel
theorem d_M_readTen_235 : decode b_M_readTen 235 = .ok (.aload_n 0, 1) := by decide +kernel
theorem d_M_readTen_236 : decode b_M_readTen 236 = .ok (.invokevirtual 173, 3) := by decide +kernel
theorem d_M_readTen_239 : decode b_M_readTen 239 = .ok (.ireturn, 1) := by decide +kernel
theorem d_M_read_0 : decode b_M_read 0 = .ok (.aload_n 0, 1) := by decide +kernel
theorem d_M_read_1 : decode b_M_read 1 = .ok (.invokevirtual 135, 3) := by decide +kernel
theorem d_M_read_4 : decode b_M_read 4 = .ok (.istore_n 1, 1) := by decide +kernel
theorem d_M_read_5 : decode b_M_read 5 = .ok (.aload_n 0, 1) := by decide +kernel
theorem d_M_read_6 : decode b_M_read 6 = .ok (.iconst 0, 1) := by decide +kernel
theorem d_M_read_7 : decode b_M_read 7 = .ok (.putfield 42, 3) := by decide +kernel
theorem d_M_read_10 : decode b_M_read 10 = .ok (.iload_n 1, 1) := by decide +kernel
theorem d_M_read_11 : decode b_M_read 11 = .ok (.ifCond .lt 8, 3) := by decide +kernel
theorem d_M_read_14 : decode b_M_read 14 = .ok (.bipush (-100), 2) := by decide +kernel
theorem d_M_read_16 : decode b_M_read 16 = .ok (.iload_n 1, 1) := by decide +kernel
theorem d_M_read_17 : decode b_M_read 17 = .ok (.isub, 1) := by decide +kernel
theorem d_M_read_18 : decode b_M_read 18 = .ok (.ireturn, 1) := by decide +kernel
theorem d_M_read_19 : decode b_M_read 19 = .ok (.aload_n 0, 1) := by decide +kernel
theorem d_M_read_20 : decode b_M_read 20 = .ok (.getfield 108, 3) := by decide +kernel
theorem d_M_read_23 : decode b_M_read 23 = .ok (.ifCond .eq 11, 3) := by decide +kernel
theorem d_M_read_26 : decode b_M_read 26 = .ok (.aload_n 0, 1) := by decide +kernel
theorem d_M_read_27 : decode b_M_read 27 = .ok (.getfield 117, 3) := by decide +kernel
theorem d_M_read_30 : decode b_M_read 30 = .ok (.ineg, 1) := by decide +kernel
theorem d_M_read_31 : decode b_M_read 31 = .ok (.goto 7, 3) := by decide +kernel
theorem d_M_read_34 : decode b_M_read 34 = .ok (.aload_n 0, 1) := by decide +kernel
theorem d_M_read_35 : decode b_M_read 35 = .ok (.getfield 117, 3) := by decide +kernel
theorem d_M_read_38 : decode b_M_read 38 = .ok (.istore_n 2, 1) := by decide +kernel
theorem d_M_read_39 : decode b_M_read 39 = .ok (.aload_n 0, 1) := by decide +kernel
theorem d_M_read_40 : decode b_M_read 40 = .ok (.getfield 105, 3) := by decide +kernel
theorem d_M_read_43 : decode b_M_read 43 = .ok (.ifCond .eq 15, 3) := by decide +kernel
theorem d_M_read_46 : decode b_M_read 46 = .ok (.aload_n 0, 1) := by decide +kernel
theorem d_M_read_47 : decode b_M_read 47 = .ok (.getfield 102, 3) := by decide +kernel
theorem d_M_read_50 : decode b_M_read 50 = .ok (.ifCond .eq 8, 3) := by decide +kernel
theorem d_M_read_53 : decode b_M_read 53 = .ok (.aload_n 0, 1) := by decide +kernel
theorem d_M_read_54 : decode b_M_read 54 = .ok (.invokevirtual 139, 3) := by decide +kernel
theorem d_M_read_57 : decode b_M_read 57 = .ok (.ireturn, 1) := by decide +kernel
theorem d_M_read_58 : decode b_M_read 58 = .ok (.aload_n 0, 1) := by decide +kernel
theorem d_M_read_59 : decode b_M_read 59 = .ok (.getfield 105, 3) := by decide +kernel
theorem d_M_read_62 : decode b_M_read 62 = .ok (.ifCond .eq 15, 3) := by decide +kernel
theorem d_M_read_65 : decode b_M_read 65 = .ok (.aload_n 0, 1) := by decide +kernel
theorem d_M_read_66 : decode b_M_read 66 = .ok (.invokevirtual 142, 3) := by decide +kernel
theorem d_M_read_69 : decode b_M_read 69 = .ok (.ifCond .eq 8, 3) := by decide +kernel
theorem d_M_read_72 : decode b_M_read 72 = .ok (.aload_n 0, 1) := by decide +kernel
theorem d_M_read_73 : decode b_M_read 73 = .ok (.getfield 13, 3) := by decide +kernel
theorem d_M_read_76 : decode b_M_read 76 = .ok (.ireturn, 1) := by decide +kernel
theorem d_M_read_77 : decode b_M_read 77 = .ok (.aload_n 0, 1) := by decide +kernel
theorem d_M_read_78 : decode b_M_read 78 = .ok (.getfield 102, 3) := by decide +kernel
theorem d_M_read_81 : decode b_M_read 81 = .ok (.ifCond .eq 18, 3) := by decide +kernel
theorem d_M_read_84 : decode b_M_read 84 = .ok (.aload_n 0, 1) := by decide +kernel
theorem d_M_read_85 : decode b_M_read 85 = .ok (.iload_n 2, 1) := by decide +kernel
theorem d_M_read_86 : decode b_M_read 86 = .ok (.iconst 4, 1) := by decide +kernel
theorem d_M_read_87 : decode b_M_read 87 = .ok (.aload_n 0, 1) := by decide +kernel
theorem d_M_read_88 : decode b_M_read 88 = .ok (.getfield 114, 3) := by decide +kernel
theorem d_M_read_91 : decode b_M_read 91 = .ok (.imul, 1) := by decide +kernel
theorem d_M_read_92 : decode b_M_read 92 = .ok (.isub, 1) := by decide +kernel
theorem d_M_read_93 : decode b_M_read 93 = .ok (.invokevirtual 146, 3) := by decide +kernel
theorem d_M_read_96 : decode b_M_read 96 = .ok (.goto 13, 3) := by decide +kernel
theorem d_M_read_99 : decode b_M_read 99 = .ok (.aload_n 0, 1) := by decide +kernel
theorem d_M_read_100 : decode b_M_read 100 = .ok (.iload_n 2, 1) := by decide +kernel
theorem d_M_read_101 : decode b_M_read 101 = .ok (.aload_n 0, 1) := by decide +kernel
theorem d_M_read_102 : decode b_M_read 102 = .ok (.getfield 114, 3) := by decide +kernel
theorem d_M_read_105 : decode b_M_read 105 = .ok (.isub, 1) := by decide +kernel
theorem d_M_read_106 : decode b_M_read 106 = .ok (.invokevirtual 149, 3) := by decide +kernel
theorem d_M_read_109 : decode b_M_read 109 = .ok (.ireturn, 1) := by decide +kernel
