theorem d_M_type_0 : decode b_M_type 0 = .ok (.iload_n 3, 1) := by decide +kernel
theorem d_M_type_1 : decode b_M_type 1 = .ok (.iconst 1, 1) := by decide +kernel
theorem d_M_type_2 : decode b_M_type 2 = .ok (.if_icmp .lt 9, 3) := by decide +kernel
theorem d_M_type_5 : decode b_M_type 5 = .ok (.iload_n 3, 1) := by decide +kernel
theorem d_M_type_6 : decode b_M_type 6 = .ok (.bipush 8, 2) := by decide +kernel
theorem d_M_type_8 : decode b_M_type 8 = .ok (.if_icmp .le 5, 3) := by decide +kernel
theorem d_M_type_11 : decode b_M_type 11 = .ok (.iconst (-1), 1) := by decide +kernel
theorem d_M_type_12 : decode b_M_type 12 = .ok (.ireturn, 1) := by decide +kernel
theorem d_M_type_13 : decode b_M_type 13 = .ok (.aload_n 0, 1) := by decide +kernel
theorem d_M_type_14 : decode b_M_type 14 = .ok (.getfield 42, 3) := by decide +kernel
theorem d_M_type_17 : decode b_M_type 17 = .ok (.iload_n 3, 1) := by decide +kernel
theorem d_M_type_18 : decode b_M_type 18 = .ok (.iadd, 1) := by decide +kernel
theorem d_M_type_19 : decode b_M_type 19 = .ok (.sipush 1200, 3) := by decide +kernel
theorem d_M_type_22 : decode b_M_type 22 = .ok (.if_icmp .le 6, 3) := by decide +kernel
theorem d_M_type_25 : decode b_M_type 25 = .ok (.bipush (-3), 2) := by decide +kernel
theorem d_M_type_27 : decode b_M_type 27 = .ok (.ireturn, 1) := by decide +kernel
theorem d_M_type_28 : decode b_M_type 28 = .ok (.iload_n 3, 1) := by decide +kernel
theorem d_M_type_29 : decode b_M_type 29 = .ok (.iconst 1, 1) := by decide +kernel
theorem d_M_type_30 : decode b_M_type 30 = .ok (.isub, 1) := by decide +kernel
theorem d_M_type_31 : decode b_M_type 31 = .ok (.istore 4, 2) := by decide +kernel
theorem d_M_type_33 : decode b_M_type 33 = .ok (.iload 4, 2) := by decide +kernel
theorem d_M_type_35 : decode b_M_type 35 = .ok (.ifCond .lt 37, 3) := by decide +kernel
theorem d_M_type_38 : decode b_M_type 38 = .ok (.aload_n 0, 1) := by decide +kernel
theorem d_M_type_39 : decode b_M_type 39 = .ok (.getfield 7, 3) := by decide +kernel
theorem d_M_type_42 : decode b_M_type 42 = .ok (.aload_n 0, 1) := by decide +kernel
theorem d_M_type_43 : decode b_M_type 43 = .ok (.getfield 42, 3) := by decide +kernel
theorem d_M_type_46 : decode b_M_type 46 = .ok (.lload_n 1, 1) := by decide +kernel
theorem d_M_type_47 : decode b_M_type 47 = .ok (.bipush 8, 2) := by decide +kernel
theorem d_M_type_49 : decode b_M_type 49 = .ok (.iload 4, 2) := by decide +kernel
theorem d_M_type_51 : decode b_M_type 51 = .ok (.imul, 1) := by decide +kernel
theorem d_M_type_52 : decode b_M_type 52 = .ok (.lshr, 1) := by decide +kernel
theorem d_M_type_53 : decode b_M_type 53 = .ok (.l2i, 1) := by decide +kernel
theorem d_M_type_54 : decode b_M_type 54 = .ok (.i2b, 1) := by decide +kernel
theorem d_M_type_55 : decode b_M_type 55 = .ok (.bastore, 1) := by decide +kernel
theorem d_M_type_56 : decode b_M_type 56 = .ok (.aload_n 0, 1) := by decide +kernel
theorem d_M_type_57 : decode b_M_type 57 = .ok (.dup, 1) := by decide +kernel
theorem d_M_type_58 : decode b_M_type 58 = .ok (.getfield 42, 3) := by decide +kernel
theorem d_M_type_61 : decode b_M_type 61 = .ok (.iconst 1, 1) := by decide +kernel
theorem d_M_type_62 : decode b_M_type 62 = .ok (.iadd, 1) := by decide +kernel
theorem d_M_type_63 : decode b_M_type 63 = .ok (.putfield 42, 3) := by decide +kernel
theorem d_M_type_66 : decode b_M_type 66 = .ok (.iinc 4 (-1), 3) := by decide +kernel
theorem d_M_type_69 : decode b_M_type 69 = .ok (.goto (-36), 3) := by decide +kernel
theorem d_M_type_72 : decode b_M_type 72 = .ok (.aload_n 0, 1) := by decide +kernel
theorem d_M_type_73 : decode b_M_type 73 = .ok (.getfield 42, 3) := by decide +kernel
theorem d_M_type_76 : decode b_M_type 76 = .ok (.ireturn, 1) := by decide +kernel
theorem d_M_set_0 : decode b_M_set 0 = .ok (.aload_n 0, 1) := by decide +kernel
theorem d_M_set_1 : decode b_M_set 1 = .ok (.iload_n 1, 1) := by decide +kernel
theorem d_M_set_2 : decode b_M_set 2 = .ok (.putfield 13, 3) := by decide +kernel
theorem d_M_set_5 : decode b_M_set 5 = .ok (.aload_n 0, 1) := by decide +kernel
theorem d_M_set_6 : decode b_M_set 6 = .ok (.lload_n 2, 1) := by decide +kernel
theorem d_M_set_7 : decode b_M_set 7 = .ok (.putfield 45, 3) := by decide +kernel
theorem d_M_set_10 : decode b_M_set 10 = .ok (.aload_n 0, 1) := by decide +kernel
theorem d_M_set_11 : decode b_M_set 11 = .ok (.lload_n 2, 1) := by decide +kernel
theorem d_M_set_12 : decode b_M_set 12 = .ok (.lconst 0, 1) := by decide +kernel
theorem d_M_set_13 : decode b_M_set 13 = .ok (.lcmp, 1) := by decide +kernel
theorem d_M_set_14 : decode b_M_set 14 = .ok (.ifCond .ne 7, 3) := by decide +kernel
theorem d_M_set_17 : decode b_M_set 17 = .ok (.iconst 0, 1) := by decide +kernel
theorem d_M_set_18 : decode b_M_set 18 = .ok (.goto 5, 3) := by decide +kernel
theorem d_M_set_21 : decode b_M_set 21 = .ok (.iload 4, 2) := by decide +kernel
theorem d_M_set_23 : decode b_M_set 23 = .ok (.putfield 49, 3) := by decide +kernel
theorem d_M_set_26 : decode b_M_set 26 = .ok (.iload_n 1, 1) := by decide +kernel
theorem d_M_set_27 : decode b_M_set 27 = .ok (.iconst 2, 1) := by decide +kernel
theorem d_M_set_28 : decode b_M_set 28 = .ok (.if_icmp .ne 46, 3) := by decide +kernel
theorem d_M_set_31 : decode b_M_set 31 = .ok (.aload_n 0, 1) := by decide +kernel
theorem d_M_set_32 : decode b_M_set 32 = .ok (.getfield 45, 3) := by decide +kernel
theorem d_M_set_35 : decode b_M_set 35 = .ok (.lconst 0, 1) := by decide +kernel
theorem d_M_set_36 : decode b_M_set 36 = .ok (.lcmp, 1) := by decide +kernel
theorem d_M_set_37 : decode b_M_set 37 = .ok (.ifCond .eq 37, 3) := by decide +kernel
theorem d_M_set_40 : decode b_M_set 40 = .ok (.aload_n 0, 1) := by decide +kernel
theorem d_M_set_41 : decode b_M_set 41 = .ok (.getfield 45, 3) := by decide +kernel
theorem d_M_set_44 : decode b_M_set 44 = .ok (.lconst 1, 1) := by decide +kernel
theorem d_M_set_45 : decode b_M_set 45 = .ok (.land, 1) := by decide +kernel
theorem d_M_set_46 : decode b_M_set 46 = .ok (.lconst 0, 1) := by decide +kernel
theorem d_M_set_47 : decode b_M_set 47 = .ok (.lcmp, 1) := by decide +kernel
theorem d_M_set_48 : decode b_M_set 48 = .ok (.ifCond .ne 26, 3) := by decide +kernel
theorem d_M_set_51 : decode b_M_set 51 = .ok (.aload_n 0, 1) := by decide +kernel
theorem d_M_set_52 : decode b_M_set 52 = .ok (.aload_n 0, 1) := by decide +kernel
theorem d_M_set_53 : decode b_M_set 53 = .ok (.getfield 45, 3) := by decide +kernel
theorem d_M_set_56 : decode b_M_set 56 = .ok (.iconst 1, 1) := by decide +kernel
theorem d_M_set_57 : decode b_M_set 57 = .ok (.lshr, 1) := by decide +kernel
theorem d_M_set_58 : decode b_M_set 58 = .ok (.putfield 45, 3) := by decide +kernel
theorem d_M_set_61 : decode b_M_set 61 = .ok (.aload_n 0, 1) := by decide +kernel
theorem d_M_set_62 : decode b_M_set 62 = .ok (.dup, 1) := by decide +kernel
theorem d_M_set_63 : decode b_M_set 63 = .ok (.getfield 49, 3) := by decide +kernel
theorem d_M_set_66 : decode b_M_set 66 = .ok (.iconst 1, 1) := by decide +kernel
theorem d_M_set_67 : decode b_M_set 67 = .ok (.iadd, 1) := by decide +kernel
theorem d_M_set_68 : decode b_M_set 68 = .ok (.putfield 49, 3) := by decide +kernel
theorem d_M_set_71 : decode b_M_set 71 = .ok (.goto (-45), 3) := by decide +kernel
theorem d_M_set_74 : decode b_M_set 74 = .ok (.iload_n 1, 1) := by decide +kernel
theorem d_M_set_75 : decode b_M_set 75 = .ok (.ireturn, 1) := by decide +kernel
theorem d_M_nearest_0 : decode b_M_nearest 0 = .ok (.lload_n 1, 1) := by decide +kernel
theorem d_M_nearest_1 : decode b_M_nearest 1 = .ok (.lconst 0, 1) := by decide +kernel
theorem d_M_nearest_2 : decode b_M_nearest 2 = .ok (.lcmp, 1) := by decide +kernel
theorem d_M_nearest_3 : decode b_M_nearest 3 = .ok (.ifCond .ne 11, 3) := by decide +kernel
theorem d_M_nearest_6 : decode b_M_nearest 6 = .ok (.aload_n 0, 1) := by decide +kernel
theorem d_M_nearest_7 : decode b_M_nearest 7 = .ok (.iconst 2, 1) := by decide +kernel
theorem d_M_nearest_8 : decode b_M_nearest 8 = .ok (.lconst 0, 1) := by decide +kernel
theorem d_M_nearest_9 : decode b_M_nearest 9 = .ok (.iconst 0, 1) := by decide +kernel
theorem d_M_nearest_10 : decode b_M_nearest 10 = .ok (.invokevirtual 52, 3) := by decide +kernel
theorem d_M_nearest_13 : decode b_M_nearest 13 = .ok (.ireturn, 1) := by decide +kernel
theorem d_M_nearest_14 : decode b_M_nearest 14 = .ok (.lload_n 1, 1) := by decide +kernel
theorem d_M_nearest_15 : decode b_M_nearest 15 = .ok (.lstore 5, 2) := by decide +kernel
theorem d_M_nearest_17 : decode b_M_nearest 17 = .ok (.iload_n 3, 1) := by decide +kernel
theorem d_M_nearest_18 : decode b_M_nearest 18 = .ok (.istore 7, 2) := by decide +kernel
theorem d_M_nearest_20 : decode b_M_nearest 20 = .ok (.lload 5, 2) := by decide +kernel
theorem d_M_nearest_22 : decode b_M_nearest 22 = .ok (.ldc2_w 56, 3) := by decide +kernel
theorem d_M_nearest_25 : decode b_M_nearest 25 = .ok (.lcmp, 1) := by decide +kernel
theorem d_M_nearest_26 : decode b_M_nearest 26 = .ok (.ifCond .ge 17, 3) := by decide +kernel
theorem d_M_nearest_29 : decode b_M_nearest 29 = .ok (.ldc2_w 58, 3) := by decide +kernel
theorem d_M_nearest_32 : decode b_M_nearest 32 = .ok (.lload 5, 2) := by decide +kernel
theorem d_M_nearest_34 : decode b_M_nearest 34 = .ok (.lmul, 1) := by decide +kernel
theorem d_M_nearest_35 : decode b_M_nearest 35 = .ok (.lstore 5, 2) := by decide +kernel
theorem d_M_nearest_37 : decode b_M_nearest 37 = .ok (.iinc 7 (-1), 3) := by decide +kernel
theorem d_M_nearest_40 : decode b_M_nearest 40 = .ok (.goto (-20), 3) := by decide +kernel
theorem d_M_nearest_43 : decode b_M_nearest 43 = .ok (.iload 7, 2) := by decide +kernel
theorem d_M_nearest_45 : decode b_M_nearest 45 = .ok (.bipush 9, 2) := by decide +kernel
theorem d_M_nearest_47 : decode b_M_nearest 47 = .ok (.iadd, 1) := by decide +kernel
theorem d_M_nearest_48 : decode b_M_nearest 48 = .ok (.sipush (-1074), 3) := by decide +kernel
theorem d_M_nearest_51 : decode b_M_nearest 51 = .ok (.if_icmp .lt 8, 3) := by decide +kernel
theorem d_M_nearest_54 : decode b_M_nearest 54 = .ok (.bipush 9, 2) := by decide +kernel
theorem d_M_nearest_56 : decode b_M_nearest 56 = .ok (.goto 9, 3) := by decide +kernel
theorem d_M_nearest_59 : decode b_M_nearest 59 = .ok (.sipush (-1074), 3) := by decide +kernel
theorem d_M_nearest_62 : decode b_M_nearest 62 = .ok (.iload 7, 2) := by decide +kernel
theorem d_M_nearest_64 : decode b_M_nearest 64 = .ok (.isub, 1) := by decide +kernel
theorem d_M_nearest_65 : decode b_M_nearest 65 = .ok (.istore 8, 2) := by decide +kernel
theorem d_M_nearest_67 : decode b_M_nearest 67 = .ok (.iload 8, 2) := by decide +kernel
theorem d_M_nearest_69 : decode b_M_nearest 69 = .ok (.bipush 62, 2) := by decide +kernel
theorem d_M_nearest_71 : decode b_M_nearest 71 = .ok (.if_icmp .le 7, 3) := by decide +kernel
theorem d_M_nearest_74 : decode b_M_nearest 74 = .ok (.lconst 0, 1) := by decide +kernel
theorem d_M_nearest_75 : decode b_M_nearest 75 = .ok (.goto 8, 3) := by decide +kernel
theorem d_M_nearest_78 : decode b_M_nearest 78 = .ok (.lload 5, 2) := by decide +kernel
theorem d_M_nearest_80 : decode b_M_nearest 80 = .ok (.iload 8, 2) := by decide +kernel
theorem d_M_nearest_82 : decode b_M_nearest 82 = .ok (.lshr, 1) := by decide +kernel
theorem d_M_nearest_83 : decode b_M_nearest 83 = .ok (.lstore 9, 2) := by decide +kernel
theorem d_M_nearest_85 : decode b_M_nearest 85 = .ok (.iload 8, 2) := by decide +kernel
theorem d_M_nearest_87 : decode b_M_nearest 87 = .ok (.bipush 62, 2) := by decide +kernel
theorem d_M_nearest_89 : decode b_M_nearest 89 = .ok (.if_icmp .gt 58, 3) := by decide +kernel
theorem d_M_nearest_92 : decode b_M_nearest 92 = .ok (.lload 5, 2) := by decide +kernel
theorem d_M_nearest_94 : decode b_M_nearest 94 = .ok (.lload 9, 2) := by decide +kernel
theorem d_M_nearest_96 : decode b_M_nearest 96 = .ok (.iload 8, 2) := by decide +kernel
theorem d_M_nearest_98 : decode b_M_nearest 98 = .ok (.lshl, 1) := by decide +kernel
theorem d_M_nearest_99 : decode b_M_nearest 99 = .ok (.lsub, 1) := by decide +kernel
theorem d_M_nearest_100 : decode b_M_nearest 100 = .ok (.lstore 11, 2) := by decide +kernel
theorem d_M_nearest_102 : decode b_M_nearest 102 = .ok (.lconst 1, 1) := by decide +kernel
theorem d_M_nearest_103 : decode b_M_nearest 103 = .ok (.iload 8, 2) := by decide +kernel
theorem d_M_nearest_105 : decode b_M_nearest 105 = .ok (.iconst 1, 1) := by decide +kernel
theorem d_M_nearest_106 : decode b_M_nearest 106 = .ok (.isub, 1) := by decide +kernel
theorem d_M_nearest_107 : decode b_M_nearest 107 = .ok (.lshl, 1) := by decide +kernel
theorem d_M_nearest_108 : decode b_M_nearest 108 = .ok (.lstore 13, 2) := by decide +kernel
theorem d_M_nearest_110 : decode b_M_nearest 110 = .ok (.lload 9, 2) := by decide +kernel
theorem d_M_nearest_112 : decode b_M_nearest 112 = .ok (.lload 11, 2) := by decide +kernel
theorem d_M_nearest_114 : decode b_M_nearest 114 = .ok (.lload 13, 2) := by decide +kernel
theorem d_M_nearest_116 : decode b_M_nearest 116 = .ok (.lcmp, 1) := by decide +kernel
theorem d_M_nearest_117 : decode b_M_nearest 117 = .ok (.ifCond .gt 22, 3) := by decide +kernel
theorem d_M_nearest_120 : decode b_M_nearest 120 = .ok (.lload 11, 2) := by decide +kernel
theorem d_M_nearest_122 : decode b_M_nearest 122 = .ok (.lload 13, 2) := by decide +kernel
theorem d_M_nearest_124 : decode b_M_nearest 124 = .ok (.lcmp, 1) := by decide +kernel
theorem d_M_nearest_125 : decode b_M_nearest 125 = .ok (.ifCond .ne 18, 3) := by decide +kernel
theorem d_M_nearest_128 : decode b_M_nearest 128 = .ok (.lload 9, 2) := by decide +kernel
theorem d_M_nearest_130 : decode b_M_nearest 130 = .ok (.ldc2_w 58, 3) := by decide +kernel
theorem d_M_nearest_133 : decode b_M_nearest 133 = .ok (.lrem, 1) := by decide +kernel
theorem d_M_nearest_134 : decode b_M_nearest 134 = .ok (.lconst 1, 1) := by decide +kernel
theorem d_M_nearest_135 : decode b_M_nearest 135 = .ok (.lcmp, 1) := by decide +kernel
theorem d_M_nearest_136 : decode b_M_nearest 136 = .ok (.ifCond .ne 7, 3) := by decide +kernel
theorem d_M_nearest_139 : decode b_M_nearest 139 = .ok (.lconst 1, 1) := by decide +kernel
theorem d_M_nearest_140 : decode b_M_nearest 140 = .ok (.goto 4, 3) := by decide +kernel
theorem d_M_nearest_143 : decode b_M_nearest 143 = .ok (.lconst 0, 1) := by decide +kernel
theorem d_M_nearest_144 : decode b_M_nearest 144 = .ok (.ladd, 1) := by decide +kernel
theorem d_M_nearest_145 : decode b_M_nearest 145 = .ok (.lstore 9, 2) := by decide +kernel
theorem d_M_nearest_147 : decode b_M_nearest 147 = .ok (.lload 9, 2) := by decide +kernel
theorem d_M_nearest_149 : decode b_M_nearest 149 = .ok (.ldc2_w 60, 3) := by decide +kernel
theorem d_M_nearest_152 : decode b_M_nearest 152 = .ok (.lcmp, 1) := by decide +kernel
theorem d_M_nearest_153 : decode b_M_nearest 153 = .ok (.ifCond .ne 11, 3) := by decide +kernel
theorem d_M_nearest_156 : decode b_M_nearest 156 = .ok (.ldc2_w 62, 3) := by decide +kernel
theorem d_M_nearest_159 : decode b_M_nearest 159 = .ok (.lstore 9, 2) := by decide +kernel
theorem d_M_nearest_161 : decode b_M_nearest 161 = .ok (.iinc 8 1, 3) := by decide +kernel
theorem d_M_nearest_164 : decode b_M_nearest 164 = .ok (.lload 9, 2) := by decide +kernel
theorem d_M_nearest_166 : decode b_M_nearest 166 = .ok (.ldc2_w 62, 3) := by decide +kernel
theorem d_M_nearest_169 : decode b_M_nearest 169 = .ok (.lcmp, 1) := by decide +kernel
theorem d_M_nearest_170 : decode b_M_nearest 170 = .ok (.ifCond .lt 31, 3) := by decide +kernel
theorem d_M_nearest_173 : decode b_M_nearest 173 = .ok (.iload 7, 2) := by decide +kernel
theorem d_M_nearest_175 : decode b_M_nearest 175 = .ok (.iload 8, 2) := by decide +kernel
theorem d_M_nearest_177 : decode b_M_nearest 177 = .ok (.iadd, 1) := by decide +kernel
theorem d_M_nearest_178 : decode b_M_nearest 178 = .ok (.sipush 971, 3) := by decide +kernel
theorem d_M_nearest_181 : decode b_M_nearest 181 = .ok (.if_icmp .le 20, 3) := by decide +kernel
theorem d_M_nearest_184 : decode b_M_nearest 184 = .ok (.aload_n 0, 1) := by decide +kernel
theorem d_M_nearest_185 : decode b_M_nearest 185 = .ok (.iload 4, 2) := by decide +kernel
theorem d_M_nearest_187 : decode b_M_nearest 187 = .ok (.ifCond .eq 7, 3) := by decide +kernel
theorem d_M_nearest_190 : decode b_M_nearest 190 = .ok (.iconst 4, 1) := by decide +kernel
theorem d_M_nearest_191 : decode b_M_nearest 191 = .ok (.goto 4, 3) := by decide +kernel
theorem d_M_nearest_194 : decode b_M_nearest 194 = .ok (.iconst 3, 1) := by decide +kernel
theorem d_M_nearest_195 : decode b_M_nearest 195 = .ok (.lconst 0, 1) := by decide +kernel
theorem d_M_nearest_196 : decode b_M_nearest 196 = .ok (.iconst 0, 1) := by decide +kernel
theorem d_M_nearest_197 : decode b_M_nearest 197 = .ok (.invokevirtual 52, 3) := by decide +kernel
theorem d_M_nearest_200 : decode b_M_nearest 200 = .ok (.ireturn, 1) := by decide +kernel
theorem d_M_nearest_201 : decode b_M_nearest 201 = .ok (.aload_n 0, 1) := by decide +kernel
theorem d_M_nearest_202 : decode b_M_nearest 202 = .ok (.iconst 2, 1) := by decide +kernel
theorem d_M_nearest_203 : decode b_M_nearest 203 = .ok (.iload 4, 2) := by decide +kernel
theorem d_M_nearest_205 : decode b_M_nearest 205 = .ok (.ifCond .eq 9, 3) := by decide +kernel
theorem d_M_nearest_208 : decode b_M_nearest 208 = .ok (.lload 9, 2) := by decide +kernel
theorem d_M_nearest_210 : decode b_M_nearest 210 = .ok (.lneg, 1) := by decide +kernel
theorem d_M_nearest_211 : decode b_M_nearest 211 = .ok (.goto 5, 3) := by decide +kernel
theorem d_M_nearest_214 : decode b_M_nearest 214 = .ok (.lload 9, 2) := by decide +kernel
theorem d_M_nearest_216 : decode b_M_nearest 216 = .ok (.iload 7, 2) := by decide +kernel
theorem d_M_nearest_218 : decode b_M_nearest 218 = .ok (.iload 8, 2) := by decide +kernel
theorem d_M_nearest_220 : decode b_M_nearest 220 = .ok (.iadd, 1) := by decide +kernel
theorem d_M_nearest_221 : decode b_M_nearest 221 = .ok (.invokevirtual 52, 3) := by decide +kernel
theorem d_M_nearest_224 : decode b_M_nearest 224 = .ok (.ireturn, 1) := by decide +kernel
theorem d_M_nearestWhole_0 : decode b_M_nearestWhole 0 = .ok (.lload_n 1, 1) := by decide +kernel
theorem d_M_nearestWhole_1 : decode b_M_nearestWhole 1 = .ok (.ldc2_w 66, 3) := by decide +kernel
theorem d_M_nearestWhole_4 : decode b_M_nearestWhole 4 = .ok (.lcmp, 1) := by decide +kernel
theorem d_M_nearestWhole_5 : decode b_M_nearestWhole 5 = .ok (.ifCond .ne 14, 3) := by decide +kernel
theorem d_M_nearestWhole_8 : decode b_M_nearestWhole 8 = .ok (.aload_n 0, 1) := by decide +kernel
theorem d_M_nearestWhole_9 : decode b_M_nearestWhole 9 = .ok (.lconst 1, 1) := by decide +kernel
theorem d_M_nearestWhole_10 : decode b_M_nearestWhole 10 = .ok (.bipush 63, 2) := by decide +kernel
theorem d_M_nearestWhole_12 : decode b_M_nearestWhole 12 = .ok (.iload_n 3, 1) := by decide +kernel
theorem d_M_nearestWhole_13 : decode b_M_nearestWhole 13 = .ok (.iadd, 1) := by decide +kernel
theorem d_M_nearestWhole_14 : decode b_M_nearestWhole 14 = .ok (.iconst 1, 1) := by decide +kernel
theorem d_M_nearestWhole_15 : decode b_M_nearestWhole 15 = .ok (.invokevirtual 68, 3) := by decide +kernel
theorem d_M_nearestWhole_18 : decode b_M_nearestWhole 18 = .ok (.ireturn, 1) := by decide +kernel
theorem d_M_nearestWhole_19 : decode b_M_nearestWhole 19 = .ok (.lload_n 1, 1) := by decide +kernel
theorem d_M_nearestWhole_20 : decode b_M_nearestWhole 20 = .ok (.lconst 0, 1) := by decide +kernel
theorem d_M_nearestWhole_21 : decode b_M_nearestWhole 21 = .ok (.lcmp, 1) := by decide +kernel
theorem d_M_nearestWhole_22 : decode b_M_nearestWhole 22 = .ok (.ifCond .ge 8, 3) := by decide +kernel
theorem d_M_nearestWhole_25 : decode b_M_nearestWhole 25 = .ok (.lload_n 1, 1) := by decide +kernel
theorem d_M_nearestWhole_26 : decode b_M_nearestWhole 26 = .ok (.lneg, 1) := by decide +kernel
theorem d_M_nearestWhole_27 : decode b_M_nearestWhole 27 = .ok (.goto 4, 3) := by decide +kernel
theorem d_M_nearestWhole_30 : decode b_M_nearestWhole 30 = .ok (.lload_n 1, 1) := by decide +kernel
theorem d_M_nearestWhole_31 : decode b_M_nearestWhole 31 = .ok (.lstore 4, 2) := by decide +kernel
theorem d_M_nearestWhole_33 : decode b_M_nearestWhole 33 = .ok (.lload 4, 2) := by decide +kernel
theorem d_M_nearestWhole_35 : decode b_M_nearestWhole 35 = .ok (.ldc2_w 72, 3) := by decide +kernel
theorem d_M_nearestWhole_38 : decode b_M_nearestWhole 38 = .ok (.lcmp, 1) := by decide +kernel
theorem d_M_nearestWhole_39 : decode b_M_nearestWhole 39 = .ok (.ifCond .ge 24, 3) := by decide +kernel
theorem d_M_nearestWhole_42 : decode b_M_nearestWhole 42 = .ok (.aload_n 0, 1) := by decide +kernel
theorem d_M_nearestWhole_43 : decode b_M_nearestWhole 43 = .ok (.lload 4, 2) := by decide +kernel
theorem d_M_nearestWhole_45 : decode b_M_nearestWhole 45 = .ok (.iload_n 3, 1) := by decide +kernel
theorem d_M_nearestWhole_46 : decode b_M_nearestWhole 46 = .ok (.lload_n 1, 1) := by decide +kernel
theorem d_M_nearestWhole_47 : decode b_M_nearestWhole 47 = .ok (.lconst 0, 1) := by decide +kernel
theorem d_M_nearestWhole_48 : decode b_M_nearestWhole 48 = .ok (.lcmp, 1) := by decide +kernel
theorem d_M_nearestWhole_49 : decode b_M_nearestWhole 49 = .ok (.ifCond .ge 7, 3) := by decide +kernel
theorem d_M_nearestWhole_52 : decode b_M_nearestWhole 52 = .ok (.iconst 1, 1) := by decide +kernel
theorem d_M_nearestWhole_53 : decode b_M_nearestWhole 53 = .ok (.goto 4, 3) := by decide +kernel
theorem d_M_nearestWhole_56 : decode b_M_nearestWhole 56 = .ok (.iconst 0, 1) := by decide +kernel
theorem d_M_nearestWhole_57 : decode b_M_nearestWhole 57 = .ok (.invokevirtual 68, 3) := by decide +kernel
theorem d_M_nearestWhole_60 : decode b_M_nearestWhole 60 = .ok (.goto 30, 3) := by decide +kernel
theorem d_M_nearestWhole_63 : decode b_M_nearestWhole 63 = .ok (.aload_n 0, 1) := by decide +kernel
theorem d_M_nearestWhole_64 : decode b_M_nearestWhole 64 = .ok (.lload 4, 2) := by decide +kernel
theorem d_M_nearestWhole_66 : decode b_M_nearestWhole 66 = .ok (.iconst 1, 1) := by decide +kernel
theorem d_M_nearestWhole_67 : decode b_M_nearestWhole 67 = .ok (.lshr, 1) := by decide +kernel
theorem d_M_nearestWhole_68 : decode b_M_nearestWhole 68 = .ok (.lload 4, 2) := by decide +kernel
theorem d_M_nearestWhole_70 : decode b_M_nearestWhole 70 = .ok (.lconst 1, 1) := by decide +kernel
theorem d_M_nearestWhole_71 : decode b_M_nearestWhole 71 = .ok (.land, 1) := by decide +kernel
theorem d_M_nearestWhole_72 : decode b_M_nearestWhole 72 = .ok (.lor, 1) := by decide +kernel
theorem d_M_nearestWhole_73 : decode b_M_nearestWhole 73 = .ok (.iload_n 3, 1) := by decide +kernel
theorem d_M_nearestWhole_74 : decode b_M_nearestWhole 74 = .ok (.iconst 1, 1) := by decide +kernel
theorem d_M_nearestWhole_75 : decode b_M_nearestWhole 75 = .ok (.iadd, 1) := by decide +kernel
theorem d_M_nearestWhole_76 : decode b_M_nearestWhole 76 = .ok (.lload_n 1, 1) := by decide +kernel
theorem d_M_nearestWhole_77 : decode b_M_nearestWhole 77 = .ok (.lconst 0, 1) := by decide +kernel
theorem d_M_nearestWhole_78 : decode b_M_nearestWhole 78 = .ok (.lcmp, 1) := by decide +kernel
theorem d_M_nearestWhole_79 : decode b_M_nearestWhole 79 = .ok (.ifCond .ge 7, 3) := by decide +kernel
theorem d_M_nearestWhole_82 : decode b_M_nearestWhole 82 = .ok (.iconst 1, 1) := by decide +kernel
theorem d_M_nearestWhole_83 : decode b_M_nearestWhole 83 = .ok (.goto 4, 3) := by decide +kernel
theorem d_M_nearestWhole_86 : decode b_M_nearestWhole 86 = .ok (.iconst 0, 1) := by decide +kernel
theorem d_M_nearestWhole_87 : decode b_M_nearestWhole 87 = .ok (.invokevirtual 68, 3) := by decide +kernel
theorem d_M_nearestWhole_90 : decode b_M_nearestWhole 90 = .ok (.ireturn, 1) := by decide +kernel
theorem d_M_whole_0 : decode b_M_whole 0 = .ok (.aload_n 0, 1) := by decide +kernel
theorem d_M_whole_1 : decode b_M_whole 1 = .ok (.iconst 1, 1) := by decide +kernel
theorem d_M_whole_2 : decode b_M_whole 2 = .ok (.lload_n 1, 1) := by decide +kernel
theorem d_M_whole_3 : decode b_M_whole 3 = .ok (.iconst 0, 1) := by decide +kernel
theorem d_M_whole_4 : decode b_M_whole 4 = .ok (.invokevirtual 52, 3) := by decide +kernel
theorem d_M_whole_7 : decode b_M_whole 7 = .ok (.pop, 1) := by decide +kernel
theorem d_M_whole_8 : decode b_M_whole 8 = .ok (.return_, 1) := by decide +kernel
theorem d_M_real_0 : decode b_M_real 0 = .ok (.lload_n 1, 1) := by decide +kernel
theorem d_M_real_1 : decode b_M_real 1 = .ok (.ldc2_w 74, 3) := by decide +kernel
theorem d_M_real_4 : decode b_M_real 4 = .ok (.lcmp, 1) := by decide +kernel
theorem d_M_real_5 : decode b_M_real 5 = .ok (.ifCond .lt 25, 3) := by decide +kernel
theorem d_M_real_8 : decode b_M_real 8 = .ok (.lload_n 1, 1) := by decide +kernel
theorem d_M_real_9 : decode b_M_real 9 = .ok (.ldc2_w 60, 3) := by decide +kernel
theorem d_M_real_12 : decode b_M_real 12 = .ok (.lcmp, 1) := by decide +kernel
theorem d_M_real_13 : decode b_M_real 13 = .ok (.ifCond .gt 17, 3) := by decide +kernel
theorem d_M_real_16 : decode b_M_real 16 = .ok (.iload_n 3, 1) := by decide +kernel
theorem d_M_real_17 : decode b_M_real 17 = .ok (.sipush (-1200), 3) := by decide +kernel
theorem d_M_real_20 : decode b_M_real 20 = .ok (.if_icmp .lt 10, 3) := by decide +kernel
theorem d_M_real_23 : decode b_M_real 23 = .ok (.iload_n 3, 1) := by decide +kernel
theorem d_M_real_24 : decode b_M_real 24 = .ok (.sipush 1200, 3) := by decide +kernel
theorem d_M_real_27 : decode b_M_real 27 = .ok (.if_icmp .le 5, 3) := by decide +kernel
theorem d_M_real_30 : decode b_M_real 30 = .ok (.iconst (-1), 1) := by decide +kernel
theorem d_M_real_31 : decode b_M_real 31 = .ok (.ireturn, 1) := by decide +kernel
theorem d_M_real_32 : decode b_M_real 32 = .ok (.aload_n 0, 1) := by decide +kernel
theorem d_M_real_33 : decode b_M_real 33 = .ok (.lload_n 1, 1) := by decide +kernel
theorem d_M_real_34 : decode b_M_real 34 = .ok (.iload_n 3, 1) := by decide +kernel
theorem d_M_real_35 : decode b_M_real 35 = .ok (.invokevirtual 76, 3) := by decide +kernel
theorem d_M_real_38 : decode b_M_real 38 = .ok (.ireturn, 1) := by decide +kernel
theorem d_M_special_0 : decode b_M_special 0 = .ok (.iload_n 1, 1) := by decide +kernel
theorem d_M_special_1 : decode b_M_special 1 = .ok (.iconst 3, 1) := by decide +kernel
theorem d_M_special_2 : decode b_M_special 2 = .ok (.if_icmp .lt 8, 3) := by decide +kernel
theorem d_M_special_5 : decode b_M_special 5 = .ok (.iload_n 1, 1) := by decide +kernel
theorem d_M_special_6 : decode b_M_special 6 = .ok (.iconst 5, 1) := by decide +kernel
theorem d_M_special_7 : decode b_M_special 7 = .ok (.if_icmp .le 5, 3) := by decide +kernel
theorem d_M_special_10 : decode b_M_special 10 = .ok (.iconst 0, 1) := by decide +kernel
theorem d_M_special_11 : decode b_M_special 11 = .ok (.ireturn, 1) := by decide +kernel
theorem d_M_special_12 : decode b_M_special 12 = .ok (.aload_n 0, 1) := by decide +kernel
theorem d_M_special_13 : decode b_M_special 13 = .ok (.iload_n 1, 1) := by decide +kernel
theorem d_M_special_14 : decode b_M_special 14 = .ok (.lconst 0, 1) := by decide +kernel
theorem d_M_special_15 : decode b_M_special 15 = .ok (.iconst 0, 1) := by decide +kernel
theorem d_M_special_16 : decode b_M_special 16 = .ok (.invokevirtual 52, 3) := by decide +kernel
theorem d_M_special_19 : decode b_M_special 19 = .ok (.pop, 1) := by decide +kernel
theorem d_M_special_20 : decode b_M_special 20 = .ok (.iconst 1, 1) := by decide +kernel
theorem d_M_special_21 : decode b_M_special 21 = .ok (.ireturn, 1) := by decide +kernel
theorem d_M_kind_0 : decode b_M_kind 0 = .ok (.aload_n 0, 1) := by decide +kernel
theorem d_M_kind_1 : decode b_M_kind 1 = .ok (.getfield 13, 3) := by decide +kernel
theorem d_M_kind_4 : decode b_M_kind 4 = .ok (.ireturn, 1) := by decide +kernel
theorem d_M_number_0 : decode b_M_number 0 = .ok (.aload_n 0, 1) := by decide +kernel
theorem d_M_number_1 : decode b_M_number 1 = .ok (.getfield 45, 3) := by decide +kernel
theorem d_M_number_4 : decode b_M_number 4 = .ok (.lreturn, 1) := by decide +kernel
theorem d_M_exponent_0 : decode b_M_exponent 0 = .ok (.aload_n 0, 1) := by decide +kernel
theorem d_M_exponent_1 : decode b_M_exponent 1 = .ok (.getfield 13, 3) := by decide +kernel
theorem d_M_exponent_4 : decode b_M_exponent 4 = .ok (.iconst 2, 1) := by decide +kernel
theorem d_M_exponent_5 : decode b_M_exponent 5 = .ok (.if_icmp .ne 10, 3) := by decide +kernel
theorem d_M_exponent_8 : decode b_M_exponent 8 = .ok (.aload_n 0, 1) := by decide +kernel
theorem d_M_exponent_9 : decode b_M_exponent 9 = .ok (.getfield 49, 3) := by decide +kernel
theorem d_M_exponent_12 : decode b_M_exponent 12 = .ok (.goto 4, 3) := by decide +kernel
theorem d_M_exponent_15 : decode b_M_exponent 15 = .ok (.iconst 0, 1) := by decide +kernel
theorem d_M_exponent_16 : decode b_M_exponent 16 = .ok (.ireturn, 1) := by decide +kernel
theorem d_M_isBlank_0 : decode b_M_isBlank 0 = .ok (.iload_n 0, 1) := by decide +kernel
theorem d_M_isBlank_1 : decode b_M_isBlank 1 = .ok (.bipush 32, 2) := by decide +kernel
theorem d_M_isBlank_3 : decode b_M_isBlank 3 = .ok (.if_icmp .eq 15, 3) := by decide +kernel
theorem d_M_isBlank_6 : decode b_M_isBlank 6 = .ok (.iload_n 0, 1) := by decide +kernel
theorem d_M_isBlank_7 : decode b_M_isBlank 7 = .ok (.bipush 9, 2) := by decide +kernel
theorem d_M_isBlank_9 : decode b_M_isBlank 9 = .ok (.if_icmp .lt 13, 3) := by decide +kernel
theorem d_M_isBlank_12 : decode b_M_isBlank 12 = .ok (.iload_n 0, 1) := by decide +kernel
theorem d_M_isBlank_13 : decode b_M_isBlank 13 = .ok (.bipush 13, 2) := by decide +kernel
theorem d_M_isBlank_15 : decode b_M_isBlank 15 = .ok (.if_icmp .gt 7, 3) := by decide +kernel
theorem d_M_isBlank_18 : decode b_M_isBlank 18 = .ok (.iconst 1, 1) := by decide +kernel
theorem d_M_isBlank_19 : decode b_M_isBlank 19 = .ok (.goto 4, 3) := by decide +kernel
theorem d_M_isBlank_22 : decode b_M_isBlank 22 = .ok (.iconst 0, 1) := by decide +kernel
theorem d_M_isBlank_23 : decode b_M_isBlank 23 = .ok (.ireturn, 1) := by decide +kernel
