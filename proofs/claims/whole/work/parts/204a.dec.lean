theorem d_M_times_0 : decode b_M_times 0 = .ok (.lconst 0, 1) := by decide +kernel
theorem d_M_times_1 : decode b_M_times 1 = .ok (.lstore_n 2, 1) := by decide +kernel
theorem d_M_times_2 : decode b_M_times 2 = .ok (.iconst 0, 1) := by decide +kernel
theorem d_M_times_3 : decode b_M_times 3 = .ok (.istore 4, 2) := by decide +kernel
theorem d_M_times_5 : decode b_M_times 5 = .ok (.iload 4, 2) := by decide +kernel
theorem d_M_times_7 : decode b_M_times 7 = .ok (.aload_n 0, 1) := by decide +kernel
theorem d_M_times_8 : decode b_M_times 8 = .ok (.getfield 196, 3) := by decide +kernel
theorem d_M_times_11 : decode b_M_times 11 = .ok (.if_icmp .ge 42, 3) := by decide +kernel
theorem d_M_times_14 : decode b_M_times 14 = .ok (.lload_n 2, 1) := by decide +kernel
theorem d_M_times_15 : decode b_M_times 15 = .ok (.aload_n 0, 1) := by decide +kernel
theorem d_M_times_16 : decode b_M_times 16 = .ok (.getfield 27, 3) := by decide +kernel
theorem d_M_times_19 : decode b_M_times 19 = .ok (.iload 4, 2) := by decide +kernel
theorem d_M_times_21 : decode b_M_times 21 = .ok (.iaload, 1) := by decide +kernel
theorem d_M_times_22 : decode b_M_times 22 = .ok (.i2l, 1) := by decide +kernel
theorem d_M_times_23 : decode b_M_times 23 = .ok (.iload_n 1, 1) := by decide +kernel
theorem d_M_times_24 : decode b_M_times 24 = .ok (.i2l, 1) := by decide +kernel
theorem d_M_times_25 : decode b_M_times 25 = .ok (.lmul, 1) := by decide +kernel
theorem d_M_times_26 : decode b_M_times 26 = .ok (.ladd, 1) := by decide +kernel
theorem d_M_times_27 : decode b_M_times 27 = .ok (.lstore_n 2, 1) := by decide +kernel
theorem d_M_times_28 : decode b_M_times 28 = .ok (.aload_n 0, 1) := by decide +kernel
theorem d_M_times_29 : decode b_M_times 29 = .ok (.getfield 27, 3) := by decide +kernel
theorem d_M_times_32 : decode b_M_times 32 = .ok (.iload 4, 2) := by decide +kernel
theorem d_M_times_34 : decode b_M_times 34 = .ok (.lload_n 2, 1) := by decide +kernel
theorem d_M_times_35 : decode b_M_times 35 = .ok (.ldc2_w 199, 3) := by decide +kernel
theorem d_M_times_38 : decode b_M_times 38 = .ok (.lrem, 1) := by decide +kernel
theorem d_M_times_39 : decode b_M_times 39 = .ok (.l2i, 1) := by decide +kernel
theorem d_M_times_40 : decode b_M_times 40 = .ok (.iastore, 1) := by decide +kernel
theorem d_M_times_41 : decode b_M_times 41 = .ok (.lload_n 2, 1) := by decide +kernel
theorem d_M_times_42 : decode b_M_times 42 = .ok (.ldc2_w 199, 3) := by decide +kernel
theorem d_M_times_45 : decode b_M_times 45 = .ok (.ldiv, 1) := by decide +kernel
theorem d_M_times_46 : decode b_M_times 46 = .ok (.lstore_n 2, 1) := by decide +kernel
theorem d_M_times_47 : decode b_M_times 47 = .ok (.iinc 4 1, 3) := by decide +kernel
theorem d_M_times_50 : decode b_M_times 50 = .ok (.goto (-45), 3) := by decide +kernel
theorem d_M_times_53 : decode b_M_times 53 = .ok (.lload_n 2, 1) := by decide +kernel
theorem d_M_times_54 : decode b_M_times 54 = .ok (.lconst 0, 1) := by decide +kernel
theorem d_M_times_55 : decode b_M_times 55 = .ok (.lcmp, 1) := by decide +kernel
theorem d_M_times_56 : decode b_M_times 56 = .ok (.ifCond .le 24, 3) := by decide +kernel
theorem d_M_times_59 : decode b_M_times 59 = .ok (.aload_n 0, 1) := by decide +kernel
theorem d_M_times_60 : decode b_M_times 60 = .ok (.getfield 27, 3) := by decide +kernel
theorem d_M_times_63 : decode b_M_times 63 = .ok (.aload_n 0, 1) := by decide +kernel
theorem d_M_times_64 : decode b_M_times 64 = .ok (.getfield 196, 3) := by decide +kernel
theorem d_M_times_67 : decode b_M_times 67 = .ok (.lload_n 2, 1) := by decide +kernel
theorem d_M_times_68 : decode b_M_times 68 = .ok (.l2i, 1) := by decide +kernel
theorem d_M_times_69 : decode b_M_times 69 = .ok (.iastore, 1) := by decide +kernel
theorem d_M_times_70 : decode b_M_times 70 = .ok (.aload_n 0, 1) := by decide +kernel
theorem d_M_times_71 : decode b_M_times 71 = .ok (.dup, 1) := by decide +kernel
theorem d_M_times_72 : decode b_M_times 72 = .ok (.getfield 196, 3) := by decide +kernel
theorem d_M_times_75 : decode b_M_times 75 = .ok (.iconst 1, 1) := by decide +kernel
theorem d_M_times_76 : decode b_M_times 76 = .ok (.iadd, 1) := by decide +kernel
theorem d_M_times_77 : decode b_M_times 77 = .ok (.putfield 196, 3) := by decide +kernel
theorem d_M_times_80 : decode b_M_times 80 = .ok (.return_, 1) := by decide +kernel
theorem d_M_expand_0 : decode b_M_expand 0 = .ok (.aload_n 0, 1) := by decide +kernel
theorem d_M_expand_1 : decode b_M_expand 1 = .ok (.iconst 0, 1) := by decide +kernel
theorem d_M_expand_2 : decode b_M_expand 2 = .ok (.putfield 196, 3) := by decide +kernel
theorem d_M_expand_5 : decode b_M_expand 5 = .ok (.lload_n 1, 1) := by decide +kernel
theorem d_M_expand_6 : decode b_M_expand 6 = .ok (.lstore 4, 2) := by decide +kernel
theorem d_M_expand_8 : decode b_M_expand 8 = .ok (.lload 4, 2) := by decide +kernel
theorem d_M_expand_10 : decode b_M_expand 10 = .ok (.lconst 0, 1) := by decide +kernel
theorem d_M_expand_11 : decode b_M_expand 11 = .ok (.lcmp, 1) := by decide +kernel
theorem d_M_expand_12 : decode b_M_expand 12 = .ok (.ifCond .le 40, 3) := by decide +kernel
theorem d_M_expand_15 : decode b_M_expand 15 = .ok (.aload_n 0, 1) := by decide +kernel
theorem d_M_expand_16 : decode b_M_expand 16 = .ok (.getfield 27, 3) := by decide +kernel
theorem d_M_expand_19 : decode b_M_expand 19 = .ok (.aload_n 0, 1) := by decide +kernel
theorem d_M_expand_20 : decode b_M_expand 20 = .ok (.getfield 196, 3) := by decide +kernel
theorem d_M_expand_23 : decode b_M_expand 23 = .ok (.lload 4, 2) := by decide +kernel
theorem d_M_expand_25 : decode b_M_expand 25 = .ok (.ldc2_w 199, 3) := by decide +kernel
theorem d_M_expand_28 : decode b_M_expand 28 = .ok (.lrem, 1) := by decide +kernel
theorem d_M_expand_29 : decode b_M_expand 29 = .ok (.l2i, 1) := by decide +kernel
theorem d_M_expand_30 : decode b_M_expand 30 = .ok (.iastore, 1) := by decide +kernel
theorem d_M_expand_31 : decode b_M_expand 31 = .ok (.aload_n 0, 1) := by decide +kernel
theorem d_M_expand_32 : decode b_M_expand 32 = .ok (.dup, 1) := by decide +kernel
theorem d_M_expand_33 : decode b_M_expand 33 = .ok (.getfield 196, 3) := by decide +kernel
theorem d_M_expand_36 : decode b_M_expand 36 = .ok (.iconst 1, 1) := by decide +kernel
theorem d_M_expand_37 : decode b_M_expand 37 = .ok (.iadd, 1) := by decide +kernel
theorem d_M_expand_38 : decode b_M_expand 38 = .ok (.putfield 196, 3) := by decide +kernel
theorem d_M_expand_41 : decode b_M_expand 41 = .ok (.lload 4, 2) := by decide +kernel
theorem d_M_expand_43 : decode b_M_expand 43 = .ok (.ldc2_w 199, 3) := by decide +kernel
theorem d_M_expand_46 : decode b_M_expand 46 = .ok (.ldiv, 1) := by decide +kernel
theorem d_M_expand_47 : decode b_M_expand 47 = .ok (.lstore 4, 2) := by decide +kernel
theorem d_M_expand_49 : decode b_M_expand 49 = .ok (.goto (-41), 3) := by decide +kernel
theorem d_M_expand_52 : decode b_M_expand 52 = .ok (.iconst 0, 1) := by decide +kernel
theorem d_M_expand_53 : decode b_M_expand 53 = .ok (.istore 4, 2) := by decide +kernel
theorem d_M_expand_55 : decode b_M_expand 55 = .ok (.iload 4, 2) := by decide +kernel
theorem d_M_expand_57 : decode b_M_expand 57 = .ok (.iload_n 3, 1) := by decide +kernel
theorem d_M_expand_58 : decode b_M_expand 58 = .ok (.if_icmp .ge 14, 3) := by decide +kernel
theorem d_M_expand_61 : decode b_M_expand 61 = .ok (.aload_n 0, 1) := by decide +kernel
theorem d_M_expand_62 : decode b_M_expand 62 = .ok (.iconst 2, 1) := by decide +kernel
theorem d_M_expand_63 : decode b_M_expand 63 = .ok (.invokevirtual 201, 3) := by decide +kernel
theorem d_M_expand_66 : decode b_M_expand 66 = .ok (.iinc 4 1, 3) := by decide +kernel
theorem d_M_expand_69 : decode b_M_expand 69 = .ok (.goto (-14), 3) := by decide +kernel
theorem d_M_expand_72 : decode b_M_expand 72 = .ok (.iconst 0, 1) := by decide +kernel
theorem d_M_expand_73 : decode b_M_expand 73 = .ok (.istore 4, 2) := by decide +kernel
theorem d_M_expand_75 : decode b_M_expand 75 = .ok (.iload 4, 2) := by decide +kernel
theorem d_M_expand_77 : decode b_M_expand 77 = .ok (.iload_n 3, 1) := by decide +kernel
theorem d_M_expand_78 : decode b_M_expand 78 = .ok (.ineg, 1) := by decide +kernel
theorem d_M_expand_79 : decode b_M_expand 79 = .ok (.if_icmp .ge 14, 3) := by decide +kernel
theorem d_M_expand_82 : decode b_M_expand 82 = .ok (.aload_n 0, 1) := by decide +kernel
theorem d_M_expand_83 : decode b_M_expand 83 = .ok (.iconst 5, 1) := by decide +kernel
theorem d_M_expand_84 : decode b_M_expand 84 = .ok (.invokevirtual 201, 3) := by decide +kernel
theorem d_M_expand_87 : decode b_M_expand 87 = .ok (.iinc 4 1, 3) := by decide +kernel
theorem d_M_expand_90 : decode b_M_expand 90 = .ok (.goto (-15), 3) := by decide +kernel
theorem d_M_expand_93 : decode b_M_expand 93 = .ok (.aload_n 0, 1) := by decide +kernel
theorem d_M_expand_94 : decode b_M_expand 94 = .ok (.iconst 0, 1) := by decide +kernel
theorem d_M_expand_95 : decode b_M_expand 95 = .ok (.putfield 205, 3) := by decide +kernel
theorem d_M_expand_98 : decode b_M_expand 98 = .ok (.aload_n 0, 1) := by decide +kernel
theorem d_M_expand_99 : decode b_M_expand 99 = .ok (.getfield 196, 3) := by decide +kernel
theorem d_M_expand_102 : decode b_M_expand 102 = .ok (.iconst 1, 1) := by decide +kernel
theorem d_M_expand_103 : decode b_M_expand 103 = .ok (.isub, 1) := by decide +kernel
theorem d_M_expand_104 : decode b_M_expand 104 = .ok (.istore 4, 2) := by decide +kernel
theorem d_M_expand_106 : decode b_M_expand 106 = .ok (.iload 4, 2) := by decide +kernel
theorem d_M_expand_108 : decode b_M_expand 108 = .ok (.ifCond .lt 80, 3) := by decide +kernel
theorem d_M_expand_111 : decode b_M_expand 111 = .ok (.ldc 208, 2) := by decide +kernel
theorem d_M_expand_113 : decode b_M_expand 113 = .ok (.istore 5, 2) := by decide +kernel
theorem d_M_expand_115 : decode b_M_expand 115 = .ok (.iload 5, 2) := by decide +kernel
theorem d_M_expand_117 : decode b_M_expand 117 = .ok (.ifCond .le 65, 3) := by decide +kernel
theorem d_M_expand_120 : decode b_M_expand 120 = .ok (.aload_n 0, 1) := by decide +kernel
theorem d_M_expand_121 : decode b_M_expand 121 = .ok (.getfield 27, 3) := by decide +kernel
theorem d_M_expand_124 : decode b_M_expand 124 = .ok (.iload 4, 2) := by decide +kernel
theorem d_M_expand_126 : decode b_M_expand 126 = .ok (.iaload, 1) := by decide +kernel
theorem d_M_expand_127 : decode b_M_expand 127 = .ok (.iload 5, 2) := by decide +kernel
theorem d_M_expand_129 : decode b_M_expand 129 = .ok (.idiv, 1) := by decide +kernel
theorem d_M_expand_130 : decode b_M_expand 130 = .ok (.bipush 10, 2) := by decide +kernel
theorem d_M_expand_132 : decode b_M_expand 132 = .ok (.irem, 1) := by decide +kernel
theorem d_M_expand_133 : decode b_M_expand 133 = .ok (.istore 6, 2) := by decide +kernel
theorem d_M_expand_135 : decode b_M_expand 135 = .ok (.aload_n 0, 1) := by decide +kernel
theorem d_M_expand_136 : decode b_M_expand 136 = .ok (.getfield 205, 3) := by decide +kernel
theorem d_M_expand_139 : decode b_M_expand 139 = .ok (.ifCond .ne 11, 3) := by decide +kernel
theorem d_M_expand_142 : decode b_M_expand 142 = .ok (.iload 6, 2) := by decide +kernel
theorem d_M_expand_144 : decode b_M_expand 144 = .ok (.ifCond .ne 6, 3) := by decide +kernel
theorem d_M_expand_147 : decode b_M_expand 147 = .ok (.goto 25, 3) := by decide +kernel
theorem d_M_expand_150 : decode b_M_expand 150 = .ok (.aload_n 0, 1) := by decide +kernel
theorem d_M_expand_151 : decode b_M_expand 151 = .ok (.getfield 30, 3) := by decide +kernel
theorem d_M_expand_154 : decode b_M_expand 154 = .ok (.aload_n 0, 1) := by decide +kernel
theorem d_M_expand_155 : decode b_M_expand 155 = .ok (.getfield 205, 3) := by decide +kernel
theorem d_M_expand_158 : decode b_M_expand 158 = .ok (.iload 6, 2) := by decide +kernel
theorem d_M_expand_160 : decode b_M_expand 160 = .ok (.i2b, 1) := by decide +kernel
theorem d_M_expand_161 : decode b_M_expand 161 = .ok (.bastore, 1) := by decide +kernel
theorem d_M_expand_162 : decode b_M_expand 162 = .ok (.aload_n 0, 1) := by decide +kernel
theorem d_M_expand_163 : decode b_M_expand 163 = .ok (.dup, 1) := by decide +kernel
theorem d_M_expand_164 : decode b_M_expand 164 = .ok (.getfield 205, 3) := by decide +kernel
theorem d_M_expand_167 : decode b_M_expand 167 = .ok (.iconst 1, 1) := by decide +kernel
theorem d_M_expand_168 : decode b_M_expand 168 = .ok (.iadd, 1) := by decide +kernel
theorem d_M_expand_169 : decode b_M_expand 169 = .ok (.putfield 205, 3) := by decide +kernel
theorem d_M_expand_172 : decode b_M_expand 172 = .ok (.iload 5, 2) := by decide +kernel
theorem d_M_expand_174 : decode b_M_expand 174 = .ok (.bipush 10, 2) := by decide +kernel
theorem d_M_expand_176 : decode b_M_expand 176 = .ok (.idiv, 1) := by decide +kernel
theorem d_M_expand_177 : decode b_M_expand 177 = .ok (.istore 5, 2) := by decide +kernel
theorem d_M_expand_179 : decode b_M_expand 179 = .ok (.goto (-64), 3) := by decide +kernel
theorem d_M_expand_182 : decode b_M_expand 182 = .ok (.iinc 4 (-1), 3) := by decide +kernel
theorem d_M_expand_185 : decode b_M_expand 185 = .ok (.goto (-79), 3) := by decide +kernel
theorem d_M_expand_188 : decode b_M_expand 188 = .ok (.aload_n 0, 1) := by decide +kernel
theorem d_M_expand_189 : decode b_M_expand 189 = .ok (.iload_n 3, 1) := by decide +kernel
theorem d_M_expand_190 : decode b_M_expand 190 = .ok (.ifCond .ge 12, 3) := by decide +kernel
theorem d_M_expand_193 : decode b_M_expand 193 = .ok (.aload_n 0, 1) := by decide +kernel
theorem d_M_expand_194 : decode b_M_expand 194 = .ok (.getfield 205, 3) := by decide +kernel
theorem d_M_expand_197 : decode b_M_expand 197 = .ok (.iload_n 3, 1) := by decide +kernel
theorem d_M_expand_198 : decode b_M_expand 198 = .ok (.iadd, 1) := by decide +kernel
theorem d_M_expand_199 : decode b_M_expand 199 = .ok (.goto 7, 3) := by decide +kernel
theorem d_M_expand_202 : decode b_M_expand 202 = .ok (.aload_n 0, 1) := by decide +kernel
theorem d_M_expand_203 : decode b_M_expand 203 = .ok (.getfield 205, 3) := by decide +kernel
theorem d_M_expand_206 : decode b_M_expand 206 = .ok (.putfield 209, 3) := by decide +kernel
theorem d_M_expand_209 : decode b_M_expand 209 = .ok (.return_, 1) := by decide +kernel
theorem d_M_expandValue_0 : decode b_M_expandValue 0 = .ok (.aload_n 0, 1) := by decide +kernel
theorem d_M_expandValue_1 : decode b_M_expandValue 1 = .ok (.iconst 0, 1) := by decide +kernel
theorem d_M_expandValue_2 : decode b_M_expandValue 2 = .ok (.putfield 205, 3) := by decide +kernel
theorem d_M_expandValue_5 : decode b_M_expandValue 5 = .ok (.aload_n 0, 1) := by decide +kernel
theorem d_M_expandValue_6 : decode b_M_expandValue 6 = .ok (.iconst 1, 1) := by decide +kernel
theorem d_M_expandValue_7 : decode b_M_expandValue 7 = .ok (.putfield 209, 3) := by decide +kernel
theorem d_M_expandValue_10 : decode b_M_expandValue 10 = .ok (.aload_n 0, 1) := by decide +kernel
theorem d_M_expandValue_11 : decode b_M_expandValue 11 = .ok (.getfield 45, 3) := by decide +kernel
theorem d_M_expandValue_14 : decode b_M_expandValue 14 = .ok (.lconst 0, 1) := by decide +kernel
theorem d_M_expandValue_15 : decode b_M_expandValue 15 = .ok (.lcmp, 1) := by decide +kernel
theorem d_M_expandValue_16 : decode b_M_expandValue 16 = .ok (.ifCond .eq 32, 3) := by decide +kernel
theorem d_M_expandValue_19 : decode b_M_expandValue 19 = .ok (.aload_n 0, 1) := by decide +kernel
theorem d_M_expandValue_20 : decode b_M_expandValue 20 = .ok (.aload_n 0, 1) := by decide +kernel
theorem d_M_expandValue_21 : decode b_M_expandValue 21 = .ok (.getfield 45, 3) := by decide +kernel
theorem d_M_expandValue_24 : decode b_M_expandValue 24 = .ok (.lconst 0, 1) := by decide +kernel
theorem d_M_expandValue_25 : decode b_M_expandValue 25 = .ok (.lcmp, 1) := by decide +kernel
theorem d_M_expandValue_26 : decode b_M_expandValue 26 = .ok (.ifCond .ge 11, 3) := by decide +kernel
theorem d_M_expandValue_29 : decode b_M_expandValue 29 = .ok (.aload_n 0, 1) := by decide +kernel
theorem d_M_expandValue_30 : decode b_M_expandValue 30 = .ok (.getfield 45, 3) := by decide +kernel
theorem d_M_expandValue_33 : decode b_M_expandValue 33 = .ok (.lneg, 1) := by decide +kernel
theorem d_M_expandValue_34 : decode b_M_expandValue 34 = .ok (.goto 7, 3) := by decide +kernel
theorem d_M_expandValue_37 : decode b_M_expandValue 37 = .ok (.aload_n 0, 1) := by decide +kernel
theorem d_M_expandValue_38 : decode b_M_expandValue 38 = .ok (.getfield 45, 3) := by decide +kernel
theorem d_M_expandValue_41 : decode b_M_expandValue 41 = .ok (.aload_n 0, 1) := by decide +kernel
theorem d_M_expandValue_42 : decode b_M_expandValue 42 = .ok (.getfield 49, 3) := by decide +kernel
theorem d_M_expandValue_45 : decode b_M_expandValue 45 = .ok (.invokevirtual 212, 3) := by decide +kernel
theorem d_M_expandValue_48 : decode b_M_expandValue 48 = .ok (.return_, 1) := by decide +kernel
theorem d_M_roundTo_0 : decode b_M_roundTo 0 = .ok (.aload_n 0, 1) := by decide +kernel
theorem d_M_roundTo_1 : decode b_M_roundTo 1 = .ok (.iload_n 1, 1) := by decide +kernel
theorem d_M_roundTo_2 : decode b_M_roundTo 2 = .ok (.ifCond .ge 7, 3) := by decide +kernel
theorem d_M_roundTo_5 : decode b_M_roundTo 5 = .ok (.iconst 0, 1) := by decide +kernel
theorem d_M_roundTo_6 : decode b_M_roundTo 6 = .ok (.goto 4, 3) := by decide +kernel
theorem d_M_roundTo_9 : decode b_M_roundTo 9 = .ok (.iload_n 1, 1) := by decide +kernel
theorem d_M_roundTo_10 : decode b_M_roundTo 10 = .ok (.putfield 216, 3) := by decide +kernel
theorem d_M_roundTo_13 : decode b_M_roundTo 13 = .ok (.aload_n 0, 1) := by decide +kernel
theorem d_M_roundTo_14 : decode b_M_roundTo 14 = .ok (.aload_n 0, 1) := by decide +kernel
theorem d_M_roundTo_15 : decode b_M_roundTo 15 = .ok (.getfield 209, 3) := by decide +kernel
theorem d_M_roundTo_18 : decode b_M_roundTo 18 = .ok (.putfield 219, 3) := by decide +kernel
theorem d_M_roundTo_21 : decode b_M_roundTo 21 = .ok (.iconst 0, 1) := by decide +kernel
theorem d_M_roundTo_22 : decode b_M_roundTo 22 = .ok (.istore_n 2, 1) := by decide +kernel
theorem d_M_roundTo_23 : decode b_M_roundTo 23 = .ok (.iload_n 2, 1) := by decide +kernel
theorem d_M_roundTo_24 : decode b_M_roundTo 24 = .ok (.aload_n 0, 1) := by decide +kernel
theorem d_M_roundTo_25 : decode b_M_roundTo 25 = .ok (.getfield 216, 3) := by decide +kernel
theorem d_M_roundTo_28 : decode b_M_roundTo 28 = .ok (.if_icmp .ge 33, 3) := by decide +kernel
theorem d_M_roundTo_31 : decode b_M_roundTo 31 = .ok (.aload_n 0, 1) := by decide +kernel
theorem d_M_roundTo_32 : decode b_M_roundTo 32 = .ok (.getfield 33, 3) := by decide +kernel
theorem d_M_roundTo_35 : decode b_M_roundTo 35 = .ok (.iload_n 2, 1) := by decide +kernel
theorem d_M_roundTo_36 : decode b_M_roundTo 36 = .ok (.iload_n 2, 1) := by decide +kernel
theorem d_M_roundTo_37 : decode b_M_roundTo 37 = .ok (.aload_n 0, 1) := by decide +kernel
theorem d_M_roundTo_38 : decode b_M_roundTo 38 = .ok (.getfield 205, 3) := by decide +kernel
theorem d_M_roundTo_41 : decode b_M_roundTo 41 = .ok (.if_icmp .ge 12, 3) := by decide +kernel
theorem d_M_roundTo_44 : decode b_M_roundTo 44 = .ok (.aload_n 0, 1) := by decide +kernel
theorem d_M_roundTo_45 : decode b_M_roundTo 45 = .ok (.getfield 30, 3) := by decide +kernel
theorem d_M_roundTo_48 : decode b_M_roundTo 48 = .ok (.iload_n 2, 1) := by decide +kernel
theorem d_M_roundTo_49 : decode b_M_roundTo 49 = .ok (.baload, 1) := by decide +kernel
theorem d_M_roundTo_50 : decode b_M_roundTo 50 = .ok (.goto 4, 3) := by decide +kernel
theorem d_M_roundTo_53 : decode b_M_roundTo 53 = .ok (.iconst 0, 1) := by decide +kernel
theorem d_M_roundTo_54 : decode b_M_roundTo 54 = .ok (.bastore, 1) := by decide +kernel
theorem d_M_roundTo_55 : decode b_M_roundTo 55 = .ok (.iinc 2 1, 3) := by decide +kernel
theorem d_M_roundTo_58 : decode b_M_roundTo 58 = .ok (.goto (-35), 3) := by decide +kernel
theorem d_M_roundTo_61 : decode b_M_roundTo 61 = .ok (.iload_n 1, 1) := by decide +kernel
theorem d_M_roundTo_62 : decode b_M_roundTo 62 = .ok (.ifCond .lt 11, 3) := by decide +kernel
theorem d_M_roundTo_65 : decode b_M_roundTo 65 = .ok (.iload_n 1, 1) := by decide +kernel
theorem d_M_roundTo_66 : decode b_M_roundTo 66 = .ok (.aload_n 0, 1) := by decide +kernel
theorem d_M_roundTo_67 : decode b_M_roundTo 67 = .ok (.getfield 205, 3) := by decide +kernel
theorem d_M_roundTo_70 : decode b_M_roundTo 70 = .ok (.if_icmp .lt 4, 3) := by decide +kernel
theorem d_M_roundTo_73 : decode b_M_roundTo 73 = .ok (.return_, 1) := by decide +kernel
theorem d_M_roundTo_74 : decode b_M_roundTo 74 = .ok (.iconst 0, 1) := by decide +kernel
theorem d_M_roundTo_75 : decode b_M_roundTo 75 = .ok (.istore_n 2, 1) := by decide +kernel
theorem d_M_roundTo_76 : decode b_M_roundTo 76 = .ok (.iload_n 1, 1) := by decide +kernel
theorem d_M_roundTo_77 : decode b_M_roundTo 77 = .ok (.iconst 1, 1) := by decide +kernel
theorem d_M_roundTo_78 : decode b_M_roundTo 78 = .ok (.iadd, 1) := by decide +kernel
theorem d_M_roundTo_79 : decode b_M_roundTo 79 = .ok (.istore_n 3, 1) := by decide +kernel
theorem d_M_roundTo_80 : decode b_M_roundTo 80 = .ok (.iload_n 3, 1) := by decide +kernel
theorem d_M_roundTo_81 : decode b_M_roundTo 81 = .ok (.aload_n 0, 1) := by decide +kernel
theorem d_M_roundTo_82 : decode b_M_roundTo 82 = .ok (.getfield 205, 3) := by decide +kernel
theorem d_M_roundTo_85 : decode b_M_roundTo 85 = .ok (.if_icmp .ge 28, 3) := by decide +kernel
theorem d_M_roundTo_88 : decode b_M_roundTo 88 = .ok (.iload_n 2, 1) := by decide +kernel
theorem d_M_roundTo_89 : decode b_M_roundTo 89 = .ok (.ifCond .ne 12, 3) := by decide +kernel
theorem d_M_roundTo_92 : decode b_M_roundTo 92 = .ok (.aload_n 0, 1) := by decide +kernel
theorem d_M_roundTo_93 : decode b_M_roundTo 93 = .ok (.getfield 30, 3) := by decide +kernel
theorem d_M_roundTo_96 : decode b_M_roundTo 96 = .ok (.iload_n 3, 1) := by decide +kernel
theorem d_M_roundTo_97 : decode b_M_roundTo 97 = .ok (.baload, 1) := by decide +kernel
theorem d_M_roundTo_98 : decode b_M_roundTo 98 = .ok (.ifCond .le 7, 3) := by decide +kernel
theorem d_M_roundTo_101 : decode b_M_roundTo 101 = .ok (.iconst 1, 1) := by decide +kernel
theorem d_M_roundTo_102 : decode b_M_roundTo 102 = .ok (.goto 4, 3) := by decide +kernel
theorem d_M_roundTo_105 : decode b_M_roundTo 105 = .ok (.iconst 0, 1) := by decide +kernel
theorem d_M_roundTo_106 : decode b_M_roundTo 106 = .ok (.istore_n 2, 1) := by decide +kernel
theorem d_M_roundTo_107 : decode b_M_roundTo 107 = .ok (.iinc 3 1, 3) := by decide +kernel
theorem d_M_roundTo_110 : decode b_M_roundTo 110 = .ok (.goto (-30), 3) := by decide +kernel
theorem d_M_roundTo_113 : decode b_M_roundTo 113 = .ok (.iload_n 1, 1) := by decide +kernel
theorem d_M_roundTo_114 : decode b_M_roundTo 114 = .ok (.ifCond .le 21, 3) := by decide +kernel
theorem d_M_roundTo_117 : decode b_M_roundTo 117 = .ok (.aload_n 0, 1) := by decide +kernel
theorem d_M_roundTo_118 : decode b_M_roundTo 118 = .ok (.getfield 33, 3) := by decide +kernel
theorem d_M_roundTo_121 : decode b_M_roundTo 121 = .ok (.iload_n 1, 1) := by decide +kernel
theorem d_M_roundTo_122 : decode b_M_roundTo 122 = .ok (.iconst 1, 1) := by decide +kernel
theorem d_M_roundTo_123 : decode b_M_roundTo 123 = .ok (.isub, 1) := by decide +kernel
theorem d_M_roundTo_124 : decode b_M_roundTo 124 = .ok (.baload, 1) := by decide +kernel
theorem d_M_roundTo_125 : decode b_M_roundTo 125 = .ok (.iconst 2, 1) := by decide +kernel
theorem d_M_roundTo_126 : decode b_M_roundTo 126 = .ok (.irem, 1) := by decide +kernel
theorem d_M_roundTo_127 : decode b_M_roundTo 127 = .ok (.iconst 1, 1) := by decide +kernel
theorem d_M_roundTo_128 : decode b_M_roundTo 128 = .ok (.if_icmp .ne 7, 3) := by decide +kernel
theorem d_M_roundTo_131 : decode b_M_roundTo 131 = .ok (.iconst 1, 1) := by decide +kernel
theorem d_M_roundTo_132 : decode b_M_roundTo 132 = .ok (.goto 4, 3) := by decide +kernel
theorem d_M_roundTo_135 : decode b_M_roundTo 135 = .ok (.iconst 0, 1) := by decide +kernel
theorem d_M_roundTo_136 : decode b_M_roundTo 136 = .ok (.istore_n 3, 1) := by decide +kernel
theorem d_M_roundTo_137 : decode b_M_roundTo 137 = .ok (.aload_n 0, 1) := by decide +kernel
theorem d_M_roundTo_138 : decode b_M_roundTo 138 = .ok (.getfield 30, 3) := by decide +kernel
theorem d_M_roundTo_141 : decode b_M_roundTo 141 = .ok (.iload_n 1, 1) := by decide +kernel
theorem d_M_roundTo_142 : decode b_M_roundTo 142 = .ok (.baload, 1) := by decide +kernel
theorem d_M_roundTo_143 : decode b_M_roundTo 143 = .ok (.iconst 5, 1) := by decide +kernel
theorem d_M_roundTo_144 : decode b_M_roundTo 144 = .ok (.if_icmp .lt 21, 3) := by decide +kernel
theorem d_M_roundTo_147 : decode b_M_roundTo 147 = .ok (.aload_n 0, 1) := by decide +kernel
theorem d_M_roundTo_148 : decode b_M_roundTo 148 = .ok (.getfield 30, 3) := by decide +kernel
theorem d_M_roundTo_151 : decode b_M_roundTo 151 = .ok (.iload_n 1, 1) := by decide +kernel
theorem d_M_roundTo_152 : decode b_M_roundTo 152 = .ok (.baload, 1) := by decide +kernel
theorem d_M_roundTo_153 : decode b_M_roundTo 153 = .ok (.iconst 5, 1) := by decide +kernel
theorem d_M_roundTo_154 : decode b_M_roundTo 154 = .ok (.if_icmp .ne 12, 3) := by decide +kernel
theorem d_M_roundTo_157 : decode b_M_roundTo 157 = .ok (.iload_n 2, 1) := by decide +kernel
theorem d_M_roundTo_158 : decode b_M_roundTo 158 = .ok (.ifCond .ne 8, 3) := by decide +kernel
theorem d_M_roundTo_161 : decode b_M_roundTo 161 = .ok (.iload_n 3, 1) := by decide +kernel
theorem d_M_roundTo_162 : decode b_M_roundTo 162 = .ok (.ifCond .ne 4, 3) := by decide +kernel
theorem d_M_roundTo_165 : decode b_M_roundTo 165 = .ok (.return_, 1) := by decide +kernel
theorem d_M_roundTo_166 : decode b_M_roundTo 166 = .ok (.iload_n 1, 1) := by decide +kernel
theorem d_M_roundTo_167 : decode b_M_roundTo 167 = .ok (.iconst 1, 1) := by decide +kernel
theorem d_M_roundTo_168 : decode b_M_roundTo 168 = .ok (.isub, 1) := by decide +kernel
theorem d_M_roundTo_169 : decode b_M_roundTo 169 = .ok (.istore 4, 2) := by decide +kernel
theorem d_M_roundTo_171 : decode b_M_roundTo 171 = .ok (.iload 4, 2) := by decide +kernel
theorem d_M_roundTo_173 : decode b_M_roundTo 173 = .ok (.ifCond .lt 29, 3) := by decide +kernel
theorem d_M_roundTo_176 : decode b_M_roundTo 176 = .ok (.aload_n 0, 1) := by decide +kernel
theorem d_M_roundTo_177 : decode b_M_roundTo 177 = .ok (.getfield 33, 3) := by decide +kernel
theorem d_M_roundTo_180 : decode b_M_roundTo 180 = .ok (.iload 4, 2) := by decide +kernel
theorem d_M_roundTo_182 : decode b_M_roundTo 182 = .ok (.baload, 1) := by decide +kernel
theorem d_M_roundTo_183 : decode b_M_roundTo 183 = .ok (.bipush 9, 2) := by decide +kernel
theorem d_M_roundTo_185 : decode b_M_roundTo 185 = .ok (.if_icmp .ne 17, 3) := by decide +kernel
theorem d_M_roundTo_188 : decode b_M_roundTo 188 = .ok (.aload_n 0, 1) := by decide +kernel
theorem d_M_roundTo_189 : decode b_M_roundTo 189 = .ok (.getfield 33, 3) := by decide +kernel
theorem d_M_roundTo_192 : decode b_M_roundTo 192 = .ok (.iload 4, 2) := by decide +kernel
theorem d_M_roundTo_194 : decode b_M_roundTo 194 = .ok (.iconst 0, 1) := by decide +kernel
theorem d_M_roundTo_195 : decode b_M_roundTo 195 = .ok (.bastore, 1) := by decide +kernel
theorem d_M_roundTo_196 : decode b_M_roundTo 196 = .ok (.iinc 4 (-1), 3) := by decide +kernel
theorem d_M_roundTo_199 : decode b_M_roundTo 199 = .ok (.goto (-28), 3) := by decide +kernel
theorem d_M_roundTo_202 : decode b_M_roundTo 202 = .ok (.iload 4, 2) := by decide +kernel
theorem d_M_roundTo_204 : decode b_M_roundTo 204 = .ok (.ifCond .lt 16, 3) := by decide +kernel
theorem d_M_roundTo_207 : decode b_M_roundTo 207 = .ok (.aload_n 0, 1) := by decide +kernel
theorem d_M_roundTo_208 : decode b_M_roundTo 208 = .ok (.getfield 33, 3) := by decide +kernel
theorem d_M_roundTo_211 : decode b_M_roundTo 211 = .ok (.iload 4, 2) := by decide +kernel
theorem d_M_roundTo_213 : decode b_M_roundTo 213 = .ok (.dup2, 1) := by decide +kernel
theorem d_M_roundTo_214 : decode b_M_roundTo 214 = .ok (.baload, 1) := by decide +kernel
theorem d_M_roundTo_215 : decode b_M_roundTo 215 = .ok (.iconst 1, 1) := by decide +kernel
theorem d_M_roundTo_216 : decode b_M_roundTo 216 = .ok (.iadd, 1) := by decide +kernel
theorem d_M_roundTo_217 : decode b_M_roundTo 217 = .ok (.i2b, 1) := by decide +kernel
theorem d_M_roundTo_218 : decode b_M_roundTo 218 = .ok (.bastore, 1) := by decide +kernel
theorem d_M_roundTo_219 : decode b_M_roundTo 219 = .ok (.return_, 1) := by decide +kernel
theorem d_M_roundTo_220 : decode b_M_roundTo 220 = .ok (.aload_n 0, 1) := by decide +kernel
theorem d_M_roundTo_221 : decode b_M_roundTo 221 = .ok (.getfield 216, 3) := by decide +kernel
theorem d_M_roundTo_224 : decode b_M_roundTo 224 = .ok (.istore 5, 2) := by decide +kernel
theorem d_M_roundTo_226 : decode b_M_roundTo 226 = .ok (.iload 5, 2) := by decide +kernel
theorem d_M_roundTo_228 : decode b_M_roundTo 228 = .ok (.ifCond .le 25, 3) := by decide +kernel
theorem d_M_roundTo_231 : decode b_M_roundTo 231 = .ok (.aload_n 0, 1) := by decide +kernel
theorem d_M_roundTo_232 : decode b_M_roundTo 232 = .ok (.getfield 33, 3) := by decide +kernel
theorem d_M_roundTo_235 : decode b_M_roundTo 235 = .ok (.iload 5, 2) := by decide +kernel
theorem d_M_roundTo_237 : decode b_M_roundTo 237 = .ok (.aload_n 0, 1) := by decide +kernel
theorem d_M_roundTo_238 : decode b_M_roundTo 238 = .ok (.getfield 33, 3) := by decide +kernel
theorem d_M_roundTo_241 : decode b_M_roundTo 241 = .ok (.iload 5, 2) := by decide +kernel
theorem d_M_roundTo_243 : decode b_M_roundTo 243 = .ok (.iconst 1, 1) := by decide +kernel
theorem d_M_roundTo_244 : decode b_M_roundTo 244 = .ok (.isub, 1) := by decide +kernel
theorem d_M_roundTo_245 : decode b_M_roundTo 245 = .ok (.baload, 1) := by decide +kernel
theorem d_M_roundTo_246 : decode b_M_roundTo 246 = .ok (.bastore, 1) := by decide +kernel
theorem d_M_roundTo_247 : decode b_M_roundTo 247 = .ok (.iinc 5 (-1), 3) := by decide +kernel
theorem d_M_roundTo_250 : decode b_M_roundTo 250 = .ok (.goto (-24), 3) := by decide +kernel
theorem d_M_roundTo_253 : decode b_M_roundTo 253 = .ok (.aload_n 0, 1) := by decide +kernel
theorem d_M_roundTo_254 : decode b_M_roundTo 254 = .ok (.getfield 33, 3) := by decide +kernel
theorem d_M_roundTo_257 : decode b_M_roundTo 257 = .ok (.iconst 0, 1) := by decide +kernel
theorem d_M_roundTo_258 : decode b_M_roundTo 258 = .ok (.iconst 1, 1) := by decide +kernel
theorem d_M_roundTo_259 : decode b_M_roundTo 259 = .ok (.bastore, 1) := by decide +kernel
theorem d_M_roundTo_260 : decode b_M_roundTo 260 = .ok (.aload_n 0, 1) := by decide +kernel
theorem d_M_roundTo_261 : decode b_M_roundTo 261 = .ok (.dup, 1) := by decide +kernel
theorem d_M_roundTo_262 : decode b_M_roundTo 262 = .ok (.getfield 216, 3) := by decide +kernel
theorem d_M_roundTo_265 : decode b_M_roundTo 265 = .ok (.iconst 1, 1) := by decide +kernel
theorem d_M_roundTo_266 : decode b_M_roundTo 266 = .ok (.iadd, 1) := by decide +kernel
theorem d_M_roundTo_267 : decode b_M_roundTo 267 = .ok (.putfield 216, 3) := by decide +kernel
theorem d_M_roundTo_270 : decode b_M_roundTo 270 = .ok (.aload_n 0, 1) := by decide +kernel
theorem d_M_roundTo_271 : decode b_M_roundTo 271 = .ok (.dup, 1) := by decide +kernel
theorem d_M_roundTo_272 : decode b_M_roundTo 272 = .ok (.getfield 219, 3) := by decide +kernel
theorem d_M_roundTo_275 : decode b_M_roundTo 275 = .ok (.iconst 1, 1) := by decide +kernel
theorem d_M_roundTo_276 : decode b_M_roundTo 276 = .ok (.iadd, 1) := by decide +kernel
theorem d_M_roundTo_277 : decode b_M_roundTo 277 = .ok (.putfield 219, 3) := by decide +kernel
theorem d_M_roundTo_280 : decode b_M_roundTo 280 = .ok (.return_, 1) := by decide +kernel
