theorem d_M_plain_0 : decode b_M_plain 0 = .ok (.aload_n 0, 1) := by decide +kernel
theorem d_M_plain_1 : decode b_M_plain 1 = .ok (.getfield 13, 3) := by decide +kernel
theorem d_M_plain_4 : decode b_M_plain 4 = .ok (.iconst 1, 1) := by decide +kernel
theorem d_M_plain_5 : decode b_M_plain 5 = .ok (.if_icmp .ne 13, 3) := by decide +kernel
theorem d_M_plain_8 : decode b_M_plain 8 = .ok (.aload_n 0, 1) := by decide +kernel
theorem d_M_plain_9 : decode b_M_plain 9 = .ok (.bipush 100, 2) := by decide +kernel
theorem d_M_plain_11 : decode b_M_plain 11 = .ok (.iconst 0, 1) := by decide +kernel
theorem d_M_plain_12 : decode b_M_plain 12 = .ok (.iconst 0, 1) := by decide +kernel
theorem d_M_plain_13 : decode b_M_plain 13 = .ok (.iconst (-1), 1) := by decide +kernel
theorem d_M_plain_14 : decode b_M_plain 14 = .ok (.invokevirtual 299, 3) := by decide +kernel
theorem d_M_plain_17 : decode b_M_plain 17 = .ok (.ireturn, 1) := by decide +kernel
theorem d_M_plain_18 : decode b_M_plain 18 = .ok (.aload_n 0, 1) := by decide +kernel
theorem d_M_plain_19 : decode b_M_plain 19 = .ok (.bipush 103, 2) := by decide +kernel
theorem d_M_plain_21 : decode b_M_plain 21 = .ok (.iconst 0, 1) := by decide +kernel
theorem d_M_plain_22 : decode b_M_plain 22 = .ok (.iconst 0, 1) := by decide +kernel
theorem d_M_plain_23 : decode b_M_plain 23 = .ok (.bipush 14, 2) := by decide +kernel
theorem d_M_plain_25 : decode b_M_plain 25 = .ok (.invokevirtual 299, 3) := by decide +kernel
theorem d_M_plain_28 : decode b_M_plain 28 = .ok (.istore_n 1, 1) := by decide +kernel
theorem d_M_plain_29 : decode b_M_plain 29 = .ok (.aload_n 0, 1) := by decide +kernel
theorem d_M_plain_30 : decode b_M_plain 30 = .ok (.getfield 13, 3) := by decide +kernel
theorem d_M_plain_33 : decode b_M_plain 33 = .ok (.iconst 2, 1) := by decide +kernel
theorem d_M_plain_34 : decode b_M_plain 34 = .ok (.if_icmp .ne 7, 3) := by decide +kernel
theorem d_M_plain_37 : decode b_M_plain 37 = .ok (.iconst 1, 1) := by decide +kernel
theorem d_M_plain_38 : decode b_M_plain 38 = .ok (.goto 4, 3) := by decide +kernel
theorem d_M_plain_41 : decode b_M_plain 41 = .ok (.iconst 0, 1) := by decide +kernel
theorem d_M_plain_42 : decode b_M_plain 42 = .ok (.istore_n 2, 1) := by decide +kernel
theorem d_M_plain_43 : decode b_M_plain 43 = .ok (.iconst 0, 1) := by decide +kernel
theorem d_M_plain_44 : decode b_M_plain 44 = .ok (.istore_n 3, 1) := by decide +kernel
theorem d_M_plain_45 : decode b_M_plain 45 = .ok (.iload_n 3, 1) := by decide +kernel
theorem d_M_plain_46 : decode b_M_plain 46 = .ok (.iload_n 1, 1) := by decide +kernel
theorem d_M_plain_47 : decode b_M_plain 47 = .ok (.if_icmp .ge 42, 3) := by decide +kernel
theorem d_M_plain_50 : decode b_M_plain 50 = .ok (.iload_n 2, 1) := by decide +kernel
theorem d_M_plain_51 : decode b_M_plain 51 = .ok (.ifCond .eq 30, 3) := by decide +kernel
theorem d_M_plain_54 : decode b_M_plain 54 = .ok (.aload_n 0, 1) := by decide +kernel
theorem d_M_plain_55 : decode b_M_plain 55 = .ok (.getfield 36, 3) := by decide +kernel
theorem d_M_plain_58 : decode b_M_plain 58 = .ok (.iload_n 3, 1) := by decide +kernel
theorem d_M_plain_59 : decode b_M_plain 59 = .ok (.baload, 1) := by decide +kernel
theorem d_M_plain_60 : decode b_M_plain 60 = .ok (.invokestatic 87, 3) := by decide +kernel
theorem d_M_plain_63 : decode b_M_plain 63 = .ok (.ifCond .ne 14, 3) := by decide +kernel
theorem d_M_plain_66 : decode b_M_plain 66 = .ok (.aload_n 0, 1) := by decide +kernel
theorem d_M_plain_67 : decode b_M_plain 67 = .ok (.getfield 36, 3) := by decide +kernel
theorem d_M_plain_70 : decode b_M_plain 70 = .ok (.iload_n 3, 1) := by decide +kernel
theorem d_M_plain_71 : decode b_M_plain 71 = .ok (.baload, 1) := by decide +kernel
theorem d_M_plain_72 : decode b_M_plain 72 = .ok (.bipush 45, 2) := by decide +kernel
theorem d_M_plain_74 : decode b_M_plain 74 = .ok (.if_icmp .ne 7, 3) := by decide +kernel
theorem d_M_plain_77 : decode b_M_plain 77 = .ok (.iconst 1, 1) := by decide +kernel
theorem d_M_plain_78 : decode b_M_plain 78 = .ok (.goto 4, 3) := by decide +kernel
theorem d_M_plain_81 : decode b_M_plain 81 = .ok (.iconst 0, 1) := by decide +kernel
theorem d_M_plain_82 : decode b_M_plain 82 = .ok (.istore_n 2, 1) := by decide +kernel
theorem d_M_plain_83 : decode b_M_plain 83 = .ok (.iinc 3 1, 3) := by decide +kernel
theorem d_M_plain_86 : decode b_M_plain 86 = .ok (.goto (-41), 3) := by decide +kernel
theorem d_M_plain_89 : decode b_M_plain 89 = .ok (.iload_n 2, 1) := by decide +kernel
theorem d_M_plain_90 : decode b_M_plain 90 = .ok (.ifCond .eq 15, 3) := by decide +kernel
theorem d_M_plain_93 : decode b_M_plain 93 = .ok (.aload_n 0, 1) := by decide +kernel
theorem d_M_plain_94 : decode b_M_plain 94 = .ok (.bipush 46, 2) := by decide +kernel
theorem d_M_plain_96 : decode b_M_plain 96 = .ok (.invokevirtual 259, 3) := by decide +kernel
theorem d_M_plain_99 : decode b_M_plain 99 = .ok (.aload_n 0, 1) := by decide +kernel
theorem d_M_plain_100 : decode b_M_plain 100 = .ok (.bipush 48, 2) := by decide +kernel
theorem d_M_plain_102 : decode b_M_plain 102 = .ok (.invokevirtual 259, 3) := by decide +kernel
theorem d_M_plain_105 : decode b_M_plain 105 = .ok (.aload_n 0, 1) := by decide +kernel
theorem d_M_plain_106 : decode b_M_plain 106 = .ok (.getfield 256, 3) := by decide +kernel
theorem d_M_plain_109 : decode b_M_plain 109 = .ok (.ireturn, 1) := by decide +kernel
theorem d_M_shortest_0 : decode b_M_shortest 0 = .ok (.aload_n 0, 1) := by decide +kernel
theorem d_M_shortest_1 : decode b_M_shortest 1 = .ok (.getfield 13, 3) := by decide +kernel
theorem d_M_shortest_4 : decode b_M_shortest 4 = .ok (.iconst 2, 1) := by decide +kernel
theorem d_M_shortest_5 : decode b_M_shortest 5 = .ok (.if_icmp .le 5, 3) := by decide +kernel
theorem d_M_shortest_8 : decode b_M_shortest 8 = .ok (.iconst (-1), 1) := by decide +kernel
theorem d_M_shortest_9 : decode b_M_shortest 9 = .ok (.ireturn, 1) := by decide +kernel
theorem d_M_shortest_10 : decode b_M_shortest 10 = .ok (.aload_n 0, 1) := by decide +kernel
theorem d_M_shortest_11 : decode b_M_shortest 11 = .ok (.getfield 13, 3) := by decide +kernel
theorem d_M_shortest_14 : decode b_M_shortest 14 = .ok (.istore_n 1, 1) := by decide +kernel
theorem d_M_shortest_15 : decode b_M_shortest 15 = .ok (.aload_n 0, 1) := by decide +kernel
theorem d_M_shortest_16 : decode b_M_shortest 16 = .ok (.getfield 45, 3) := by decide +kernel
theorem d_M_shortest_19 : decode b_M_shortest 19 = .ok (.lstore_n 2, 1) := by decide +kernel
theorem d_M_shortest_20 : decode b_M_shortest 20 = .ok (.aload_n 0, 1) := by decide +kernel
theorem d_M_shortest_21 : decode b_M_shortest 21 = .ok (.getfield 49, 3) := by decide +kernel
theorem d_M_shortest_24 : decode b_M_shortest 24 = .ok (.istore 4, 2) := by decide +kernel
theorem d_M_shortest_26 : decode b_M_shortest 26 = .ok (.aload_n 0, 1) := by decide +kernel
theorem d_M_shortest_27 : decode b_M_shortest 27 = .ok (.getfield 13, 3) := by decide +kernel
theorem d_M_shortest_30 : decode b_M_shortest 30 = .ok (.iconst 1, 1) := by decide +kernel
theorem d_M_shortest_31 : decode b_M_shortest 31 = .ok (.if_icmp .ne 13, 3) := by decide +kernel
theorem d_M_shortest_34 : decode b_M_shortest 34 = .ok (.aload_n 0, 1) := by decide +kernel
theorem d_M_shortest_35 : decode b_M_shortest 35 = .ok (.aload_n 0, 1) := by decide +kernel
theorem d_M_shortest_36 : decode b_M_shortest 36 = .ok (.getfield 45, 3) := by decide +kernel
theorem d_M_shortest_39 : decode b_M_shortest 39 = .ok (.iconst 0, 1) := by decide +kernel
theorem d_M_shortest_40 : decode b_M_shortest 40 = .ok (.invokevirtual 76, 3) := by decide +kernel
theorem d_M_shortest_43 : decode b_M_shortest 43 = .ok (.pop, 1) := by decide +kernel
theorem d_M_shortest_44 : decode b_M_shortest 44 = .ok (.aload_n 0, 1) := by decide +kernel
theorem d_M_shortest_45 : decode b_M_shortest 45 = .ok (.getfield 45, 3) := by decide +kernel
theorem d_M_shortest_48 : decode b_M_shortest 48 = .ok (.lstore 5, 2) := by decide +kernel
theorem d_M_shortest_50 : decode b_M_shortest 50 = .ok (.aload_n 0, 1) := by decide +kernel
theorem d_M_shortest_51 : decode b_M_shortest 51 = .ok (.getfield 49, 3) := by decide +kernel
theorem d_M_shortest_54 : decode b_M_shortest 54 = .ok (.istore 7, 2) := by decide +kernel
theorem d_M_shortest_56 : decode b_M_shortest 56 = .ok (.lload 5, 2) := by decide +kernel
theorem d_M_shortest_58 : decode b_M_shortest 58 = .ok (.lconst 0, 1) := by decide +kernel
theorem d_M_shortest_59 : decode b_M_shortest 59 = .ok (.lcmp, 1) := by decide +kernel
theorem d_M_shortest_60 : decode b_M_shortest 60 = .ok (.ifCond .ne 7, 3) := by decide +kernel
theorem d_M_shortest_63 : decode b_M_shortest 63 = .ok (.iconst 1, 1) := by decide +kernel
theorem d_M_shortest_64 : decode b_M_shortest 64 = .ok (.goto 4, 3) := by decide +kernel
theorem d_M_shortest_67 : decode b_M_shortest 67 = .ok (.iconst 0, 1) := by decide +kernel
theorem d_M_shortest_68 : decode b_M_shortest 68 = .ok (.istore 8, 2) := by decide +kernel
theorem d_M_shortest_70 : decode b_M_shortest 70 = .ok (.iconst 1, 1) := by decide +kernel
theorem d_M_shortest_71 : decode b_M_shortest 71 = .ok (.istore 9, 2) := by decide +kernel
theorem d_M_shortest_73 : decode b_M_shortest 73 = .ok (.iload 9, 2) := by decide +kernel
theorem d_M_shortest_75 : decode b_M_shortest 75 = .ok (.bipush 18, 2) := by decide +kernel
theorem d_M_shortest_77 : decode b_M_shortest 77 = .ok (.if_icmp .ge 133, 3) := by decide +kernel
theorem d_M_shortest_80 : decode b_M_shortest 80 = .ok (.iload 8, 2) := by decide +kernel
theorem d_M_shortest_82 : decode b_M_shortest 82 = .ok (.ifCond .ne 128, 3) := by decide +kernel
theorem d_M_shortest_85 : decode b_M_shortest 85 = .ok (.aload_n 0, 1) := by decide +kernel
theorem d_M_shortest_86 : decode b_M_shortest 86 = .ok (.invokevirtual 276, 3) := by decide +kernel
theorem d_M_shortest_89 : decode b_M_shortest 89 = .ok (.aload_n 0, 1) := by decide +kernel
theorem d_M_shortest_90 : decode b_M_shortest 90 = .ok (.iload 9, 2) := by decide +kernel
theorem d_M_shortest_92 : decode b_M_shortest 92 = .ok (.invokevirtual 228, 3) := by decide +kernel
theorem d_M_shortest_95 : decode b_M_shortest 95 = .ok (.aload_n 0, 1) := by decide +kernel
theorem d_M_shortest_96 : decode b_M_shortest 96 = .ok (.iload 9, 2) := by decide +kernel
theorem d_M_shortest_98 : decode b_M_shortest 98 = .ok (.putfield 111, 3) := by decide +kernel
theorem d_M_shortest_101 : decode b_M_shortest 101 = .ok (.iconst 0, 1) := by decide +kernel
theorem d_M_shortest_102 : decode b_M_shortest 102 = .ok (.istore 10, 2) := by decide +kernel
theorem d_M_shortest_104 : decode b_M_shortest 104 = .ok (.iload 10, 2) := by decide +kernel
theorem d_M_shortest_106 : decode b_M_shortest 106 = .ok (.iload 9, 2) := by decide +kernel
theorem d_M_shortest_108 : decode b_M_shortest 108 = .ok (.if_icmp .ge 23, 3) := by decide +kernel
theorem d_M_shortest_111 : decode b_M_shortest 111 = .ok (.aload_n 0, 1) := by decide +kernel
theorem d_M_shortest_112 : decode b_M_shortest 112 = .ok (.getfield 24, 3) := by decide +kernel
theorem d_M_shortest_115 : decode b_M_shortest 115 = .ok (.iload 10, 2) := by decide +kernel
theorem d_M_shortest_117 : decode b_M_shortest 117 = .ok (.aload_n 0, 1) := by decide +kernel
theorem d_M_shortest_118 : decode b_M_shortest 118 = .ok (.iload 10, 2) := by decide +kernel
theorem d_M_shortest_120 : decode b_M_shortest 120 = .ok (.invokevirtual 231, 3) := by decide +kernel
theorem d_M_shortest_123 : decode b_M_shortest 123 = .ok (.i2b, 1) := by decide +kernel
theorem d_M_shortest_124 : decode b_M_shortest 124 = .ok (.bastore, 1) := by decide +kernel
theorem d_M_shortest_125 : decode b_M_shortest 125 = .ok (.iinc 10 1, 3) := by decide +kernel
theorem d_M_shortest_128 : decode b_M_shortest 128 = .ok (.goto (-24), 3) := by decide +kernel
theorem d_M_shortest_131 : decode b_M_shortest 131 = .ok (.aload_n 0, 1) := by decide +kernel
theorem d_M_shortest_132 : decode b_M_shortest 132 = .ok (.lload 5, 2) := by decide +kernel
theorem d_M_shortest_134 : decode b_M_shortest 134 = .ok (.lconst 0, 1) := by decide +kernel
theorem d_M_shortest_135 : decode b_M_shortest 135 = .ok (.lcmp, 1) := by decide +kernel
theorem d_M_shortest_136 : decode b_M_shortest 136 = .ok (.ifCond .ge 7, 3) := by decide +kernel
theorem d_M_shortest_139 : decode b_M_shortest 139 = .ok (.iconst 1, 1) := by decide +kernel
theorem d_M_shortest_140 : decode b_M_shortest 140 = .ok (.goto 4, 3) := by decide +kernel
theorem d_M_shortest_143 : decode b_M_shortest 143 = .ok (.iconst 0, 1) := by decide +kernel
theorem d_M_shortest_144 : decode b_M_shortest 144 = .ok (.putfield 98, 3) := by decide +kernel
theorem d_M_shortest_147 : decode b_M_shortest 147 = .ok (.aload_n 0, 1) := by decide +kernel
theorem d_M_shortest_148 : decode b_M_shortest 148 = .ok (.aload_n 0, 1) := by decide +kernel
theorem d_M_shortest_149 : decode b_M_shortest 149 = .ok (.getfield 219, 3) := by decide +kernel
theorem d_M_shortest_152 : decode b_M_shortest 152 = .ok (.iload 9, 2) := by decide +kernel
theorem d_M_shortest_154 : decode b_M_shortest 154 = .ok (.isub, 1) := by decide +kernel
theorem d_M_shortest_155 : decode b_M_shortest 155 = .ok (.invokevirtual 149, 3) := by decide +kernel
theorem d_M_shortest_158 : decode b_M_shortest 158 = .ok (.pop, 1) := by decide +kernel
theorem d_M_shortest_159 : decode b_M_shortest 159 = .ok (.aload_n 0, 1) := by decide +kernel
theorem d_M_shortest_160 : decode b_M_shortest 160 = .ok (.getfield 13, 3) := by decide +kernel
theorem d_M_shortest_163 : decode b_M_shortest 163 = .ok (.iconst 2, 1) := by decide +kernel
theorem d_M_shortest_164 : decode b_M_shortest 164 = .ok (.if_icmp .ne 27, 3) := by decide +kernel
theorem d_M_shortest_167 : decode b_M_shortest 167 = .ok (.aload_n 0, 1) := by decide +kernel
theorem d_M_shortest_168 : decode b_M_shortest 168 = .ok (.getfield 45, 3) := by decide +kernel
theorem d_M_shortest_171 : decode b_M_shortest 171 = .ok (.lload 5, 2) := by decide +kernel
theorem d_M_shortest_173 : decode b_M_shortest 173 = .ok (.lcmp, 1) := by decide +kernel
theorem d_M_shortest_174 : decode b_M_shortest 174 = .ok (.ifCond .ne 17, 3) := by decide +kernel
theorem d_M_shortest_177 : decode b_M_shortest 177 = .ok (.aload_n 0, 1) := by decide +kernel
theorem d_M_shortest_178 : decode b_M_shortest 178 = .ok (.getfield 49, 3) := by decide +kernel
theorem d_M_shortest_181 : decode b_M_shortest 181 = .ok (.iload 7, 2) := by decide +kernel
theorem d_M_shortest_183 : decode b_M_shortest 183 = .ok (.if_icmp .ne 8, 3) := by decide +kernel
theorem d_M_shortest_186 : decode b_M_shortest 186 = .ok (.iload 9, 2) := by decide +kernel
theorem d_M_shortest_188 : decode b_M_shortest 188 = .ok (.goto 4, 3) := by decide +kernel
theorem d_M_shortest_191 : decode b_M_shortest 191 = .ok (.iconst 0, 1) := by decide +kernel
theorem d_M_shortest_192 : decode b_M_shortest 192 = .ok (.istore 8, 2) := by decide +kernel
theorem d_M_shortest_194 : decode b_M_shortest 194 = .ok (.aload_n 0, 1) := by decide +kernel
theorem d_M_shortest_195 : decode b_M_shortest 195 = .ok (.iconst 2, 1) := by decide +kernel
theorem d_M_shortest_196 : decode b_M_shortest 196 = .ok (.lload 5, 2) := by decide +kernel
theorem d_M_shortest_198 : decode b_M_shortest 198 = .ok (.iload 7, 2) := by decide +kernel
theorem d_M_shortest_200 : decode b_M_shortest 200 = .ok (.invokevirtual 52, 3) := by decide +kernel
theorem d_M_shortest_203 : decode b_M_shortest 203 = .ok (.pop, 1) := by decide +kernel
theorem d_M_shortest_204 : decode b_M_shortest 204 = .ok (.iinc 9 1, 3) := by decide +kernel
theorem d_M_shortest_207 : decode b_M_shortest 207 = .ok (.goto (-134), 3) := by decide +kernel
theorem d_M_shortest_210 : decode b_M_shortest 210 = .ok (.aload_n 0, 1) := by decide +kernel
theorem d_M_shortest_211 : decode b_M_shortest 211 = .ok (.bipush 101, 2) := by decide +kernel
theorem d_M_shortest_213 : decode b_M_shortest 213 = .ok (.iconst 0, 1) := by decide +kernel
theorem d_M_shortest_214 : decode b_M_shortest 214 = .ok (.iconst 0, 1) := by decide +kernel
theorem d_M_shortest_215 : decode b_M_shortest 215 = .ok (.iload 8, 2) := by decide +kernel
theorem d_M_shortest_217 : decode b_M_shortest 217 = .ok (.iconst 1, 1) := by decide +kernel
theorem d_M_shortest_218 : decode b_M_shortest 218 = .ok (.isub, 1) := by decide +kernel
theorem d_M_shortest_219 : decode b_M_shortest 219 = .ok (.invokevirtual 299, 3) := by decide +kernel
theorem d_M_shortest_222 : decode b_M_shortest 222 = .ok (.pop, 1) := by decide +kernel
theorem d_M_shortest_223 : decode b_M_shortest 223 = .ok (.aload_n 0, 1) := by decide +kernel
theorem d_M_shortest_224 : decode b_M_shortest 224 = .ok (.iload_n 1, 1) := by decide +kernel
theorem d_M_shortest_225 : decode b_M_shortest 225 = .ok (.putfield 13, 3) := by decide +kernel
theorem d_M_shortest_228 : decode b_M_shortest 228 = .ok (.aload_n 0, 1) := by decide +kernel
theorem d_M_shortest_229 : decode b_M_shortest 229 = .ok (.lload_n 2, 1) := by decide +kernel
theorem d_M_shortest_230 : decode b_M_shortest 230 = .ok (.putfield 45, 3) := by decide +kernel
theorem d_M_shortest_233 : decode b_M_shortest 233 = .ok (.aload_n 0, 1) := by decide +kernel
theorem d_M_shortest_234 : decode b_M_shortest 234 = .ok (.iload 4, 2) := by decide +kernel
theorem d_M_shortest_236 : decode b_M_shortest 236 = .ok (.putfield 49, 3) := by decide +kernel
theorem d_M_shortest_239 : decode b_M_shortest 239 = .ok (.iload 8, 2) := by decide +kernel
theorem d_M_shortest_241 : decode b_M_shortest 241 = .ok (.ireturn, 1) := by decide +kernel
theorem d_M_written_0 : decode b_M_written 0 = .ok (.iload_n 1, 1) := by decide +kernel
theorem d_M_written_1 : decode b_M_written 1 = .ok (.ifCond .lt 24, 3) := by decide +kernel
theorem d_M_written_4 : decode b_M_written 4 = .ok (.iload_n 1, 1) := by decide +kernel
theorem d_M_written_5 : decode b_M_written 5 = .ok (.aload_n 0, 1) := by decide +kernel
theorem d_M_written_6 : decode b_M_written 6 = .ok (.getfield 256, 3) := by decide +kernel
theorem d_M_written_9 : decode b_M_written 9 = .ok (.if_icmp .ge 16, 3) := by decide +kernel
theorem d_M_written_12 : decode b_M_written 12 = .ok (.aload_n 0, 1) := by decide +kernel
theorem d_M_written_13 : decode b_M_written 13 = .ok (.getfield 36, 3) := by decide +kernel
theorem d_M_written_16 : decode b_M_written 16 = .ok (.iload_n 1, 1) := by decide +kernel
theorem d_M_written_17 : decode b_M_written 17 = .ok (.baload, 1) := by decide +kernel
theorem d_M_written_18 : decode b_M_written 18 = .ok (.sipush 255, 3) := by decide +kernel
theorem d_M_written_21 : decode b_M_written 21 = .ok (.iand, 1) := by decide +kernel
theorem d_M_written_22 : decode b_M_written 22 = .ok (.goto 4, 3) := by decide +kernel
theorem d_M_written_25 : decode b_M_written 25 = .ok (.iconst (-1), 1) := by decide +kernel
theorem d_M_written_26 : decode b_M_written 26 = .ok (.ireturn, 1) := by decide +kernel
