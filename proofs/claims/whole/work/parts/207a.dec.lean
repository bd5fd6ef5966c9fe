theorem d_M_formWhole_0 : decode b_M_formWhole 0 = .ok (.aload_n 0, 1) := by decide +kernel
theorem d_M_formWhole_1 : decode b_M_formWhole 1 = .ok (.iconst 0, 1) := by decide +kernel
theorem d_M_formWhole_2 : decode b_M_formWhole 2 = .ok (.putfield 222, 3) := by decide +kernel
theorem d_M_formWhole_5 : decode b_M_formWhole 5 = .ok (.iconst 0, 1) := by decide +kernel
theorem d_M_formWhole_6 : decode b_M_formWhole 6 = .ok (.istore 5, 2) := by decide +kernel
theorem d_M_formWhole_8 : decode b_M_formWhole 8 = .ok (.iload_n 1, 1) := by decide +kernel
theorem d_M_formWhole_9 : decode b_M_formWhole 9 = .ok (.bipush 88, 2) := by decide +kernel
theorem d_M_formWhole_11 : decode b_M_formWhole 11 = .ok (.if_icmp .ne 7, 3) := by decide +kernel
theorem d_M_formWhole_14 : decode b_M_formWhole 14 = .ok (.iconst 1, 1) := by decide +kernel
theorem d_M_formWhole_15 : decode b_M_formWhole 15 = .ok (.goto 4, 3) := by decide +kernel
theorem d_M_formWhole_18 : decode b_M_formWhole 18 = .ok (.iconst 0, 1) := by decide +kernel
theorem d_M_formWhole_19 : decode b_M_formWhole 19 = .ok (.istore 6, 2) := by decide +kernel
theorem d_M_formWhole_21 : decode b_M_formWhole 21 = .ok (.iload 4, 2) := by decide +kernel
theorem d_M_formWhole_23 : decode b_M_formWhole 23 = .ok (.ifCond .ge 7, 3) := by decide +kernel
theorem d_M_formWhole_26 : decode b_M_formWhole 26 = .ok (.iconst 1, 1) := by decide +kernel
theorem d_M_formWhole_27 : decode b_M_formWhole 27 = .ok (.goto 5, 3) := by decide +kernel
theorem d_M_formWhole_30 : decode b_M_formWhole 30 = .ok (.iload 4, 2) := by decide +kernel
theorem d_M_formWhole_32 : decode b_M_formWhole 32 = .ok (.istore 7, 2) := by decide +kernel
theorem d_M_formWhole_34 : decode b_M_formWhole 34 = .ok (.iload_n 1, 1) := by decide +kernel
theorem d_M_formWhole_35 : decode b_M_formWhole 35 = .ok (.bipush 100, 2) := by decide +kernel
theorem d_M_formWhole_37 : decode b_M_formWhole 37 = .ok (.if_icmp .ne 16, 3) := by decide +kernel
theorem d_M_formWhole_40 : decode b_M_formWhole 40 = .ok (.aload_n 0, 1) := by decide +kernel
theorem d_M_formWhole_41 : decode b_M_formWhole 41 = .ok (.getfield 45, 3) := by decide +kernel
theorem d_M_formWhole_44 : decode b_M_formWhole 44 = .ok (.lconst 0, 1) := by decide +kernel
theorem d_M_formWhole_45 : decode b_M_formWhole 45 = .ok (.lcmp, 1) := by decide +kernel
theorem d_M_formWhole_46 : decode b_M_formWhole 46 = .ok (.ifCond .ge 7, 3) := by decide +kernel
theorem d_M_formWhole_49 : decode b_M_formWhole 49 = .ok (.iconst 1, 1) := by decide +kernel
theorem d_M_formWhole_50 : decode b_M_formWhole 50 = .ok (.goto 4, 3) := by decide +kernel
theorem d_M_formWhole_53 : decode b_M_formWhole 53 = .ok (.iconst 0, 1) := by decide +kernel
theorem d_M_formWhole_54 : decode b_M_formWhole 54 = .ok (.istore 8, 2) := by decide +kernel
theorem d_M_formWhole_56 : decode b_M_formWhole 56 = .ok (.iload_n 2, 1) := by decide +kernel
theorem d_M_formWhole_57 : decode b_M_formWhole 57 = .ok (.bipush 8, 2) := by decide +kernel
theorem d_M_formWhole_59 : decode b_M_formWhole 59 = .ok (.iand, 1) := by decide +kernel
theorem d_M_formWhole_60 : decode b_M_formWhole 60 = .ok (.ifCond .eq 38, 3) := by decide +kernel
theorem d_M_formWhole_63 : decode b_M_formWhole 63 = .ok (.iload_n 1, 1) := by decide +kernel
theorem d_M_formWhole_64 : decode b_M_formWhole 64 = .ok (.bipush 100, 2) := by decide +kernel
theorem d_M_formWhole_66 : decode b_M_formWhole 66 = .ok (.if_icmp .eq 32, 3) := by decide +kernel
theorem d_M_formWhole_69 : decode b_M_formWhole 69 = .ok (.iload_n 1, 1) := by decide +kernel
theorem d_M_formWhole_70 : decode b_M_formWhole 70 = .ok (.bipush 111, 2) := by decide +kernel
theorem d_M_formWhole_72 : decode b_M_formWhole 72 = .ok (.if_icmp .eq 26, 3) := by decide +kernel
theorem d_M_formWhole_75 : decode b_M_formWhole 75 = .ok (.aload_n 0, 1) := by decide +kernel
theorem d_M_formWhole_76 : decode b_M_formWhole 76 = .ok (.getfield 45, 3) := by decide +kernel
theorem d_M_formWhole_79 : decode b_M_formWhole 79 = .ok (.lconst 0, 1) := by decide +kernel
theorem d_M_formWhole_80 : decode b_M_formWhole 80 = .ok (.lcmp, 1) := by decide +kernel
theorem d_M_formWhole_81 : decode b_M_formWhole 81 = .ok (.ifCond .eq 17, 3) := by decide +kernel
theorem d_M_formWhole_84 : decode b_M_formWhole 84 = .ok (.aload_n 0, 1) := by decide +kernel
theorem d_M_formWhole_85 : decode b_M_formWhole 85 = .ok (.bipush 48, 2) := by decide +kernel
theorem d_M_formWhole_87 : decode b_M_formWhole 87 = .ok (.invokevirtual 225, 3) := by decide +kernel
theorem d_M_formWhole_90 : decode b_M_formWhole 90 = .ok (.aload_n 0, 1) := by decide +kernel
theorem d_M_formWhole_91 : decode b_M_formWhole 91 = .ok (.iload_n 1, 1) := by decide +kernel
theorem d_M_formWhole_92 : decode b_M_formWhole 92 = .ok (.invokevirtual 225, 3) := by decide +kernel
theorem d_M_formWhole_95 : decode b_M_formWhole 95 = .ok (.iconst 2, 1) := by decide +kernel
theorem d_M_formWhole_96 : decode b_M_formWhole 96 = .ok (.istore 5, 2) := by decide +kernel
theorem d_M_formWhole_98 : decode b_M_formWhole 98 = .ok (.aload_n 0, 1) := by decide +kernel
theorem d_M_formWhole_99 : decode b_M_formWhole 99 = .ok (.iload_n 1, 1) := by decide +kernel
theorem d_M_formWhole_100 : decode b_M_formWhole 100 = .ok (.bipush 100, 2) := by decide +kernel
theorem d_M_formWhole_102 : decode b_M_formWhole 102 = .ok (.if_icmp .ne 8, 3) := by decide +kernel
theorem d_M_formWhole_105 : decode b_M_formWhole 105 = .ok (.bipush 10, 2) := by decide +kernel
theorem d_M_formWhole_107 : decode b_M_formWhole 107 = .ok (.goto 16, 3) := by decide +kernel
theorem d_M_formWhole_110 : decode b_M_formWhole 110 = .ok (.iload_n 1, 1) := by decide +kernel
theorem d_M_formWhole_111 : decode b_M_formWhole 111 = .ok (.bipush 111, 2) := by decide +kernel
theorem d_M_formWhole_113 : decode b_M_formWhole 113 = .ok (.if_icmp .ne 8, 3) := by decide +kernel
theorem d_M_formWhole_116 : decode b_M_formWhole 116 = .ok (.bipush 8, 2) := by decide +kernel
theorem d_M_formWhole_118 : decode b_M_formWhole 118 = .ok (.goto 5, 3) := by decide +kernel
theorem d_M_formWhole_121 : decode b_M_formWhole 121 = .ok (.bipush 16, 2) := by decide +kernel
theorem d_M_formWhole_123 : decode b_M_formWhole 123 = .ok (.iload 6, 2) := by decide +kernel
theorem d_M_formWhole_125 : decode b_M_formWhole 125 = .ok (.iload 7, 2) := by decide +kernel
theorem d_M_formWhole_127 : decode b_M_formWhole 127 = .ok (.invokevirtual 262, 3) := by decide +kernel
theorem d_M_formWhole_130 : decode b_M_formWhole 130 = .ok (.iload_n 2, 1) := by decide +kernel
theorem d_M_formWhole_131 : decode b_M_formWhole 131 = .ok (.bipush 8, 2) := by decide +kernel
theorem d_M_formWhole_133 : decode b_M_formWhole 133 = .ok (.iand, 1) := by decide +kernel
theorem d_M_formWhole_134 : decode b_M_formWhole 134 = .ok (.ifCond .eq 76, 3) := by decide +kernel
theorem d_M_formWhole_137 : decode b_M_formWhole 137 = .ok (.iload_n 1, 1) := by decide +kernel
theorem d_M_formWhole_138 : decode b_M_formWhole 138 = .ok (.bipush 111, 2) := by decide +kernel
theorem d_M_formWhole_140 : decode b_M_formWhole 140 = .ok (.if_icmp .ne 70, 3) := by decide +kernel
theorem d_M_formWhole_143 : decode b_M_formWhole 143 = .ok (.aload_n 0, 1) := by decide +kernel
theorem d_M_formWhole_144 : decode b_M_formWhole 144 = .ok (.getfield 222, 3) := by decide +kernel
theorem d_M_formWhole_147 : decode b_M_formWhole 147 = .ok (.ifCond .eq 14, 3) := by decide +kernel
theorem d_M_formWhole_150 : decode b_M_formWhole 150 = .ok (.aload_n 0, 1) := by decide +kernel
theorem d_M_formWhole_151 : decode b_M_formWhole 151 = .ok (.getfield 39, 3) := by decide +kernel
theorem d_M_formWhole_154 : decode b_M_formWhole 154 = .ok (.iconst 0, 1) := by decide +kernel
theorem d_M_formWhole_155 : decode b_M_formWhole 155 = .ok (.baload, 1) := by decide +kernel
theorem d_M_formWhole_156 : decode b_M_formWhole 156 = .ok (.bipush 48, 2) := by decide +kernel
theorem d_M_formWhole_158 : decode b_M_formWhole 158 = .ok (.if_icmp .eq 52, 3) := by decide +kernel
theorem d_M_formWhole_161 : decode b_M_formWhole 161 = .ok (.aload_n 0, 1) := by decide +kernel
theorem d_M_formWhole_162 : decode b_M_formWhole 162 = .ok (.bipush 48, 2) := by decide +kernel
theorem d_M_formWhole_164 : decode b_M_formWhole 164 = .ok (.invokevirtual 225, 3) := by decide +kernel
theorem d_M_formWhole_167 : decode b_M_formWhole 167 = .ok (.aload_n 0, 1) := by decide +kernel
theorem d_M_formWhole_168 : decode b_M_formWhole 168 = .ok (.getfield 222, 3) := by decide +kernel
theorem d_M_formWhole_171 : decode b_M_formWhole 171 = .ok (.iconst 1, 1) := by decide +kernel
theorem d_M_formWhole_172 : decode b_M_formWhole 172 = .ok (.isub, 1) := by decide +kernel
theorem d_M_formWhole_173 : decode b_M_formWhole 173 = .ok (.istore 9, 2) := by decide +kernel
theorem d_M_formWhole_175 : decode b_M_formWhole 175 = .ok (.iload 9, 2) := by decide +kernel
theorem d_M_formWhole_177 : decode b_M_formWhole 177 = .ok (.ifCond .le 25, 3) := by decide +kernel
theorem d_M_formWhole_180 : decode b_M_formWhole 180 = .ok (.aload_n 0, 1) := by decide +kernel
theorem d_M_formWhole_181 : decode b_M_formWhole 181 = .ok (.getfield 39, 3) := by decide +kernel
theorem d_M_formWhole_184 : decode b_M_formWhole 184 = .ok (.iload 9, 2) := by decide +kernel
theorem d_M_formWhole_186 : decode b_M_formWhole 186 = .ok (.aload_n 0, 1) := by decide +kernel
theorem d_M_formWhole_187 : decode b_M_formWhole 187 = .ok (.getfield 39, 3) := by decide +kernel
theorem d_M_formWhole_190 : decode b_M_formWhole 190 = .ok (.iload 9, 2) := by decide +kernel
theorem d_M_formWhole_192 : decode b_M_formWhole 192 = .ok (.iconst 1, 1) := by decide +kernel
theorem d_M_formWhole_193 : decode b_M_formWhole 193 = .ok (.isub, 1) := by decide +kernel
theorem d_M_formWhole_194 : decode b_M_formWhole 194 = .ok (.baload, 1) := by decide +kernel
theorem d_M_formWhole_195 : decode b_M_formWhole 195 = .ok (.bastore, 1) := by decide +kernel
theorem d_M_formWhole_196 : decode b_M_formWhole 196 = .ok (.iinc 9 (-1), 3) := by decide +kernel
theorem d_M_formWhole_199 : decode b_M_formWhole 199 = .ok (.goto (-24), 3) := by decide +kernel
theorem d_M_formWhole_202 : decode b_M_formWhole 202 = .ok (.aload_n 0, 1) := by decide +kernel
theorem d_M_formWhole_203 : decode b_M_formWhole 203 = .ok (.getfield 39, 3) := by decide +kernel
theorem d_M_formWhole_206 : decode b_M_formWhole 206 = .ok (.iconst 0, 1) := by decide +kernel
theorem d_M_formWhole_207 : decode b_M_formWhole 207 = .ok (.bipush 48, 2) := by decide +kernel
theorem d_M_formWhole_209 : decode b_M_formWhole 209 = .ok (.bastore, 1) := by decide +kernel
theorem d_M_formWhole_210 : decode b_M_formWhole 210 = .ok (.aload_n 0, 1) := by decide +kernel
theorem d_M_formWhole_211 : decode b_M_formWhole 211 = .ok (.iload_n 2, 1) := by decide +kernel
theorem d_M_formWhole_212 : decode b_M_formWhole 212 = .ok (.iload_n 3, 1) := by decide +kernel
theorem d_M_formWhole_213 : decode b_M_formWhole 213 = .ok (.iload_n 1, 1) := by decide +kernel
theorem d_M_formWhole_214 : decode b_M_formWhole 214 = .ok (.bipush 100, 2) := by decide +kernel
theorem d_M_formWhole_216 : decode b_M_formWhole 216 = .ok (.if_icmp .ne 13, 3) := by decide +kernel
theorem d_M_formWhole_219 : decode b_M_formWhole 219 = .ok (.aload_n 0, 1) := by decide +kernel
theorem d_M_formWhole_220 : decode b_M_formWhole 220 = .ok (.iload_n 2, 1) := by decide +kernel
theorem d_M_formWhole_221 : decode b_M_formWhole 221 = .ok (.iload 8, 2) := by decide +kernel
theorem d_M_formWhole_223 : decode b_M_formWhole 223 = .ok (.invokevirtual 265, 3) := by decide +kernel
theorem d_M_formWhole_226 : decode b_M_formWhole 226 = .ok (.goto 4, 3) := by decide +kernel
theorem d_M_formWhole_229 : decode b_M_formWhole 229 = .ok (.iconst 0, 1) := by decide +kernel
theorem d_M_formWhole_230 : decode b_M_formWhole 230 = .ok (.iload 5, 2) := by decide +kernel
theorem d_M_formWhole_232 : decode b_M_formWhole 232 = .ok (.iload_n 2, 1) := by decide +kernel
theorem d_M_formWhole_233 : decode b_M_formWhole 233 = .ok (.bipush 16, 2) := by decide +kernel
theorem d_M_formWhole_235 : decode b_M_formWhole 235 = .ok (.iand, 1) := by decide +kernel
theorem d_M_formWhole_236 : decode b_M_formWhole 236 = .ok (.ifCond .eq 12, 3) := by decide +kernel
theorem d_M_formWhole_239 : decode b_M_formWhole 239 = .ok (.iload 4, 2) := by decide +kernel
theorem d_M_formWhole_241 : decode b_M_formWhole 241 = .ok (.ifCond .ge 7, 3) := by decide +kernel
theorem d_M_formWhole_244 : decode b_M_formWhole 244 = .ok (.iconst 1, 1) := by decide +kernel
theorem d_M_formWhole_245 : decode b_M_formWhole 245 = .ok (.goto 4, 3) := by decide +kernel
theorem d_M_formWhole_248 : decode b_M_formWhole 248 = .ok (.iconst 0, 1) := by decide +kernel
theorem d_M_formWhole_249 : decode b_M_formWhole 249 = .ok (.invokevirtual 268, 3) := by decide +kernel
theorem d_M_formWhole_252 : decode b_M_formWhole 252 = .ok (.ireturn, 1) := by decide +kernel
theorem d_M_formReal_0 : decode b_M_formReal 0 = .ok (.aload_n 0, 1) := by decide +kernel
theorem d_M_formReal_1 : decode b_M_formReal 1 = .ok (.iconst 0, 1) := by decide +kernel
theorem d_M_formReal_2 : decode b_M_formReal 2 = .ok (.putfield 222, 3) := by decide +kernel
theorem d_M_formReal_5 : decode b_M_formReal 5 = .ok (.iload_n 1, 1) := by decide +kernel
theorem d_M_formReal_6 : decode b_M_formReal 6 = .ok (.bipush 97, 2) := by decide +kernel
theorem d_M_formReal_8 : decode b_M_formReal 8 = .ok (.if_icmp .ge 7, 3) := by decide +kernel
theorem d_M_formReal_11 : decode b_M_formReal 11 = .ok (.iconst 1, 1) := by decide +kernel
theorem d_M_formReal_12 : decode b_M_formReal 12 = .ok (.goto 4, 3) := by decide +kernel
theorem d_M_formReal_15 : decode b_M_formReal 15 = .ok (.iconst 0, 1) := by decide +kernel
theorem d_M_formReal_16 : decode b_M_formReal 16 = .ok (.istore 5, 2) := by decide +kernel
theorem d_M_formReal_18 : decode b_M_formReal 18 = .ok (.iconst 0, 1) := by decide +kernel
theorem d_M_formReal_19 : decode b_M_formReal 19 = .ok (.istore 6, 2) := by decide +kernel
theorem d_M_formReal_21 : decode b_M_formReal 21 = .ok (.aload_n 0, 1) := by decide +kernel
theorem d_M_formReal_22 : decode b_M_formReal 22 = .ok (.getfield 13, 3) := by decide +kernel
theorem d_M_formReal_25 : decode b_M_formReal 25 = .ok (.iconst 4, 1) := by decide +kernel
theorem d_M_formReal_26 : decode b_M_formReal 26 = .ok (.if_icmp .eq 20, 3) := by decide +kernel
theorem d_M_formReal_29 : decode b_M_formReal 29 = .ok (.aload_n 0, 1) := by decide +kernel
theorem d_M_formReal_30 : decode b_M_formReal 30 = .ok (.getfield 13, 3) := by decide +kernel
theorem d_M_formReal_33 : decode b_M_formReal 33 = .ok (.iconst 2, 1) := by decide +kernel
theorem d_M_formReal_34 : decode b_M_formReal 34 = .ok (.if_icmp .ne 16, 3) := by decide +kernel
theorem d_M_formReal_37 : decode b_M_formReal 37 = .ok (.aload_n 0, 1) := by decide +kernel
theorem d_M_formReal_38 : decode b_M_formReal 38 = .ok (.getfield 45, 3) := by decide +kernel
theorem d_M_formReal_41 : decode b_M_formReal 41 = .ok (.lconst 0, 1) := by decide +kernel
theorem d_M_formReal_42 : decode b_M_formReal 42 = .ok (.lcmp, 1) := by decide +kernel
theorem d_M_formReal_43 : decode b_M_formReal 43 = .ok (.ifCond .ge 7, 3) := by decide +kernel
theorem d_M_formReal_46 : decode b_M_formReal 46 = .ok (.iconst 1, 1) := by decide +kernel
theorem d_M_formReal_47 : decode b_M_formReal 47 = .ok (.goto 4, 3) := by decide +kernel
theorem d_M_formReal_50 : decode b_M_formReal 50 = .ok (.iconst 0, 1) := by decide +kernel
theorem d_M_formReal_51 : decode b_M_formReal 51 = .ok (.istore 7, 2) := by decide +kernel
theorem d_M_formReal_53 : decode b_M_formReal 53 = .ok (.iload_n 2, 1) := by decide +kernel
theorem d_M_formReal_54 : decode b_M_formReal 54 = .ok (.bipush 8, 2) := by decide +kernel
theorem d_M_formReal_56 : decode b_M_formReal 56 = .ok (.iand, 1) := by decide +kernel
theorem d_M_formReal_57 : decode b_M_formReal 57 = .ok (.ifCond .eq 7, 3) := by decide +kernel
theorem d_M_formReal_60 : decode b_M_formReal 60 = .ok (.iconst 1, 1) := by decide +kernel
theorem d_M_formReal_61 : decode b_M_formReal 61 = .ok (.goto 4, 3) := by decide +kernel
theorem d_M_formReal_64 : decode b_M_formReal 64 = .ok (.iconst 0, 1) := by decide +kernel
theorem d_M_formReal_65 : decode b_M_formReal 65 = .ok (.istore 8, 2) := by decide +kernel
theorem d_M_formReal_67 : decode b_M_formReal 67 = .ok (.aload_n 0, 1) := by decide +kernel
theorem d_M_formReal_68 : decode b_M_formReal 68 = .ok (.getfield 13, 3) := by decide +kernel
theorem d_M_formReal_71 : decode b_M_formReal 71 = .ok (.iconst 5, 1) := by decide +kernel
theorem d_M_formReal_72 : decode b_M_formReal 72 = .ok (.if_icmp .ne 18, 3) := by decide +kernel
theorem d_M_formReal_75 : decode b_M_formReal 75 = .ok (.aload_n 0, 1) := by decide +kernel
theorem d_M_formReal_76 : decode b_M_formReal 76 = .ok (.bipush 110, 2) := by decide +kernel
theorem d_M_formReal_78 : decode b_M_formReal 78 = .ok (.bipush 97, 2) := by decide +kernel
theorem d_M_formReal_80 : decode b_M_formReal 80 = .ok (.bipush 110, 2) := by decide +kernel
theorem d_M_formReal_82 : decode b_M_formReal 82 = .ok (.iload 5, 2) := by decide +kernel
theorem d_M_formReal_84 : decode b_M_formReal 84 = .ok (.invokevirtual 272, 3) := by decide +kernel
theorem d_M_formReal_87 : decode b_M_formReal 87 = .ok (.goto 163, 3) := by decide +kernel
theorem d_M_formReal_90 : decode b_M_formReal 90 = .ok (.aload_n 0, 1) := by decide +kernel
theorem d_M_formReal_91 : decode b_M_formReal 91 = .ok (.getfield 13, 3) := by decide +kernel
theorem d_M_formReal_94 : decode b_M_formReal 94 = .ok (.iconst 2, 1) := by decide +kernel
theorem d_M_formReal_95 : decode b_M_formReal 95 = .ok (.if_icmp .eq 18, 3) := by decide +kernel
theorem d_M_formReal_98 : decode b_M_formReal 98 = .ok (.aload_n 0, 1) := by decide +kernel
theorem d_M_formReal_99 : decode b_M_formReal 99 = .ok (.bipush 105, 2) := by decide +kernel
theorem d_M_formReal_101 : decode b_M_formReal 101 = .ok (.bipush 110, 2) := by decide +kernel
theorem d_M_formReal_103 : decode b_M_formReal 103 = .ok (.bipush 102, 2) := by decide +kernel
theorem d_M_formReal_105 : decode b_M_formReal 105 = .ok (.iload 5, 2) := by decide +kernel
theorem d_M_formReal_107 : decode b_M_formReal 107 = .ok (.invokevirtual 272, 3) := by decide +kernel
theorem d_M_formReal_110 : decode b_M_formReal 110 = .ok (.goto 140, 3) := by decide +kernel
theorem d_M_formReal_113 : decode b_M_formReal 113 = .ok (.aload_n 0, 1) := by decide +kernel
theorem d_M_formReal_114 : decode b_M_formReal 114 = .ok (.invokevirtual 276, 3) := by decide +kernel
theorem d_M_formReal_117 : decode b_M_formReal 117 = .ok (.iload 5, 2) := by decide +kernel
theorem d_M_formReal_119 : decode b_M_formReal 119 = .ok (.ifCond .eq 10, 3) := by decide +kernel
theorem d_M_formReal_122 : decode b_M_formReal 122 = .ok (.iload_n 1, 1) := by decide +kernel
theorem d_M_formReal_123 : decode b_M_formReal 123 = .ok (.bipush 32, 2) := by decide +kernel
theorem d_M_formReal_125 : decode b_M_formReal 125 = .ok (.iadd, 1) := by decide +kernel
theorem d_M_formReal_126 : decode b_M_formReal 126 = .ok (.goto 4, 3) := by decide +kernel
theorem d_M_formReal_129 : decode b_M_formReal 129 = .ok (.iload_n 1, 1) := by decide +kernel
theorem d_M_formReal_130 : decode b_M_formReal 130 = .ok (.istore 9, 2) := by decide +kernel
theorem d_M_formReal_132 : decode b_M_formReal 132 = .ok (.iload 4, 2) := by decide +kernel
theorem d_M_formReal_134 : decode b_M_formReal 134 = .ok (.ifCond .ge 8, 3) := by decide +kernel
theorem d_M_formReal_137 : decode b_M_formReal 137 = .ok (.bipush 6, 2) := by decide +kernel
theorem d_M_formReal_139 : decode b_M_formReal 139 = .ok (.goto 5, 3) := by decide +kernel
theorem d_M_formReal_142 : decode b_M_formReal 142 = .ok (.iload 4, 2) := by decide +kernel
theorem d_M_formReal_144 : decode b_M_formReal 144 = .ok (.istore 10, 2) := by decide +kernel
theorem d_M_formReal_146 : decode b_M_formReal 146 = .ok (.iload 9, 2) := by decide +kernel
theorem d_M_formReal_148 : decode b_M_formReal 148 = .ok (.bipush 102, 2) := by decide +kernel
theorem d_M_formReal_150 : decode b_M_formReal 150 = .ok (.if_icmp .ne 11, 3) := by decide +kernel
theorem d_M_formReal_153 : decode b_M_formReal 153 = .ok (.aload_n 0, 1) := by decide +kernel
theorem d_M_formReal_154 : decode b_M_formReal 154 = .ok (.iload 10, 2) := by decide +kernel
theorem d_M_formReal_156 : decode b_M_formReal 156 = .ok (.iload 8, 2) := by decide +kernel
theorem d_M_formReal_158 : decode b_M_formReal 158 = .ok (.invokevirtual 245, 3) := by decide +kernel
theorem d_M_formReal_161 : decode b_M_formReal 161 = .ok (.iload 9, 2) := by decide +kernel
theorem d_M_formReal_163 : decode b_M_formReal 163 = .ok (.bipush 101, 2) := by decide +kernel
theorem d_M_formReal_165 : decode b_M_formReal 165 = .ok (.if_icmp .ne 11, 3) := by decide +kernel
theorem d_M_formReal_168 : decode b_M_formReal 168 = .ok (.aload_n 0, 1) := by decide +kernel
theorem d_M_formReal_169 : decode b_M_formReal 169 = .ok (.iload 10, 2) := by decide +kernel
theorem d_M_formReal_171 : decode b_M_formReal 171 = .ok (.iconst 1, 1) := by decide +kernel
theorem d_M_formReal_172 : decode b_M_formReal 172 = .ok (.iadd, 1) := by decide +kernel
theorem d_M_formReal_173 : decode b_M_formReal 173 = .ok (.invokevirtual 228, 3) := by decide +kernel
theorem d_M_formReal_176 : decode b_M_formReal 176 = .ok (.iload 9, 2) := by decide +kernel
theorem d_M_formReal_178 : decode b_M_formReal 178 = .ok (.bipush 101, 2) := by decide +kernel
theorem d_M_formReal_180 : decode b_M_formReal 180 = .ok (.if_icmp .ne 12, 3) := by decide +kernel
theorem d_M_formReal_183 : decode b_M_formReal 183 = .ok (.aload_n 0, 1) := by decide +kernel
theorem d_M_formReal_184 : decode b_M_formReal 184 = .ok (.iload 10, 2) := by decide +kernel
theorem d_M_formReal_186 : decode b_M_formReal 186 = .ok (.iload 8, 2) := by decide +kernel
theorem d_M_formReal_188 : decode b_M_formReal 188 = .ok (.iload_n 1, 1) := by decide +kernel
theorem d_M_formReal_189 : decode b_M_formReal 189 = .ok (.invokevirtual 248, 3) := by decide +kernel
theorem d_M_formReal_192 : decode b_M_formReal 192 = .ok (.iload 9, 2) := by decide +kernel
theorem d_M_formReal_194 : decode b_M_formReal 194 = .ok (.bipush 103, 2) := by decide +kernel
theorem d_M_formReal_196 : decode b_M_formReal 196 = .ok (.if_icmp .ne 23, 3) := by decide +kernel
theorem d_M_formReal_199 : decode b_M_formReal 199 = .ok (.aload_n 0, 1) := by decide +kernel
theorem d_M_formReal_200 : decode b_M_formReal 200 = .ok (.iload 4, 2) := by decide +kernel
theorem d_M_formReal_202 : decode b_M_formReal 202 = .ok (.iload 8, 2) := by decide +kernel
theorem d_M_formReal_204 : decode b_M_formReal 204 = .ok (.iload 5, 2) := by decide +kernel
theorem d_M_formReal_206 : decode b_M_formReal 206 = .ok (.ifCond .eq 8, 3) := by decide +kernel
theorem d_M_formReal_209 : decode b_M_formReal 209 = .ok (.bipush 69, 2) := by decide +kernel
theorem d_M_formReal_211 : decode b_M_formReal 211 = .ok (.goto 5, 3) := by decide +kernel
theorem d_M_formReal_214 : decode b_M_formReal 214 = .ok (.bipush 101, 2) := by decide +kernel
theorem d_M_formReal_216 : decode b_M_formReal 216 = .ok (.invokevirtual 279, 3) := by decide +kernel
theorem d_M_formReal_219 : decode b_M_formReal 219 = .ok (.iload 9, 2) := by decide +kernel
theorem d_M_formReal_221 : decode b_M_formReal 221 = .ok (.bipush 97, 2) := by decide +kernel
theorem d_M_formReal_223 : decode b_M_formReal 223 = .ok (.if_icmp .ne 13, 3) := by decide +kernel
theorem d_M_formReal_226 : decode b_M_formReal 226 = .ok (.aload_n 0, 1) := by decide +kernel
theorem d_M_formReal_227 : decode b_M_formReal 227 = .ok (.iload 4, 2) := by decide +kernel
theorem d_M_formReal_229 : decode b_M_formReal 229 = .ok (.iload 8, 2) := by decide +kernel
theorem d_M_formReal_231 : decode b_M_formReal 231 = .ok (.iload 5, 2) := by decide +kernel
theorem d_M_formReal_233 : decode b_M_formReal 233 = .ok (.invokevirtual 282, 3) := by decide +kernel
theorem d_M_formReal_236 : decode b_M_formReal 236 = .ok (.iload 9, 2) := by decide +kernel
theorem d_M_formReal_238 : decode b_M_formReal 238 = .ok (.bipush 97, 2) := by decide +kernel
theorem d_M_formReal_240 : decode b_M_formReal 240 = .ok (.if_icmp .ne 7, 3) := by decide +kernel
theorem d_M_formReal_243 : decode b_M_formReal 243 = .ok (.iconst 2, 1) := by decide +kernel
theorem d_M_formReal_244 : decode b_M_formReal 244 = .ok (.goto 4, 3) := by decide +kernel
theorem d_M_formReal_247 : decode b_M_formReal 247 = .ok (.iconst 0, 1) := by decide +kernel
theorem d_M_formReal_248 : decode b_M_formReal 248 = .ok (.istore 6, 2) := by decide +kernel
theorem d_M_formReal_250 : decode b_M_formReal 250 = .ok (.aload_n 0, 1) := by decide +kernel
theorem d_M_formReal_251 : decode b_M_formReal 251 = .ok (.iload_n 2, 1) := by decide +kernel
theorem d_M_formReal_252 : decode b_M_formReal 252 = .ok (.iload_n 3, 1) := by decide +kernel
theorem d_M_formReal_253 : decode b_M_formReal 253 = .ok (.aload_n 0, 1) := by decide +kernel
theorem d_M_formReal_254 : decode b_M_formReal 254 = .ok (.iload_n 2, 1) := by decide +kernel
theorem d_M_formReal_255 : decode b_M_formReal 255 = .ok (.iload 7, 2) := by decide +kernel
theorem d_M_formReal_257 : decode b_M_formReal 257 = .ok (.invokevirtual 265, 3) := by decide +kernel
theorem d_M_formReal_260 : decode b_M_formReal 260 = .ok (.iload 6, 2) := by decide +kernel
theorem d_M_formReal_262 : decode b_M_formReal 262 = .ok (.iload_n 2, 1) := by decide +kernel
theorem d_M_formReal_263 : decode b_M_formReal 263 = .ok (.bipush 16, 2) := by decide +kernel
theorem d_M_formReal_265 : decode b_M_formReal 265 = .ok (.iand, 1) := by decide +kernel
theorem d_M_formReal_266 : decode b_M_formReal 266 = .ok (.ifCond .eq 15, 3) := by decide +kernel
theorem d_M_formReal_269 : decode b_M_formReal 269 = .ok (.aload_n 0, 1) := by decide +kernel
theorem d_M_formReal_270 : decode b_M_formReal 270 = .ok (.getfield 13, 3) := by decide +kernel
theorem d_M_formReal_273 : decode b_M_formReal 273 = .ok (.iconst 2, 1) := by decide +kernel
theorem d_M_formReal_274 : decode b_M_formReal 274 = .ok (.if_icmp .ne 7, 3) := by decide +kernel
theorem d_M_formReal_277 : decode b_M_formReal 277 = .ok (.iconst 1, 1) := by decide +kernel
theorem d_M_formReal_278 : decode b_M_formReal 278 = .ok (.goto 4, 3) := by decide +kernel
theorem d_M_formReal_281 : decode b_M_formReal 281 = .ok (.iconst 0, 1) := by decide +kernel
theorem d_M_formReal_282 : decode b_M_formReal 282 = .ok (.invokevirtual 268, 3) := by decide +kernel
theorem d_M_formReal_285 : decode b_M_formReal 285 = .ok (.ireturn, 1) := by decide +kernel
theorem d_M_form_0 : decode b_M_form 0 = .ok (.iload_n 1, 1) := by decide +kernel
theorem d_M_form_1 : decode b_M_form 1 = .ok (.bipush 100, 2) := by decide +kernel
theorem d_M_form_3 : decode b_M_form 3 = .ok (.if_icmp .eq 21, 3) := by decide +kernel
theorem d_M_form_6 : decode b_M_form 6 = .ok (.iload_n 1, 1) := by decide +kernel
theorem d_M_form_7 : decode b_M_form 7 = .ok (.bipush 120, 2) := by decide +kernel
theorem d_M_form_9 : decode b_M_form 9 = .ok (.if_icmp .eq 15, 3) := by decide +kernel
theorem d_M_form_12 : decode b_M_form 12 = .ok (.iload_n 1, 1) := by decide +kernel
theorem d_M_form_13 : decode b_M_form 13 = .ok (.bipush 88, 2) := by decide +kernel
theorem d_M_form_15 : decode b_M_form 15 = .ok (.if_icmp .eq 9, 3) := by decide +kernel
theorem d_M_form_18 : decode b_M_form 18 = .ok (.iload_n 1, 1) := by decide +kernel
theorem d_M_form_19 : decode b_M_form 19 = .ok (.bipush 111, 2) := by decide +kernel
theorem d_M_form_21 : decode b_M_form 21 = .ok (.if_icmp .ne 7, 3) := by decide +kernel
theorem d_M_form_24 : decode b_M_form 24 = .ok (.iconst 1, 1) := by decide +kernel
theorem d_M_form_25 : decode b_M_form 25 = .ok (.goto 4, 3) := by decide +kernel
theorem d_M_form_28 : decode b_M_form 28 = .ok (.iconst 0, 1) := by decide +kernel
theorem d_M_form_29 : decode b_M_form 29 = .ok (.istore 5, 2) := by decide +kernel
theorem d_M_form_31 : decode b_M_form 31 = .ok (.iload 5, 2) := by decide +kernel
theorem d_M_form_33 : decode b_M_form 33 = .ok (.ifCond .ne 10, 3) := by decide +kernel
theorem d_M_form_36 : decode b_M_form 36 = .ok (.iload_n 1, 1) := by decide +kernel
theorem d_M_form_37 : decode b_M_form 37 = .ok (.invokestatic 286, 3) := by decide +kernel
theorem d_M_form_40 : decode b_M_form 40 = .ok (.ifCond .eq 36, 3) := by decide +kernel
theorem d_M_form_43 : decode b_M_form 43 = .ok (.iload_n 2, 1) := by decide +kernel
theorem d_M_form_44 : decode b_M_form 44 = .ok (.ifCond .lt 32, 3) := by decide +kernel
theorem d_M_form_47 : decode b_M_form 47 = .ok (.iload_n 2, 1) := by decide +kernel
theorem d_M_form_48 : decode b_M_form 48 = .ok (.bipush 31, 2) := by decide +kernel
theorem d_M_form_50 : decode b_M_form 50 = .ok (.if_icmp .gt 26, 3) := by decide +kernel
theorem d_M_form_53 : decode b_M_form 53 = .ok (.iload_n 3, 1) := by decide +kernel
theorem d_M_form_54 : decode b_M_form 54 = .ok (.ifCond .lt 22, 3) := by decide +kernel
theorem d_M_form_57 : decode b_M_form 57 = .ok (.iload_n 3, 1) := by decide +kernel
theorem d_M_form_58 : decode b_M_form 58 = .ok (.bipush 99, 2) := by decide +kernel
theorem d_M_form_60 : decode b_M_form 60 = .ok (.if_icmp .gt 16, 3) := by decide +kernel
theorem d_M_form_63 : decode b_M_form 63 = .ok (.iload 4, 2) := by decide +kernel
theorem d_M_form_65 : decode b_M_form 65 = .ok (.iconst (-1), 1) := by decide +kernel
theorem d_M_form_66 : decode b_M_form 66 = .ok (.if_icmp .lt 10, 3) := by decide +kernel
theorem d_M_form_69 : decode b_M_form 69 = .ok (.iload 4, 2) := by decide +kernel
theorem d_M_form_71 : decode b_M_form 71 = .ok (.bipush 99, 2) := by decide +kernel
theorem d_M_form_73 : decode b_M_form 73 = .ok (.if_icmp .le 5, 3) := by decide +kernel
theorem d_M_form_76 : decode b_M_form 76 = .ok (.iconst (-1), 1) := by decide +kernel
theorem d_M_form_77 : decode b_M_form 77 = .ok (.ireturn, 1) := by decide +kernel
theorem d_M_form_78 : decode b_M_form 78 = .ok (.aload_n 0, 1) := by decide +kernel
theorem d_M_form_79 : decode b_M_form 79 = .ok (.getfield 13, 3) := by decide +kernel
theorem d_M_form_82 : decode b_M_form 82 = .ok (.istore 6, 2) := by decide +kernel
theorem d_M_form_84 : decode b_M_form 84 = .ok (.aload_n 0, 1) := by decide +kernel
theorem d_M_form_85 : decode b_M_form 85 = .ok (.getfield 45, 3) := by decide +kernel
theorem d_M_form_88 : decode b_M_form 88 = .ok (.lstore 7, 2) := by decide +kernel
theorem d_M_form_90 : decode b_M_form 90 = .ok (.aload_n 0, 1) := by decide +kernel
theorem d_M_form_91 : decode b_M_form 91 = .ok (.getfield 49, 3) := by decide +kernel
theorem d_M_form_94 : decode b_M_form 94 = .ok (.istore 9, 2) := by decide +kernel
theorem d_M_form_96 : decode b_M_form 96 = .ok (.iconst (-1), 1) := by decide +kernel
theorem d_M_form_97 : decode b_M_form 97 = .ok (.istore 10, 2) := by decide +kernel
theorem d_M_form_99 : decode b_M_form 99 = .ok (.iload 5, 2) := by decide +kernel
theorem d_M_form_101 : decode b_M_form 101 = .ok (.ifCond .eq 24, 3) := by decide +kernel
theorem d_M_form_104 : decode b_M_form 104 = .ok (.aload_n 0, 1) := by decide +kernel
theorem d_M_form_105 : decode b_M_form 105 = .ok (.invokevirtual 289, 3) := by decide +kernel
theorem d_M_form_108 : decode b_M_form 108 = .ok (.ifCond .eq 46, 3) := by decide +kernel
theorem d_M_form_111 : decode b_M_form 111 = .ok (.aload_n 0, 1) := by decide +kernel
theorem d_M_form_112 : decode b_M_form 112 = .ok (.iload_n 1, 1) := by decide +kernel
theorem d_M_form_113 : decode b_M_form 113 = .ok (.iload_n 2, 1) := by decide +kernel
theorem d_M_form_114 : decode b_M_form 114 = .ok (.iload_n 3, 1) := by decide +kernel
theorem d_M_form_115 : decode b_M_form 115 = .ok (.iload 4, 2) := by decide +kernel
theorem d_M_form_117 : decode b_M_form 117 = .ok (.invokevirtual 292, 3) := by decide +kernel
theorem d_M_form_120 : decode b_M_form 120 = .ok (.istore 10, 2) := by decide +kernel
theorem d_M_form_122 : decode b_M_form 122 = .ok (.goto 32, 3) := by decide +kernel
theorem d_M_form_125 : decode b_M_form 125 = .ok (.aload_n 0, 1) := by decide +kernel
theorem d_M_form_126 : decode b_M_form 126 = .ok (.getfield 13, 3) := by decide +kernel
theorem d_M_form_129 : decode b_M_form 129 = .ok (.iconst 1, 1) := by decide +kernel
theorem d_M_form_130 : decode b_M_form 130 = .ok (.if_icmp .ne 13, 3) := by decide +kernel
theorem d_M_form_133 : decode b_M_form 133 = .ok (.aload_n 0, 1) := by decide +kernel
theorem d_M_form_134 : decode b_M_form 134 = .ok (.aload_n 0, 1) := by decide +kernel
theorem d_M_form_135 : decode b_M_form 135 = .ok (.getfield 45, 3) := by decide +kernel
theorem d_M_form_138 : decode b_M_form 138 = .ok (.iconst 0, 1) := by decide +kernel
theorem d_M_form_139 : decode b_M_form 139 = .ok (.invokevirtual 76, 3) := by decide +kernel
theorem d_M_form_142 : decode b_M_form 142 = .ok (.pop, 1) := by decide +kernel
theorem d_M_form_143 : decode b_M_form 143 = .ok (.aload_n 0, 1) := by decide +kernel
theorem d_M_form_144 : decode b_M_form 144 = .ok (.iload_n 1, 1) := by decide +kernel
theorem d_M_form_145 : decode b_M_form 145 = .ok (.iload_n 2, 1) := by decide +kernel
theorem d_M_form_146 : decode b_M_form 146 = .ok (.iload_n 3, 1) := by decide +kernel
theorem d_M_form_147 : decode b_M_form 147 = .ok (.iload 4, 2) := by decide +kernel
theorem d_M_form_149 : decode b_M_form 149 = .ok (.invokevirtual 296, 3) := by decide +kernel
theorem d_M_form_152 : decode b_M_form 152 = .ok (.istore 10, 2) := by decide +kernel
theorem d_M_form_154 : decode b_M_form 154 = .ok (.aload_n 0, 1) := by decide +kernel
theorem d_M_form_155 : decode b_M_form 155 = .ok (.iload 6, 2) := by decide +kernel
theorem d_M_form_157 : decode b_M_form 157 = .ok (.putfield 13, 3) := by decide +kernel
theorem d_M_form_160 : decode b_M_form 160 = .ok (.aload_n 0, 1) := by decide +kernel
theorem d_M_form_161 : decode b_M_form 161 = .ok (.lload 7, 2) := by decide +kernel
theorem d_M_form_163 : decode b_M_form 163 = .ok (.putfield 45, 3) := by decide +kernel
theorem d_M_form_166 : decode b_M_form 166 = .ok (.aload_n 0, 1) := by decide +kernel
theorem d_M_form_167 : decode b_M_form 167 = .ok (.iload 9, 2) := by decide +kernel
theorem d_M_form_169 : decode b_M_form 169 = .ok (.putfield 49, 3) := by decide +kernel
theorem d_M_form_172 : decode b_M_form 172 = .ok (.iload 10, 2) := by decide +kernel
theorem d_M_form_174 : decode b_M_form 174 = .ok (.ireturn, 1) := by decide +kernel
