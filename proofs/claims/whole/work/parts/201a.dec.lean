theorem d_M_hex_0 : decode b_M_hex 0 = .ok (.iload_n 0, 1) := by decide +kernel
theorem d_M_hex_1 : decode b_M_hex 1 = .ok (.bipush 48, 2) := by decide +kernel
theorem d_M_hex_3 : decode b_M_hex 3 = .ok (.if_icmp .lt 14, 3) := by decide +kernel
theorem d_M_hex_6 : decode b_M_hex 6 = .ok (.iload_n 0, 1) := by decide +kernel
theorem d_M_hex_7 : decode b_M_hex 7 = .ok (.bipush 57, 2) := by decide +kernel
theorem d_M_hex_9 : decode b_M_hex 9 = .ok (.if_icmp .gt 8, 3) := by decide +kernel
theorem d_M_hex_12 : decode b_M_hex 12 = .ok (.iload_n 0, 1) := by decide +kernel
theorem d_M_hex_13 : decode b_M_hex 13 = .ok (.bipush 48, 2) := by decide +kernel
theorem d_M_hex_15 : decode b_M_hex 15 = .ok (.isub, 1) := by decide +kernel
theorem d_M_hex_16 : decode b_M_hex 16 = .ok (.ireturn, 1) := by decide +kernel
theorem d_M_hex_17 : decode b_M_hex 17 = .ok (.iload_n 0, 1) := by decide +kernel
theorem d_M_hex_18 : decode b_M_hex 18 = .ok (.bipush 97, 2) := by decide +kernel
theorem d_M_hex_20 : decode b_M_hex 20 = .ok (.if_icmp .lt 17, 3) := by decide +kernel
theorem d_M_hex_23 : decode b_M_hex 23 = .ok (.iload_n 0, 1) := by decide +kernel
theorem d_M_hex_24 : decode b_M_hex 24 = .ok (.bipush 102, 2) := by decide +kernel
theorem d_M_hex_26 : decode b_M_hex 26 = .ok (.if_icmp .gt 11, 3) := by decide +kernel
theorem d_M_hex_29 : decode b_M_hex 29 = .ok (.iload_n 0, 1) := by decide +kernel
theorem d_M_hex_30 : decode b_M_hex 30 = .ok (.bipush 97, 2) := by decide +kernel
theorem d_M_hex_32 : decode b_M_hex 32 = .ok (.isub, 1) := by decide +kernel
theorem d_M_hex_33 : decode b_M_hex 33 = .ok (.bipush 10, 2) := by decide +kernel
theorem d_M_hex_35 : decode b_M_hex 35 = .ok (.iadd, 1) := by decide +kernel
theorem d_M_hex_36 : decode b_M_hex 36 = .ok (.ireturn, 1) := by decide +kernel
theorem d_M_hex_37 : decode b_M_hex 37 = .ok (.iload_n 0, 1) := by decide +kernel
theorem d_M_hex_38 : decode b_M_hex 38 = .ok (.bipush 65, 2) := by decide +kernel
theorem d_M_hex_40 : decode b_M_hex 40 = .ok (.if_icmp .lt 19, 3) := by decide +kernel
theorem d_M_hex_43 : decode b_M_hex 43 = .ok (.iload_n 0, 1) := by decide +kernel
theorem d_M_hex_44 : decode b_M_hex 44 = .ok (.bipush 70, 2) := by decide +kernel
theorem d_M_hex_46 : decode b_M_hex 46 = .ok (.if_icmp .gt 13, 3) := by decide +kernel
theorem d_M_hex_49 : decode b_M_hex 49 = .ok (.iload_n 0, 1) := by decide +kernel
theorem d_M_hex_50 : decode b_M_hex 50 = .ok (.bipush 65, 2) := by decide +kernel
theorem d_M_hex_52 : decode b_M_hex 52 = .ok (.isub, 1) := by decide +kernel
theorem d_M_hex_53 : decode b_M_hex 53 = .ok (.bipush 10, 2) := by decide +kernel
theorem d_M_hex_55 : decode b_M_hex 55 = .ok (.iadd, 1) := by decide +kernel
theorem d_M_hex_56 : decode b_M_hex 56 = .ok (.goto 4, 3) := by decide +kernel
theorem d_M_hex_59 : decode b_M_hex 59 = .ok (.iconst (-1), 1) := by decide +kernel
theorem d_M_hex_60 : decode b_M_hex 60 = .ok (.ireturn, 1) := by decide +kernel
theorem d_M_isDigit_0 : decode b_M_isDigit 0 = .ok (.iload_n 0, 1) := by decide +kernel
theorem d_M_isDigit_1 : decode b_M_isDigit 1 = .ok (.bipush 48, 2) := by decide +kernel
theorem d_M_isDigit_3 : decode b_M_isDigit 3 = .ok (.if_icmp .lt 13, 3) := by decide +kernel
theorem d_M_isDigit_6 : decode b_M_isDigit 6 = .ok (.iload_n 0, 1) := by decide +kernel
theorem d_M_isDigit_7 : decode b_M_isDigit 7 = .ok (.bipush 57, 2) := by decide +kernel
theorem d_M_isDigit_9 : decode b_M_isDigit 9 = .ok (.if_icmp .gt 7, 3) := by decide +kernel
theorem d_M_isDigit_12 : decode b_M_isDigit 12 = .ok (.iconst 1, 1) := by decide +kernel
theorem d_M_isDigit_13 : decode b_M_isDigit 13 = .ok (.goto 4, 3) := by decide +kernel
theorem d_M_isDigit_16 : decode b_M_isDigit 16 = .ok (.iconst 0, 1) := by decide +kernel
theorem d_M_isDigit_17 : decode b_M_isDigit 17 = .ok (.ireturn, 1) := by decide +kernel
theorem d_M_isSign_0 : decode b_M_isSign 0 = .ok (.iload_n 0, 1) := by decide +kernel
theorem d_M_isSign_1 : decode b_M_isSign 1 = .ok (.bipush 43, 2) := by decide +kernel
theorem d_M_isSign_3 : decode b_M_isSign 3 = .ok (.if_icmp .eq 9, 3) := by decide +kernel
theorem d_M_isSign_6 : decode b_M_isSign 6 = .ok (.iload_n 0, 1) := by decide +kernel
theorem d_M_isSign_7 : decode b_M_isSign 7 = .ok (.bipush 45, 2) := by decide +kernel
theorem d_M_isSign_9 : decode b_M_isSign 9 = .ok (.if_icmp .ne 7, 3) := by decide +kernel
theorem d_M_isSign_12 : decode b_M_isSign 12 = .ok (.iconst 1, 1) := by decide +kernel
theorem d_M_isSign_13 : decode b_M_isSign 13 = .ok (.goto 4, 3) := by decide +kernel
theorem d_M_isSign_16 : decode b_M_isSign 16 = .ok (.iconst 0, 1) := by decide +kernel
theorem d_M_isSign_17 : decode b_M_isSign 17 = .ok (.ireturn, 1) := by decide +kernel
theorem d_M_next3_0 : decode b_M_next3 0 = .ok (.iload_n 0, 1) := by decide +kernel
theorem d_M_next3_1 : decode b_M_next3 1 = .ok (.invokestatic 87, 3) := by decide +kernel
theorem d_M_next3_4 : decode b_M_next3 4 = .ok (.ifCond .eq 7, 3) := by decide +kernel
theorem d_M_next3_7 : decode b_M_next3 7 = .ok (.iconst 3, 1) := by decide +kernel
theorem d_M_next3_8 : decode b_M_next3 8 = .ok (.goto 40, 3) := by decide +kernel
theorem d_M_next3_11 : decode b_M_next3 11 = .ok (.iload_n 0, 1) := by decide +kernel
theorem d_M_next3_12 : decode b_M_next3 12 = .ok (.bipush 46, 2) := by decide +kernel
theorem d_M_next3_14 : decode b_M_next3 14 = .ok (.if_icmp .ne 7, 3) := by decide +kernel
theorem d_M_next3_17 : decode b_M_next3 17 = .ok (.iconst 5, 1) := by decide +kernel
theorem d_M_next3_18 : decode b_M_next3 18 = .ok (.goto 30, 3) := by decide +kernel
theorem d_M_next3_21 : decode b_M_next3 21 = .ok (.iload_n 0, 1) := by decide +kernel
theorem d_M_next3_22 : decode b_M_next3 22 = .ok (.bipush 101, 2) := by decide +kernel
theorem d_M_next3_24 : decode b_M_next3 24 = .ok (.if_icmp .eq 9, 3) := by decide +kernel
theorem d_M_next3_27 : decode b_M_next3 27 = .ok (.iload_n 0, 1) := by decide +kernel
theorem d_M_next3_28 : decode b_M_next3 28 = .ok (.bipush 69, 2) := by decide +kernel
theorem d_M_next3_30 : decode b_M_next3 30 = .ok (.if_icmp .ne 8, 3) := by decide +kernel
theorem d_M_next3_33 : decode b_M_next3 33 = .ok (.bipush 6, 2) := by decide +kernel
theorem d_M_next3_35 : decode b_M_next3 35 = .ok (.goto 13, 3) := by decide +kernel
theorem d_M_next3_38 : decode b_M_next3 38 = .ok (.iload_n 1, 1) := by decide +kernel
theorem d_M_next3_39 : decode b_M_next3 39 = .ok (.ifCond .eq 8, 3) := by decide +kernel
theorem d_M_next3_42 : decode b_M_next3 42 = .ok (.bipush 9, 2) := by decide +kernel
theorem d_M_next3_44 : decode b_M_next3 44 = .ok (.goto 4, 3) := by decide +kernel
theorem d_M_next3_47 : decode b_M_next3 47 = .ok (.iconst (-1), 1) := by decide +kernel
theorem d_M_next3_48 : decode b_M_next3 48 = .ok (.ireturn, 1) := by decide +kernel
theorem d_M_next_0 : decode b_M_next 0 = .ok (.iload_n 1, 1) := by decide +kernel
theorem d_M_next_1 : decode b_M_next 1 = .ok (.invokestatic 80, 3) := by decide +kernel
theorem d_M_next_4 : decode b_M_next 4 = .ok (.istore_n 2, 1) := by decide +kernel
theorem d_M_next_5 : decode b_M_next 5 = .ok (.iload_n 0, 1) := by decide +kernel
theorem d_M_next_6 : decode b_M_next 6 = .ok (.tableswitch 496 0 17 #[86, 138, 171, 194, 200, 213, 252, 278, 292, 315, 496, 496, 326, 351, 402, 416, 456, 482], 86) := by decide +kernel
theorem d_M_next_92 : decode b_M_next 92 = .ok (.iload_n 2, 1) := by decide +kernel
theorem d_M_next_93 : decode b_M_next 93 = .ok (.ifCond .eq 7, 3) := by decide +kernel
theorem d_M_next_96 : decode b_M_next 96 = .ok (.iconst 0, 1) := by decide +kernel
theorem d_M_next_97 : decode b_M_next 97 = .ok (.goto 46, 3) := by decide +kernel
theorem d_M_next_100 : decode b_M_next 100 = .ok (.iload_n 1, 1) := by decide +kernel
theorem d_M_next_101 : decode b_M_next 101 = .ok (.invokestatic 84, 3) := by decide +kernel
theorem d_M_next_104 : decode b_M_next 104 = .ok (.ifCond .eq 7, 3) := by decide +kernel
theorem d_M_next_107 : decode b_M_next 107 = .ok (.iconst 1, 1) := by decide +kernel
theorem d_M_next_108 : decode b_M_next 108 = .ok (.goto 35, 3) := by decide +kernel
theorem d_M_next_111 : decode b_M_next 111 = .ok (.iload_n 1, 1) := by decide +kernel
theorem d_M_next_112 : decode b_M_next 112 = .ok (.bipush 48, 2) := by decide +kernel
theorem d_M_next_114 : decode b_M_next 114 = .ok (.if_icmp .ne 7, 3) := by decide +kernel
theorem d_M_next_117 : decode b_M_next 117 = .ok (.iconst 2, 1) := by decide +kernel
theorem d_M_next_118 : decode b_M_next 118 = .ok (.goto 25, 3) := by decide +kernel
theorem d_M_next_121 : decode b_M_next 121 = .ok (.iload_n 1, 1) := by decide +kernel
theorem d_M_next_122 : decode b_M_next 122 = .ok (.invokestatic 87, 3) := by decide +kernel
theorem d_M_next_125 : decode b_M_next 125 = .ok (.ifCond .eq 7, 3) := by decide +kernel
theorem d_M_next_128 : decode b_M_next 128 = .ok (.iconst 3, 1) := by decide +kernel
theorem d_M_next_129 : decode b_M_next 129 = .ok (.goto 14, 3) := by decide +kernel
theorem d_M_next_132 : decode b_M_next 132 = .ok (.iload_n 1, 1) := by decide +kernel
theorem d_M_next_133 : decode b_M_next 133 = .ok (.bipush 46, 2) := by decide +kernel
theorem d_M_next_135 : decode b_M_next 135 = .ok (.if_icmp .ne 7, 3) := by decide +kernel
theorem d_M_next_138 : decode b_M_next 138 = .ok (.iconst 4, 1) := by decide +kernel
theorem d_M_next_139 : decode b_M_next 139 = .ok (.goto 4, 3) := by decide +kernel
theorem d_M_next_142 : decode b_M_next 142 = .ok (.iconst (-1), 1) := by decide +kernel
theorem d_M_next_143 : decode b_M_next 143 = .ok (.ireturn, 1) := by decide +kernel
theorem d_M_next_144 : decode b_M_next 144 = .ok (.iload_n 1, 1) := by decide +kernel
theorem d_M_next_145 : decode b_M_next 145 = .ok (.bipush 48, 2) := by decide +kernel
theorem d_M_next_147 : decode b_M_next 147 = .ok (.if_icmp .ne 7, 3) := by decide +kernel
theorem d_M_next_150 : decode b_M_next 150 = .ok (.iconst 2, 1) := by decide +kernel
theorem d_M_next_151 : decode b_M_next 151 = .ok (.goto 25, 3) := by decide +kernel
theorem d_M_next_154 : decode b_M_next 154 = .ok (.iload_n 1, 1) := by decide +kernel
theorem d_M_next_155 : decode b_M_next 155 = .ok (.invokestatic 87, 3) := by decide +kernel
theorem d_M_next_158 : decode b_M_next 158 = .ok (.ifCond .eq 7, 3) := by decide +kernel
theorem d_M_next_161 : decode b_M_next 161 = .ok (.iconst 3, 1) := by decide +kernel
theorem d_M_next_162 : decode b_M_next 162 = .ok (.goto 14, 3) := by decide +kernel
theorem d_M_next_165 : decode b_M_next 165 = .ok (.iload_n 1, 1) := by decide +kernel
theorem d_M_next_166 : decode b_M_next 166 = .ok (.bipush 46, 2) := by decide +kernel
theorem d_M_next_168 : decode b_M_next 168 = .ok (.if_icmp .ne 7, 3) := by decide +kernel
theorem d_M_next_171 : decode b_M_next 171 = .ok (.iconst 4, 1) := by decide +kernel
theorem d_M_next_172 : decode b_M_next 172 = .ok (.goto 4, 3) := by decide +kernel
theorem d_M_next_175 : decode b_M_next 175 = .ok (.iconst (-1), 1) := by decide +kernel
theorem d_M_next_176 : decode b_M_next 176 = .ok (.ireturn, 1) := by decide +kernel
theorem d_M_next_177 : decode b_M_next 177 = .ok (.iload_n 1, 1) := by decide +kernel
theorem d_M_next_178 : decode b_M_next 178 = .ok (.bipush 120, 2) := by decide +kernel
theorem d_M_next_180 : decode b_M_next 180 = .ok (.if_icmp .eq 9, 3) := by decide +kernel
theorem d_M_next_183 : decode b_M_next 183 = .ok (.iload_n 1, 1) := by decide +kernel
theorem d_M_next_184 : decode b_M_next 184 = .ok (.bipush 88, 2) := by decide +kernel
theorem d_M_next_186 : decode b_M_next 186 = .ok (.if_icmp .ne 8, 3) := by decide +kernel
theorem d_M_next_189 : decode b_M_next 189 = .ok (.bipush 12, 2) := by decide +kernel
theorem d_M_next_191 : decode b_M_next 191 = .ok (.goto 8, 3) := by decide +kernel
theorem d_M_next_194 : decode b_M_next 194 = .ok (.iload_n 1, 1) := by decide +kernel
theorem d_M_next_195 : decode b_M_next 195 = .ok (.iload_n 2, 1) := by decide +kernel
theorem d_M_next_196 : decode b_M_next 196 = .ok (.invokestatic 90, 3) := by decide +kernel
theorem d_M_next_199 : decode b_M_next 199 = .ok (.ireturn, 1) := by decide +kernel
theorem d_M_next_200 : decode b_M_next 200 = .ok (.iload_n 1, 1) := by decide +kernel
theorem d_M_next_201 : decode b_M_next 201 = .ok (.iload_n 2, 1) := by decide +kernel
theorem d_M_next_202 : decode b_M_next 202 = .ok (.invokestatic 90, 3) := by decide +kernel
theorem d_M_next_205 : decode b_M_next 205 = .ok (.ireturn, 1) := by decide +kernel
theorem d_M_next_206 : decode b_M_next 206 = .ok (.iload_n 1, 1) := by decide +kernel
theorem d_M_next_207 : decode b_M_next 207 = .ok (.invokestatic 87, 3) := by decide +kernel
theorem d_M_next_210 : decode b_M_next 210 = .ok (.ifCond .eq 7, 3) := by decide +kernel
theorem d_M_next_213 : decode b_M_next 213 = .ok (.iconst 5, 1) := by decide +kernel
theorem d_M_next_214 : decode b_M_next 214 = .ok (.goto 4, 3) := by decide +kernel
theorem d_M_next_217 : decode b_M_next 217 = .ok (.iconst (-1), 1) := by decide +kernel
theorem d_M_next_218 : decode b_M_next 218 = .ok (.ireturn, 1) := by decide +kernel
theorem d_M_next_219 : decode b_M_next 219 = .ok (.iload_n 1, 1) := by decide +kernel
theorem d_M_next_220 : decode b_M_next 220 = .ok (.invokestatic 87, 3) := by decide +kernel
theorem d_M_next_223 : decode b_M_next 223 = .ok (.ifCond .eq 7, 3) := by decide +kernel
theorem d_M_next_226 : decode b_M_next 226 = .ok (.iconst 5, 1) := by decide +kernel
theorem d_M_next_227 : decode b_M_next 227 = .ok (.goto 30, 3) := by decide +kernel
theorem d_M_next_230 : decode b_M_next 230 = .ok (.iload_n 1, 1) := by decide +kernel
theorem d_M_next_231 : decode b_M_next 231 = .ok (.bipush 101, 2) := by decide +kernel
theorem d_M_next_233 : decode b_M_next 233 = .ok (.if_icmp .eq 9, 3) := by decide +kernel
theorem d_M_next_236 : decode b_M_next 236 = .ok (.iload_n 1, 1) := by decide +kernel
theorem d_M_next_237 : decode b_M_next 237 = .ok (.bipush 69, 2) := by decide +kernel
theorem d_M_next_239 : decode b_M_next 239 = .ok (.if_icmp .ne 8, 3) := by decide +kernel
theorem d_M_next_242 : decode b_M_next 242 = .ok (.bipush 6, 2) := by decide +kernel
theorem d_M_next_244 : decode b_M_next 244 = .ok (.goto 13, 3) := by decide +kernel
theorem d_M_next_247 : decode b_M_next 247 = .ok (.iload_n 2, 1) := by decide +kernel
theorem d_M_next_248 : decode b_M_next 248 = .ok (.ifCond .eq 8, 3) := by decide +kernel
theorem d_M_next_251 : decode b_M_next 251 = .ok (.bipush 9, 2) := by decide +kernel
theorem d_M_next_253 : decode b_M_next 253 = .ok (.goto 4, 3) := by decide +kernel
theorem d_M_next_256 : decode b_M_next 256 = .ok (.iconst (-1), 1) := by decide +kernel
theorem d_M_next_257 : decode b_M_next 257 = .ok (.ireturn, 1) := by decide +kernel
theorem d_M_next_258 : decode b_M_next 258 = .ok (.iload_n 1, 1) := by decide +kernel
theorem d_M_next_259 : decode b_M_next 259 = .ok (.invokestatic 84, 3) := by decide +kernel
theorem d_M_next_262 : decode b_M_next 262 = .ok (.ifCond .eq 8, 3) := by decide +kernel
theorem d_M_next_265 : decode b_M_next 265 = .ok (.bipush 7, 2) := by decide +kernel
theorem d_M_next_267 : decode b_M_next 267 = .ok (.goto 16, 3) := by decide +kernel
theorem d_M_next_270 : decode b_M_next 270 = .ok (.iload_n 1, 1) := by decide +kernel
theorem d_M_next_271 : decode b_M_next 271 = .ok (.invokestatic 87, 3) := by decide +kernel
theorem d_M_next_274 : decode b_M_next 274 = .ok (.ifCond .eq 8, 3) := by decide +kernel
theorem d_M_next_277 : decode b_M_next 277 = .ok (.bipush 8, 2) := by decide +kernel
theorem d_M_next_279 : decode b_M_next 279 = .ok (.goto 4, 3) := by decide +kernel
theorem d_M_next_282 : decode b_M_next 282 = .ok (.iconst (-1), 1) := by decide +kernel
theorem d_M_next_283 : decode b_M_next 283 = .ok (.ireturn, 1) := by decide +kernel
theorem d_M_next_284 : decode b_M_next 284 = .ok (.iload_n 1, 1) := by decide +kernel
theorem d_M_next_285 : decode b_M_next 285 = .ok (.invokestatic 87, 3) := by decide +kernel
theorem d_M_next_288 : decode b_M_next 288 = .ok (.ifCond .eq 8, 3) := by decide +kernel
theorem d_M_next_291 : decode b_M_next 291 = .ok (.bipush 8, 2) := by decide +kernel
theorem d_M_next_293 : decode b_M_next 293 = .ok (.goto 4, 3) := by decide +kernel
theorem d_M_next_296 : decode b_M_next 296 = .ok (.iconst (-1), 1) := by decide +kernel
theorem d_M_next_297 : decode b_M_next 297 = .ok (.ireturn, 1) := by decide +kernel
theorem d_M_next_298 : decode b_M_next 298 = .ok (.iload_n 1, 1) := by decide +kernel
theorem d_M_next_299 : decode b_M_next 299 = .ok (.invokestatic 87, 3) := by decide +kernel
theorem d_M_next_302 : decode b_M_next 302 = .ok (.ifCond .eq 8, 3) := by decide +kernel
theorem d_M_next_305 : decode b_M_next 305 = .ok (.bipush 8, 2) := by decide +kernel
theorem d_M_next_307 : decode b_M_next 307 = .ok (.goto 13, 3) := by decide +kernel
theorem d_M_next_310 : decode b_M_next 310 = .ok (.iload_n 2, 1) := by decide +kernel
theorem d_M_next_311 : decode b_M_next 311 = .ok (.ifCond .eq 8, 3) := by decide +kernel
theorem d_M_next_314 : decode b_M_next 314 = .ok (.bipush 9, 2) := by decide +kernel
theorem d_M_next_316 : decode b_M_next 316 = .ok (.goto 4, 3) := by decide +kernel
theorem d_M_next_319 : decode b_M_next 319 = .ok (.iconst (-1), 1) := by decide +kernel
theorem d_M_next_320 : decode b_M_next 320 = .ok (.ireturn, 1) := by decide +kernel
theorem d_M_next_321 : decode b_M_next 321 = .ok (.iload_n 2, 1) := by decide +kernel
theorem d_M_next_322 : decode b_M_next 322 = .ok (.ifCond .eq 8, 3) := by decide +kernel
theorem d_M_next_325 : decode b_M_next 325 = .ok (.bipush 9, 2) := by decide +kernel
theorem d_M_next_327 : decode b_M_next 327 = .ok (.goto 4, 3) := by decide +kernel
theorem d_M_next_330 : decode b_M_next 330 = .ok (.iconst (-1), 1) := by decide +kernel
theorem d_M_next_331 : decode b_M_next 331 = .ok (.ireturn, 1) := by decide +kernel
theorem d_M_next_332 : decode b_M_next 332 = .ok (.iload_n 1, 1) := by decide +kernel
theorem d_M_next_333 : decode b_M_next 333 = .ok (.invokestatic 94, 3) := by decide +kernel
theorem d_M_next_336 : decode b_M_next 336 = .ok (.ifCond .lt 8, 3) := by decide +kernel
theorem d_M_next_339 : decode b_M_next 339 = .ok (.bipush 13, 2) := by decide +kernel
theorem d_M_next_341 : decode b_M_next 341 = .ok (.goto 15, 3) := by decide +kernel
theorem d_M_next_344 : decode b_M_next 344 = .ok (.iload_n 1, 1) := by decide +kernel
theorem d_M_next_345 : decode b_M_next 345 = .ok (.bipush 46, 2) := by decide +kernel
theorem d_M_next_347 : decode b_M_next 347 = .ok (.if_icmp .ne 8, 3) := by decide +kernel
theorem d_M_next_350 : decode b_M_next 350 = .ok (.bipush 14, 2) := by decide +kernel
theorem d_M_next_352 : decode b_M_next 352 = .ok (.goto 4, 3) := by decide +kernel
theorem d_M_next_355 : decode b_M_next 355 = .ok (.iconst (-1), 1) := by decide +kernel
theorem d_M_next_356 : decode b_M_next 356 = .ok (.ireturn, 1) := by decide +kernel
theorem d_M_next_357 : decode b_M_next 357 = .ok (.iload_n 1, 1) := by decide +kernel
theorem d_M_next_358 : decode b_M_next 358 = .ok (.invokestatic 94, 3) := by decide +kernel
theorem d_M_next_361 : decode b_M_next 361 = .ok (.ifCond .lt 8, 3) := by decide +kernel
theorem d_M_next_364 : decode b_M_next 364 = .ok (.bipush 13, 2) := by decide +kernel
theorem d_M_next_366 : decode b_M_next 366 = .ok (.goto 41, 3) := by decide +kernel
theorem d_M_next_369 : decode b_M_next 369 = .ok (.iload_n 1, 1) := by decide +kernel
theorem d_M_next_370 : decode b_M_next 370 = .ok (.bipush 46, 2) := by decide +kernel
theorem d_M_next_372 : decode b_M_next 372 = .ok (.if_icmp .ne 8, 3) := by decide +kernel
theorem d_M_next_375 : decode b_M_next 375 = .ok (.bipush 15, 2) := by decide +kernel
theorem d_M_next_377 : decode b_M_next 377 = .ok (.goto 30, 3) := by decide +kernel
theorem d_M_next_380 : decode b_M_next 380 = .ok (.iload_n 1, 1) := by decide +kernel
theorem d_M_next_381 : decode b_M_next 381 = .ok (.bipush 112, 2) := by decide +kernel
theorem d_M_next_383 : decode b_M_next 383 = .ok (.if_icmp .eq 9, 3) := by decide +kernel
theorem d_M_next_386 : decode b_M_next 386 = .ok (.iload_n 1, 1) := by decide +kernel
theorem d_M_next_387 : decode b_M_next 387 = .ok (.bipush 80, 2) := by decide +kernel
theorem d_M_next_389 : decode b_M_next 389 = .ok (.if_icmp .ne 8, 3) := by decide +kernel
theorem d_M_next_392 : decode b_M_next 392 = .ok (.bipush 16, 2) := by decide +kernel
theorem d_M_next_394 : decode b_M_next 394 = .ok (.goto 13, 3) := by decide +kernel
theorem d_M_next_397 : decode b_M_next 397 = .ok (.iload_n 2, 1) := by decide +kernel
theorem d_M_next_398 : decode b_M_next 398 = .ok (.ifCond .eq 8, 3) := by decide +kernel
theorem d_M_next_401 : decode b_M_next 401 = .ok (.bipush 9, 2) := by decide +kernel
theorem d_M_next_403 : decode b_M_next 403 = .ok (.goto 4, 3) := by decide +kernel
theorem d_M_next_406 : decode b_M_next 406 = .ok (.iconst (-1), 1) := by decide +kernel
theorem d_M_next_407 : decode b_M_next 407 = .ok (.ireturn, 1) := by decide +kernel
theorem d_M_next_408 : decode b_M_next 408 = .ok (.iload_n 1, 1) := by decide +kernel
theorem d_M_next_409 : decode b_M_next 409 = .ok (.invokestatic 94, 3) := by decide +kernel
theorem d_M_next_412 : decode b_M_next 412 = .ok (.ifCond .lt 8, 3) := by decide +kernel
theorem d_M_next_415 : decode b_M_next 415 = .ok (.bipush 15, 2) := by decide +kernel
theorem d_M_next_417 : decode b_M_next 417 = .ok (.goto 4, 3) := by decide +kernel
theorem d_M_next_420 : decode b_M_next 420 = .ok (.iconst (-1), 1) := by decide +kernel
theorem d_M_next_421 : decode b_M_next 421 = .ok (.ireturn, 1) := by decide +kernel
theorem d_M_next_422 : decode b_M_next 422 = .ok (.iload_n 1, 1) := by decide +kernel
theorem d_M_next_423 : decode b_M_next 423 = .ok (.invokestatic 94, 3) := by decide +kernel
theorem d_M_next_426 : decode b_M_next 426 = .ok (.ifCond .lt 8, 3) := by decide +kernel
theorem d_M_next_429 : decode b_M_next 429 = .ok (.bipush 15, 2) := by decide +kernel
theorem d_M_next_431 : decode b_M_next 431 = .ok (.goto 30, 3) := by decide +kernel
theorem d_M_next_434 : decode b_M_next 434 = .ok (.iload_n 1, 1) := by decide +kernel
theorem d_M_next_435 : decode b_M_next 435 = .ok (.bipush 112, 2) := by decide +kernel
theorem d_M_next_437 : decode b_M_next 437 = .ok (.if_icmp .eq 9, 3) := by decide +kernel
theorem d_M_next_440 : decode b_M_next 440 = .ok (.iload_n 1, 1) := by decide +kernel
theorem d_M_next_441 : decode b_M_next 441 = .ok (.bipush 80, 2) := by decide +kernel
theorem d_M_next_443 : decode b_M_next 443 = .ok (.if_icmp .ne 8, 3) := by decide +kernel
theorem d_M_next_446 : decode b_M_next 446 = .ok (.bipush 16, 2) := by decide +kernel
theorem d_M_next_448 : decode b_M_next 448 = .ok (.goto 13, 3) := by decide +kernel
theorem d_M_next_451 : decode b_M_next 451 = .ok (.iload_n 2, 1) := by decide +kernel
theorem d_M_next_452 : decode b_M_next 452 = .ok (.ifCond .eq 8, 3) := by decide +kernel
theorem d_M_next_455 : decode b_M_next 455 = .ok (.bipush 9, 2) := by decide +kernel
theorem d_M_next_457 : decode b_M_next 457 = .ok (.goto 4, 3) := by decide +kernel
theorem d_M_next_460 : decode b_M_next 460 = .ok (.iconst (-1), 1) := by decide +kernel
theorem d_M_next_461 : decode b_M_next 461 = .ok (.ireturn, 1) := by decide +kernel
theorem d_M_next_462 : decode b_M_next 462 = .ok (.iload_n 1, 1) := by decide +kernel
theorem d_M_next_463 : decode b_M_next 463 = .ok (.invokestatic 84, 3) := by decide +kernel
theorem d_M_next_466 : decode b_M_next 466 = .ok (.ifCond .eq 8, 3) := by decide +kernel
theorem d_M_next_469 : decode b_M_next 469 = .ok (.bipush 17, 2) := by decide +kernel
theorem d_M_next_471 : decode b_M_next 471 = .ok (.goto 16, 3) := by decide +kernel
theorem d_M_next_474 : decode b_M_next 474 = .ok (.iload_n 1, 1) := by decide +kernel
theorem d_M_next_475 : decode b_M_next 475 = .ok (.invokestatic 87, 3) := by decide +kernel
theorem d_M_next_478 : decode b_M_next 478 = .ok (.ifCond .eq 8, 3) := by decide +kernel
theorem d_M_next_481 : decode b_M_next 481 = .ok (.bipush 18, 2) := by decide +kernel
theorem d_M_next_483 : decode b_M_next 483 = .ok (.goto 4, 3) := by decide +kernel
theorem d_M_next_486 : decode b_M_next 486 = .ok (.iconst (-1), 1) := by decide +kernel
theorem d_M_next_487 : decode b_M_next 487 = .ok (.ireturn, 1) := by decide +kernel
theorem d_M_next_488 : decode b_M_next 488 = .ok (.iload_n 1, 1) := by decide +kernel
theorem d_M_next_489 : decode b_M_next 489 = .ok (.invokestatic 87, 3) := by decide +kernel
theorem d_M_next_492 : decode b_M_next 492 = .ok (.ifCond .eq 8, 3) := by decide +kernel
theorem d_M_next_495 : decode b_M_next 495 = .ok (.bipush 18, 2) := by decide +kernel
theorem d_M_next_497 : decode b_M_next 497 = .ok (.goto 4, 3) := by decide +kernel
theorem d_M_next_500 : decode b_M_next 500 = .ok (.iconst (-1), 1) := by decide +kernel
theorem d_M_next_501 : decode b_M_next 501 = .ok (.ireturn, 1) := by decide +kernel
theorem d_M_next_502 : decode b_M_next 502 = .ok (.iload_n 1, 1) := by decide +kernel
theorem d_M_next_503 : decode b_M_next 503 = .ok (.invokestatic 87, 3) := by decide +kernel
theorem d_M_next_506 : decode b_M_next 506 = .ok (.ifCond .eq 8, 3) := by decide +kernel
theorem d_M_next_509 : decode b_M_next 509 = .ok (.bipush 18, 2) := by decide +kernel
theorem d_M_next_511 : decode b_M_next 511 = .ok (.goto 13, 3) := by decide +kernel
theorem d_M_next_514 : decode b_M_next 514 = .ok (.iload_n 2, 1) := by decide +kernel
theorem d_M_next_515 : decode b_M_next 515 = .ok (.ifCond .eq 8, 3) := by decide +kernel
theorem d_M_next_518 : decode b_M_next 518 = .ok (.bipush 9, 2) := by decide +kernel
theorem d_M_next_520 : decode b_M_next 520 = .ok (.goto 4, 3) := by decide +kernel
theorem d_M_next_523 : decode b_M_next 523 = .ok (.iconst (-1), 1) := by decide +kernel
theorem d_M_next_524 : decode b_M_next 524 = .ok (.ireturn, 1) := by decide +kernel
theorem d_M_isWhole_0 : decode b_M_isWhole 0 = .ok (.iload_n 0, 1) := by decide +kernel
theorem d_M_isWhole_1 : decode b_M_isWhole 1 = .ok (.iconst 2, 1) := by decide +kernel
theorem d_M_isWhole_2 : decode b_M_isWhole 2 = .ok (.if_icmp .eq 43, 3) := by decide +kernel
theorem d_M_isWhole_5 : decode b_M_isWhole 5 = .ok (.iload_n 0, 1) := by decide +kernel
theorem d_M_isWhole_6 : decode b_M_isWhole 6 = .ok (.iconst 3, 1) := by decide +kernel
theorem d_M_isWhole_7 : decode b_M_isWhole 7 = .ok (.if_icmp .eq 38, 3) := by decide +kernel
theorem d_M_isWhole_10 : decode b_M_isWhole 10 = .ok (.iload_n 0, 1) := by decide +kernel
theorem d_M_isWhole_11 : decode b_M_isWhole 11 = .ok (.iconst 5, 1) := by decide +kernel
theorem d_M_isWhole_12 : decode b_M_isWhole 12 = .ok (.if_icmp .eq 33, 3) := by decide +kernel
theorem d_M_isWhole_15 : decode b_M_isWhole 15 = .ok (.iload_n 0, 1) := by decide +kernel
theorem d_M_isWhole_16 : decode b_M_isWhole 16 = .ok (.bipush 8, 2) := by decide +kernel
theorem d_M_isWhole_18 : decode b_M_isWhole 18 = .ok (.if_icmp .eq 27, 3) := by decide +kernel
theorem d_M_isWhole_21 : decode b_M_isWhole 21 = .ok (.iload_n 0, 1) := by decide +kernel
theorem d_M_isWhole_22 : decode b_M_isWhole 22 = .ok (.bipush 9, 2) := by decide +kernel
theorem d_M_isWhole_24 : decode b_M_isWhole 24 = .ok (.if_icmp .eq 21, 3) := by decide +kernel
theorem d_M_isWhole_27 : decode b_M_isWhole 27 = .ok (.iload_n 0, 1) := by decide +kernel
theorem d_M_isWhole_28 : decode b_M_isWhole 28 = .ok (.bipush 13, 2) := by decide +kernel
theorem d_M_isWhole_30 : decode b_M_isWhole 30 = .ok (.if_icmp .eq 15, 3) := by decide +kernel
theorem d_M_isWhole_33 : decode b_M_isWhole 33 = .ok (.iload_n 0, 1) := by decide +kernel
theorem d_M_isWhole_34 : decode b_M_isWhole 34 = .ok (.bipush 15, 2) := by decide +kernel
theorem d_M_isWhole_36 : decode b_M_isWhole 36 = .ok (.if_icmp .eq 9, 3) := by decide +kernel
theorem d_M_isWhole_39 : decode b_M_isWhole 39 = .ok (.iload_n 0, 1) := by decide +kernel
theorem d_M_isWhole_40 : decode b_M_isWhole 40 = .ok (.bipush 18, 2) := by decide +kernel
theorem d_M_isWhole_42 : decode b_M_isWhole 42 = .ok (.if_icmp .ne 7, 3) := by decide +kernel
theorem d_M_isWhole_45 : decode b_M_isWhole 45 = .ok (.iconst 1, 1) := by decide +kernel
theorem d_M_isWhole_46 : decode b_M_isWhole 46 = .ok (.goto 4, 3) := by decide +kernel
theorem d_M_isWhole_49 : decode b_M_isWhole 49 = .ok (.iconst 0, 1) := by decide +kernel
theorem d_M_isWhole_50 : decode b_M_isWhole 50 = .ok (.ireturn, 1) := by decide +kernel
theorem d_M_note_0 : decode b_M_note 0 = .ok (.aload_n 0, 1) := by decide +kernel
theorem d_M_note_1 : decode b_M_note 1 = .ok (.aload_n 0, 1) := by decide +kernel
theorem d_M_note_2 : decode b_M_note 2 = .ok (.getfield 98, 3) := by decide +kernel
theorem d_M_note_5 : decode b_M_note 5 = .ok (.ifCond .ne 14, 3) := by decide +kernel
theorem d_M_note_8 : decode b_M_note 8 = .ok (.iload_n 1, 1) := by decide +kernel
theorem d_M_note_9 : decode b_M_note 9 = .ok (.iconst 1, 1) := by decide +kernel
theorem d_M_note_10 : decode b_M_note 10 = .ok (.if_icmp .ne 13, 3) := by decide +kernel
theorem d_M_note_13 : decode b_M_note 13 = .ok (.iload_n 2, 1) := by decide +kernel
theorem d_M_note_14 : decode b_M_note 14 = .ok (.bipush 45, 2) := by decide +kernel
theorem d_M_note_16 : decode b_M_note 16 = .ok (.if_icmp .ne 7, 3) := by decide +kernel
theorem d_M_note_19 : decode b_M_note 19 = .ok (.iconst 1, 1) := by decide +kernel
theorem d_M_note_20 : decode b_M_note 20 = .ok (.goto 4, 3) := by decide +kernel
theorem d_M_note_23 : decode b_M_note 23 = .ok (.iconst 0, 1) := by decide +kernel
theorem d_M_note_24 : decode b_M_note 24 = .ok (.putfield 98, 3) := by decide +kernel
theorem d_M_note_27 : decode b_M_note 27 = .ok (.aload_n 0, 1) := by decide +kernel
theorem d_M_note_28 : decode b_M_note 28 = .ok (.aload_n 0, 1) := by decide +kernel
theorem d_M_note_29 : decode b_M_note 29 = .ok (.getfield 102, 3) := by decide +kernel
theorem d_M_note_32 : decode b_M_note 32 = .ok (.ifCond .ne 9, 3) := by decide +kernel
theorem d_M_note_35 : decode b_M_note 35 = .ok (.iload_n 1, 1) := by decide +kernel
theorem d_M_note_36 : decode b_M_note 36 = .ok (.bipush 12, 2) := by decide +kernel
theorem d_M_note_38 : decode b_M_note 38 = .ok (.if_icmp .ne 7, 3) := by decide +kernel
theorem d_M_note_41 : decode b_M_note 41 = .ok (.iconst 1, 1) := by decide +kernel
theorem d_M_note_42 : decode b_M_note 42 = .ok (.goto 4, 3) := by decide +kernel
theorem d_M_note_45 : decode b_M_note 45 = .ok (.iconst 0, 1) := by decide +kernel
theorem d_M_note_46 : decode b_M_note 46 = .ok (.putfield 102, 3) := by decide +kernel
theorem d_M_note_49 : decode b_M_note 49 = .ok (.aload_n 0, 1) := by decide +kernel
theorem d_M_note_50 : decode b_M_note 50 = .ok (.aload_n 0, 1) := by decide +kernel
theorem d_M_note_51 : decode b_M_note 51 = .ok (.getfield 105, 3) := by decide +kernel
theorem d_M_note_54 : decode b_M_note 54 = .ok (.ifCond .eq 41, 3) := by decide +kernel
theorem d_M_note_57 : decode b_M_note 57 = .ok (.iload_n 1, 1) := by decide +kernel
theorem d_M_note_58 : decode b_M_note 58 = .ok (.iconst 4, 1) := by decide +kernel
theorem d_M_note_59 : decode b_M_note 59 = .ok (.if_icmp .eq 36, 3) := by decide +kernel
theorem d_M_note_62 : decode b_M_note 62 = .ok (.iload_n 1, 1) := by decide +kernel
theorem d_M_note_63 : decode b_M_note 63 = .ok (.iconst 5, 1) := by decide +kernel
theorem d_M_note_64 : decode b_M_note 64 = .ok (.if_icmp .eq 31, 3) := by decide +kernel
theorem d_M_note_67 : decode b_M_note 67 = .ok (.iload_n 1, 1) := by decide +kernel
theorem d_M_note_68 : decode b_M_note 68 = .ok (.bipush 6, 2) := by decide +kernel
theorem d_M_note_70 : decode b_M_note 70 = .ok (.if_icmp .eq 25, 3) := by decide +kernel
theorem d_M_note_73 : decode b_M_note 73 = .ok (.iload_n 1, 1) := by decide +kernel
theorem d_M_note_74 : decode b_M_note 74 = .ok (.bipush 14, 2) := by decide +kernel
theorem d_M_note_76 : decode b_M_note 76 = .ok (.if_icmp .eq 19, 3) := by decide +kernel
theorem d_M_note_79 : decode b_M_note 79 = .ok (.iload_n 1, 1) := by decide +kernel
theorem d_M_note_80 : decode b_M_note 80 = .ok (.bipush 15, 2) := by decide +kernel
theorem d_M_note_82 : decode b_M_note 82 = .ok (.if_icmp .eq 13, 3) := by decide +kernel
theorem d_M_note_85 : decode b_M_note 85 = .ok (.iload_n 1, 1) := by decide +kernel
theorem d_M_note_86 : decode b_M_note 86 = .ok (.bipush 16, 2) := by decide +kernel
theorem d_M_note_88 : decode b_M_note 88 = .ok (.if_icmp .eq 7, 3) := by decide +kernel
theorem d_M_note_91 : decode b_M_note 91 = .ok (.iconst 1, 1) := by decide +kernel
theorem d_M_note_92 : decode b_M_note 92 = .ok (.goto 4, 3) := by decide +kernel
theorem d_M_note_95 : decode b_M_note 95 = .ok (.iconst 0, 1) := by decide +kernel
theorem d_M_note_96 : decode b_M_note 96 = .ok (.putfield 105, 3) := by decide +kernel
theorem d_M_note_99 : decode b_M_note 99 = .ok (.aload_n 0, 1) := by decide +kernel
theorem d_M_note_100 : decode b_M_note 100 = .ok (.aload_n 0, 1) := by decide +kernel
theorem d_M_note_101 : decode b_M_note 101 = .ok (.getfield 108, 3) := by decide +kernel
theorem d_M_note_104 : decode b_M_note 104 = .ok (.ifCond .ne 21, 3) := by decide +kernel
theorem d_M_note_107 : decode b_M_note 107 = .ok (.iload_n 1, 1) := by decide +kernel
theorem d_M_note_108 : decode b_M_note 108 = .ok (.bipush 7, 2) := by decide +kernel
theorem d_M_note_110 : decode b_M_note 110 = .ok (.if_icmp .eq 9, 3) := by decide +kernel
theorem d_M_note_113 : decode b_M_note 113 = .ok (.iload_n 1, 1) := by decide +kernel
theorem d_M_note_114 : decode b_M_note 114 = .ok (.bipush 17, 2) := by decide +kernel
theorem d_M_note_116 : decode b_M_note 116 = .ok (.if_icmp .ne 13, 3) := by decide +kernel
theorem d_M_note_119 : decode b_M_note 119 = .ok (.iload_n 2, 1) := by decide +kernel
theorem d_M_note_120 : decode b_M_note 120 = .ok (.bipush 45, 2) := by decide +kernel
theorem d_M_note_122 : decode b_M_note 122 = .ok (.if_icmp .ne 7, 3) := by decide +kernel
theorem d_M_note_125 : decode b_M_note 125 = .ok (.iconst 1, 1) := by decide +kernel
theorem d_M_note_126 : decode b_M_note 126 = .ok (.goto 4, 3) := by decide +kernel
theorem d_M_note_129 : decode b_M_note 129 = .ok (.iconst 0, 1) := by decide +kernel
theorem d_M_note_130 : decode b_M_note 130 = .ok (.putfield 108, 3) := by decide +kernel
theorem d_M_note_133 : decode b_M_note 133 = .ok (.iload_n 1, 1) := by decide +kernel
theorem d_M_note_134 : decode b_M_note 134 = .ok (.iconst 2, 1) := by decide +kernel
theorem d_M_note_135 : decode b_M_note 135 = .ok (.if_icmp .eq 39, 3) := by decide +kernel
theorem d_M_note_138 : decode b_M_note 138 = .ok (.iload_n 1, 1) := by decide +kernel
theorem d_M_note_139 : decode b_M_note 139 = .ok (.iconst 3, 1) := by decide +kernel
theorem d_M_note_140 : decode b_M_note 140 = .ok (.if_icmp .eq 34, 3) := by decide +kernel
theorem d_M_note_143 : decode b_M_note 143 = .ok (.iload_n 1, 1) := by decide +kernel
theorem d_M_note_144 : decode b_M_note 144 = .ok (.iconst 5, 1) := by decide +kernel
theorem d_M_note_145 : decode b_M_note 145 = .ok (.if_icmp .ne 10, 3) := by decide +kernel
theorem d_M_note_148 : decode b_M_note 148 = .ok (.iload_n 2, 1) := by decide +kernel
theorem d_M_note_149 : decode b_M_note 149 = .ok (.invokestatic 87, 3) := by decide +kernel
theorem d_M_note_152 : decode b_M_note 152 = .ok (.ifCond .ne 22, 3) := by decide +kernel
theorem d_M_note_155 : decode b_M_note 155 = .ok (.iload_n 1, 1) := by decide +kernel
theorem d_M_note_156 : decode b_M_note 156 = .ok (.bipush 13, 2) := by decide +kernel
theorem d_M_note_158 : decode b_M_note 158 = .ok (.if_icmp .eq 16, 3) := by decide +kernel
theorem d_M_note_161 : decode b_M_note 161 = .ok (.iload_n 1, 1) := by decide +kernel
theorem d_M_note_162 : decode b_M_note 162 = .ok (.bipush 15, 2) := by decide +kernel
theorem d_M_note_164 : decode b_M_note 164 = .ok (.if_icmp .ne 14, 3) := by decide +kernel
theorem d_M_note_167 : decode b_M_note 167 = .ok (.iload_n 2, 1) := by decide +kernel
theorem d_M_note_168 : decode b_M_note 168 = .ok (.invokestatic 94, 3) := by decide +kernel
theorem d_M_note_171 : decode b_M_note 171 = .ok (.ifCond .lt 7, 3) := by decide +kernel
theorem d_M_note_174 : decode b_M_note 174 = .ok (.iconst 1, 1) := by decide +kernel
theorem d_M_note_175 : decode b_M_note 175 = .ok (.goto 4, 3) := by decide +kernel
theorem d_M_note_178 : decode b_M_note 178 = .ok (.iconst 0, 1) := by decide +kernel
theorem d_M_note_179 : decode b_M_note 179 = .ok (.istore_n 3, 1) := by decide +kernel
theorem d_M_note_180 : decode b_M_note 180 = .ok (.iload_n 1, 1) := by decide +kernel
theorem d_M_note_181 : decode b_M_note 181 = .ok (.bipush 12, 2) := by decide +kernel
theorem d_M_note_183 : decode b_M_note 183 = .ok (.if_icmp .ne 8, 3) := by decide +kernel
theorem d_M_note_186 : decode b_M_note 186 = .ok (.aload_n 0, 1) := by decide +kernel
theorem d_M_note_187 : decode b_M_note 187 = .ok (.iconst 0, 1) := by decide +kernel
theorem d_M_note_188 : decode b_M_note 188 = .ok (.putfield 111, 3) := by decide +kernel
theorem d_M_note_191 : decode b_M_note 191 = .ok (.iload_n 3, 1) := by decide +kernel
theorem d_M_note_192 : decode b_M_note 192 = .ok (.ifCond .eq 52, 3) := by decide +kernel
theorem d_M_note_195 : decode b_M_note 195 = .ok (.aload_n 0, 1) := by decide +kernel
theorem d_M_note_196 : decode b_M_note 196 = .ok (.getfield 24, 3) := by decide +kernel
theorem d_M_note_199 : decode b_M_note 199 = .ok (.aload_n 0, 1) := by decide +kernel
theorem d_M_note_200 : decode b_M_note 200 = .ok (.getfield 111, 3) := by decide +kernel
theorem d_M_note_203 : decode b_M_note 203 = .ok (.iload_n 2, 1) := by decide +kernel
theorem d_M_note_204 : decode b_M_note 204 = .ok (.invokestatic 94, 3) := by decide +kernel
theorem d_M_note_207 : decode b_M_note 207 = .ok (.i2b, 1) := by decide +kernel
theorem d_M_note_208 : decode b_M_note 208 = .ok (.bastore, 1) := by decide +kernel
theorem d_M_note_209 : decode b_M_note 209 = .ok (.aload_n 0, 1) := by decide +kernel
theorem d_M_note_210 : decode b_M_note 210 = .ok (.dup, 1) := by decide +kernel
theorem d_M_note_211 : decode b_M_note 211 = .ok (.getfield 111, 3) := by decide +kernel
theorem d_M_note_214 : decode b_M_note 214 = .ok (.iconst 1, 1) := by decide +kernel
theorem d_M_note_215 : decode b_M_note 215 = .ok (.iadd, 1) := by decide +kernel
theorem d_M_note_216 : decode b_M_note 216 = .ok (.putfield 111, 3) := by decide +kernel
theorem d_M_note_219 : decode b_M_note 219 = .ok (.aload_n 0, 1) := by decide +kernel
theorem d_M_note_220 : decode b_M_note 220 = .ok (.dup, 1) := by decide +kernel
theorem d_M_note_221 : decode b_M_note 221 = .ok (.getfield 114, 3) := by decide +kernel
theorem d_M_note_224 : decode b_M_note 224 = .ok (.iload_n 1, 1) := by decide +kernel
theorem d_M_note_225 : decode b_M_note 225 = .ok (.iconst 5, 1) := by decide +kernel
theorem d_M_note_226 : decode b_M_note 226 = .ok (.if_icmp .eq 9, 3) := by decide +kernel
theorem d_M_note_229 : decode b_M_note 229 = .ok (.iload_n 1, 1) := by decide +kernel
theorem d_M_note_230 : decode b_M_note 230 = .ok (.bipush 15, 2) := by decide +kernel
theorem d_M_note_232 : decode b_M_note 232 = .ok (.if_icmp .ne 7, 3) := by decide +kernel
theorem d_M_note_235 : decode b_M_note 235 = .ok (.iconst 1, 1) := by decide +kernel
theorem d_M_note_236 : decode b_M_note 236 = .ok (.goto 4, 3) := by decide +kernel
theorem d_M_note_239 : decode b_M_note 239 = .ok (.iconst 0, 1) := by decide +kernel
theorem d_M_note_240 : decode b_M_note 240 = .ok (.iadd, 1) := by decide +kernel
theorem d_M_note_241 : decode b_M_note 241 = .ok (.putfield 114, 3) := by decide +kernel
theorem d_M_note_244 : decode b_M_note 244 = .ok (.iload_n 1, 1) := by decide +kernel
theorem d_M_note_245 : decode b_M_note 245 = .ok (.bipush 8, 2) := by decide +kernel
theorem d_M_note_247 : decode b_M_note 247 = .ok (.if_icmp .eq 9, 3) := by decide +kernel
theorem d_M_note_250 : decode b_M_note 250 = .ok (.iload_n 1, 1) := by decide +kernel
theorem d_M_note_251 : decode b_M_note 251 = .ok (.bipush 18, 2) := by decide +kernel
theorem d_M_note_253 : decode b_M_note 253 = .ok (.if_icmp .ne 35, 3) := by decide +kernel
theorem d_M_note_256 : decode b_M_note 256 = .ok (.aload_n 0, 1) := by decide +kernel
theorem d_M_note_257 : decode b_M_note 257 = .ok (.aload_n 0, 1) := by decide +kernel
theorem d_M_note_258 : decode b_M_note 258 = .ok (.getfield 117, 3) := by decide +kernel
theorem d_M_note_261 : decode b_M_note 261 = .ok (.ldc 120, 2) := by decide +kernel
theorem d_M_note_263 : decode b_M_note 263 = .ok (.if_icmp .le 10, 3) := by decide +kernel
theorem d_M_note_266 : decode b_M_note 266 = .ok (.aload_n 0, 1) := by decide +kernel
theorem d_M_note_267 : decode b_M_note 267 = .ok (.getfield 117, 3) := by decide +kernel
theorem d_M_note_270 : decode b_M_note 270 = .ok (.goto 15, 3) := by decide +kernel
theorem d_M_note_273 : decode b_M_note 273 = .ok (.bipush 10, 2) := by decide +kernel
theorem d_M_note_275 : decode b_M_note 275 = .ok (.aload_n 0, 1) := by decide +kernel
theorem d_M_note_276 : decode b_M_note 276 = .ok (.getfield 117, 3) := by decide +kernel
theorem d_M_note_279 : decode b_M_note 279 = .ok (.imul, 1) := by decide +kernel
theorem d_M_note_280 : decode b_M_note 280 = .ok (.iload_n 2, 1) := by decide +kernel
theorem d_M_note_281 : decode b_M_note 281 = .ok (.iadd, 1) := by decide +kernel
theorem d_M_note_282 : decode b_M_note 282 = .ok (.bipush 48, 2) := by decide +kernel
theorem d_M_note_284 : decode b_M_note 284 = .ok (.isub, 1) := by decide +kernel
theorem d_M_note_285 : decode b_M_note 285 = .ok (.putfield 117, 3) := by decide +kernel
theorem d_M_note_288 : decode b_M_note 288 = .ok (.return_, 1) := by decide +kernel
