theorem dL_cell_27 : decode cL_cell 27 = .ok (.bipush 17, 2) := by decide +kernel
theorem dL_cell_29 : decode cL_cell 29 = .ok (.irem, 1) := by decide +kernel
theorem dL_cell_30 : decode cL_cell 30 = .ok (.iushr, 1) := by decide +kernel
theorem dL_cell_31 : decode cL_cell 31 = .ok (.ireturn, 1) := by decide +kernel
theorem dL_some_0 : decode cL_some 0 = .ok (.aload_n 0, 1) := by decide +kernel
theorem dL_some_1 : decode cL_some 1 = .ok (.bipush 25, 2) := by decide +kernel
theorem dL_some_3 : decode cL_some 3 = .ok (.invokevirtual 23, 3) := by decide +kernel
theorem dL_some_6 : decode cL_some 6 = .ok (.ifCond .ne 7, 3) := by decide +kernel
theorem dL_some_9 : decode cL_some 9 = .ok (.iload_n 1, 1) := by decide +kernel
theorem dL_some_10 : decode cL_some 10 = .ok (.goto 12, 3) := by decide +kernel
theorem dL_some_13 : decode cL_some 13 = .ok (.aload_n 0, 1) := by decide +kernel
theorem dL_some_14 : decode cL_some 14 = .ok (.iconst 1, 1) := by decide +kernel
theorem dL_some_15 : decode cL_some 15 = .ok (.iload_n 1, 1) := by decide +kernel
theorem dL_some_16 : decode cL_some 16 = .ok (.invokestatic 28, 3) := by decide +kernel
theorem dL_some_19 : decode cL_some 19 = .ok (.invokevirtual 23, 3) := by decide +kernel
theorem dL_some_22 : decode cL_some 22 = .ok (.ireturn, 1) := by decide +kernel
theorem dL_acts_0 : decode cL_acts 0 = .ok (.aload_n 2, 1) := by decide +kernel
theorem dL_acts_1 : decode cL_acts 1 = .ok (.aload_n 0, 1) := by decide +kernel
theorem dL_acts_2 : decode cL_acts 2 = .ok (.iconst 0, 1) := by decide +kernel
theorem dL_acts_3 : decode cL_acts 3 = .ok (.invokevirtual 34, 3) := by decide +kernel
theorem dL_acts_6 : decode cL_acts 6 = .ok (.invokestatic 37, 3) := by decide +kernel
theorem dL_acts_9 : decode cL_acts 9 = .ok (.istore_n 3, 1) := by decide +kernel
theorem dL_acts_10 : decode cL_acts 10 = .ok (.iload_n 1, 1) := by decide +kernel
theorem dL_acts_11 : decode cL_acts 11 = .ok (.bipush 28, 2) := by decide +kernel
theorem dL_acts_13 : decode cL_acts 13 = .ok (.irem, 1) := by decide +kernel
theorem dL_acts_14 : decode cL_acts 14 = .ok (.tableswitch 311 0 25 #[118, 118, 141, 165, 165, 197, 197, 197, 197, 197, 197, 197, 197, 197, 268, 274, 274, 274, 274, 279, 279, 279, 279, 284, 284, 284], 118) := by decide +kernel
theorem dL_acts_132 : decode cL_acts 132 = .ok (.aload_n 0, 1) := by decide +kernel
theorem dL_acts_133 : decode cL_acts 133 = .ok (.aload_n 2, 1) := by decide +kernel
theorem dL_acts_134 : decode cL_acts 134 = .ok (.bipush 20, 2) := by decide +kernel
theorem dL_acts_136 : decode cL_acts 136 = .ok (.invokevirtual 23, 3) := by decide +kernel
theorem dL_acts_139 : decode cL_acts 139 = .ok (.ifCond .ne 7, 3) := by decide +kernel
theorem dL_acts_142 : decode cL_acts 142 = .ok (.iconst 4, 1) := by decide +kernel
theorem dL_acts_143 : decode cL_acts 143 = .ok (.goto 8, 3) := by decide +kernel
theorem dL_acts_146 : decode cL_acts 146 = .ok (.aload_n 2, 1) := by decide +kernel
theorem dL_acts_147 : decode cL_acts 147 = .ok (.iconst 4, 1) := by decide +kernel
theorem dL_acts_148 : decode cL_acts 148 = .ok (.invokevirtual 23, 3) := by decide +kernel
theorem dL_acts_151 : decode cL_acts 151 = .ok (.invokevirtual 43, 3) := by decide +kernel
theorem dL_acts_154 : decode cL_acts 154 = .ok (.ireturn, 1) := by decide +kernel
theorem dL_acts_155 : decode cL_acts 155 = .ok (.aload_n 0, 1) := by decide +kernel
theorem dL_acts_156 : decode cL_acts 156 = .ok (.iload_n 3, 1) := by decide +kernel
theorem dL_acts_157 : decode cL_acts 157 = .ok (.aload_n 2, 1) := by decide +kernel
theorem dL_acts_158 : decode cL_acts 158 = .ok (.bipush 20, 2) := by decide +kernel
theorem dL_acts_160 : decode cL_acts 160 = .ok (.invokevirtual 23, 3) := by decide +kernel
theorem dL_acts_163 : decode cL_acts 163 = .ok (.ifCond .ne 7, 3) := by decide +kernel
theorem dL_acts_166 : decode cL_acts 166 = .ok (.iconst 4, 1) := by decide +kernel
theorem dL_acts_167 : decode cL_acts 167 = .ok (.goto 8, 3) := by decide +kernel
theorem dL_acts_170 : decode cL_acts 170 = .ok (.aload_n 2, 1) := by decide +kernel
theorem dL_acts_171 : decode cL_acts 171 = .ok (.iconst 4, 1) := by decide +kernel
theorem dL_acts_172 : decode cL_acts 172 = .ok (.invokevirtual 23, 3) := by decide +kernel
theorem dL_acts_175 : decode cL_acts 175 = .ok (.invokevirtual 46, 3) := by decide +kernel
theorem dL_acts_178 : decode cL_acts 178 = .ok (.ireturn, 1) := by decide +kernel
theorem dL_acts_179 : decode cL_acts 179 = .ok (.aload_n 0, 1) := by decide +kernel
theorem dL_acts_180 : decode cL_acts 180 = .ok (.iload_n 3, 1) := by decide +kernel
theorem dL_acts_181 : decode cL_acts 181 = .ok (.aload_n 2, 1) := by decide +kernel
theorem dL_acts_182 : decode cL_acts 182 = .ok (.bipush 20, 2) := by decide +kernel
theorem dL_acts_184 : decode cL_acts 184 = .ok (.invokevirtual 23, 3) := by decide +kernel
theorem dL_acts_187 : decode cL_acts 187 = .ok (.ifCond .ne 7, 3) := by decide +kernel
theorem dL_acts_190 : decode cL_acts 190 = .ok (.iconst 2, 1) := by decide +kernel
theorem dL_acts_191 : decode cL_acts 191 = .ok (.goto 16, 3) := by decide +kernel
theorem dL_acts_194 : decode cL_acts 194 = .ok (.aload_n 2, 1) := by decide +kernel
theorem dL_acts_195 : decode cL_acts 195 = .ok (.iconst 3, 1) := by decide +kernel
theorem dL_acts_196 : decode cL_acts 196 = .ok (.invokevirtual 23, 3) := by decide +kernel
theorem dL_acts_199 : decode cL_acts 199 = .ok (.ifCond .ne 7, 3) := by decide +kernel
theorem dL_acts_202 : decode cL_acts 202 = .ok (.iconst 0, 1) := by decide +kernel
theorem dL_acts_203 : decode cL_acts 203 = .ok (.goto 4, 3) := by decide +kernel
theorem dL_acts_206 : decode cL_acts 206 = .ok (.iconst 1, 1) := by decide +kernel
theorem dL_acts_207 : decode cL_acts 207 = .ok (.invokevirtual 49, 3) := by decide +kernel
theorem dL_acts_210 : decode cL_acts 210 = .ok (.ireturn, 1) := by decide +kernel
theorem dL_acts_211 : decode cL_acts 211 = .ok (.aload_n 0, 1) := by decide +kernel
theorem dL_acts_212 : decode cL_acts 212 = .ok (.iload_n 3, 1) := by decide +kernel
theorem dL_acts_213 : decode cL_acts 213 = .ok (.aload_n 2, 1) := by decide +kernel
theorem dL_acts_214 : decode cL_acts 214 = .ok (.bipush 20, 2) := by decide +kernel
theorem dL_acts_216 : decode cL_acts 216 = .ok (.invokevirtual 23, 3) := by decide +kernel
theorem dL_acts_219 : decode cL_acts 219 = .ok (.ifCond .ne 8, 3) := by decide +kernel
theorem dL_acts_222 : decode cL_acts 222 = .ok (.bipush 24, 2) := by decide +kernel
theorem dL_acts_224 : decode cL_acts 224 = .ok (.goto 32, 3) := by decide +kernel
theorem dL_acts_227 : decode cL_acts 227 = .ok (.bipush 23, 2) := by decide +kernel
theorem dL_acts_229 : decode cL_acts 229 = .ok (.aload_n 0, 1) := by decide +kernel
theorem dL_acts_230 : decode cL_acts 230 = .ok (.iconst 2, 1) := by decide +kernel
theorem dL_acts_231 : decode cL_acts 231 = .ok (.invokevirtual 34, 3) := by decide +kernel
theorem dL_acts_234 : decode cL_acts 234 = .ok (.aload_n 2, 1) := by decide +kernel
theorem dL_acts_235 : decode cL_acts 235 = .ok (.aload_n 2, 1) := by decide +kernel
theorem dL_acts_236 : decode cL_acts 236 = .ok (.iconst 3, 1) := by decide +kernel
theorem dL_acts_237 : decode cL_acts 237 = .ok (.invokevirtual 23, 3) := by decide +kernel
theorem dL_acts_240 : decode cL_acts 240 = .ok (.ifCond .ne 8, 3) := by decide +kernel
theorem dL_acts_243 : decode cL_acts 243 = .ok (.bipush 9, 2) := by decide +kernel
theorem dL_acts_245 : decode cL_acts 245 = .ok (.goto 4, 3) := by decide +kernel
theorem dL_acts_248 : decode cL_acts 248 = .ok (.iconst 3, 1) := by decide +kernel
theorem dL_acts_249 : decode cL_acts 249 = .ok (.invokevirtual 23, 3) := by decide +kernel
theorem dL_acts_252 : decode cL_acts 252 = .ok (.iadd, 1) := by decide +kernel
theorem dL_acts_253 : decode cL_acts 253 = .ok (.invokestatic 52, 3) := by decide +kernel
theorem dL_acts_256 : decode cL_acts 256 = .ok (.aload_n 2, 1) := by decide +kernel
theorem dL_acts_257 : decode cL_acts 257 = .ok (.bipush 20, 2) := by decide +kernel
theorem dL_acts_259 : decode cL_acts 259 = .ok (.invokevirtual 23, 3) := by decide +kernel
theorem dL_acts_262 : decode cL_acts 262 = .ok (.ifCond .ne 8, 3) := by decide +kernel
theorem dL_acts_265 : decode cL_acts 265 = .ok (.bipush 10, 2) := by decide +kernel
theorem dL_acts_267 : decode cL_acts 267 = .ok (.goto 11, 3) := by decide +kernel
theorem dL_acts_270 : decode cL_acts 270 = .ok (.iconst 1, 1) := by decide +kernel
theorem dL_acts_271 : decode cL_acts 271 = .ok (.aload_n 2, 1) := by decide +kernel
theorem dL_acts_272 : decode cL_acts 272 = .ok (.bipush 9, 2) := by decide +kernel
theorem dL_acts_274 : decode cL_acts 274 = .ok (.invokevirtual 23, 3) := by decide +kernel
theorem dL_acts_277 : decode cL_acts 277 = .ok (.iadd, 1) := by decide +kernel
theorem dL_acts_278 : decode cL_acts 278 = .ok (.invokevirtual 55, 3) := by decide +kernel
theorem dL_acts_281 : decode cL_acts 281 = .ok (.ireturn, 1) := by decide +kernel
theorem dL_acts_282 : decode cL_acts 282 = .ok (.aload_n 0, 1) := by decide +kernel
theorem dL_acts_283 : decode cL_acts 283 = .ok (.iload_n 3, 1) := by decide +kernel
theorem dL_acts_284 : decode cL_acts 284 = .ok (.invokevirtual 59, 3) := by decide +kernel
theorem dL_acts_287 : decode cL_acts 287 = .ok (.ireturn, 1) := by decide +kernel
theorem dL_acts_288 : decode cL_acts 288 = .ok (.aload_n 0, 1) := by decide +kernel
theorem dL_acts_289 : decode cL_acts 289 = .ok (.invokevirtual 62, 3) := by decide +kernel
theorem dL_acts_292 : decode cL_acts 292 = .ok (.ireturn, 1) := by decide +kernel
theorem dL_acts_293 : decode cL_acts 293 = .ok (.aload_n 0, 1) := by decide +kernel
theorem dL_acts_294 : decode cL_acts 294 = .ok (.invokevirtual 65, 3) := by decide +kernel
theorem dL_acts_297 : decode cL_acts 297 = .ok (.ireturn, 1) := by decide +kernel
theorem dL_acts_298 : decode cL_acts 298 = .ok (.aload_n 0, 1) := by decide +kernel
theorem dL_acts_299 : decode cL_acts 299 = .ok (.iload_n 3, 1) := by decide +kernel
theorem dL_acts_300 : decode cL_acts 300 = .ok (.aload_n 2, 1) := by decide +kernel
theorem dL_acts_301 : decode cL_acts 301 = .ok (.bipush 20, 2) := by decide +kernel
theorem dL_acts_303 : decode cL_acts 303 = .ok (.invokevirtual 23, 3) := by decide +kernel
theorem dL_acts_306 : decode cL_acts 306 = .ok (.ifCond .ne 8, 3) := by decide +kernel
theorem dL_acts_309 : decode cL_acts 309 = .ok (.bipush 10, 2) := by decide +kernel
theorem dL_acts_311 : decode cL_acts 311 = .ok (.goto 10, 3) := by decide +kernel
theorem dL_acts_314 : decode cL_acts 314 = .ok (.iconst 1, 1) := by decide +kernel
theorem dL_acts_315 : decode cL_acts 315 = .ok (.aload_n 2, 1) := by decide +kernel
theorem dL_acts_316 : decode cL_acts 316 = .ok (.iconst 3, 1) := by decide +kernel
theorem dL_acts_317 : decode cL_acts 317 = .ok (.invokevirtual 23, 3) := by decide +kernel
theorem dL_acts_320 : decode cL_acts 320 = .ok (.iadd, 1) := by decide +kernel
theorem dL_acts_321 : decode cL_acts 321 = .ok (.invokevirtual 68, 3) := by decide +kernel
theorem dL_acts_324 : decode cL_acts 324 = .ok (.ireturn, 1) := by decide +kernel
theorem dL_acts_325 : decode cL_acts 325 = .ok (.aload_n 0, 1) := by decide +kernel
theorem dL_acts_326 : decode cL_acts 326 = .ok (.invokevirtual 71, 3) := by decide +kernel
theorem dL_acts_329 : decode cL_acts 329 = .ok (.ireturn, 1) := by decide +kernel
theorem dL_line_0 : decode cL_line 0 = .ok (.new 74, 3) := by decide +kernel
theorem dL_line_3 : decode cL_line 3 = .ok (.dup, 1) := by decide +kernel
theorem dL_line_4 : decode cL_line 4 = .ok (.invokespecial 76, 3) := by decide +kernel
theorem dL_line_7 : decode cL_line 7 = .ok (.astore_n 2, 1) := by decide +kernel
theorem dL_line_8 : decode cL_line 8 = .ok (.iconst 0, 1) := by decide +kernel
theorem dL_line_9 : decode cL_line 9 = .ok (.istore_n 3, 1) := by decide +kernel
theorem dL_line_10 : decode cL_line 10 = .ok (.iload_n 3, 1) := by decide +kernel
theorem dL_line_11 : decode cL_line 11 = .ok (.iload_n 1, 1) := by decide +kernel
theorem dL_line_12 : decode cL_line 12 = .ok (.if_icmp .ge 20, 3) := by decide +kernel
theorem dL_line_15 : decode cL_line 15 = .ok (.aload_n 2, 1) := by decide +kernel
theorem dL_line_16 : decode cL_line 16 = .ok (.aload_n 0, 1) := by decide +kernel
theorem dL_line_17 : decode cL_line 17 = .ok (.iload_n 3, 1) := by decide +kernel
theorem dL_line_18 : decode cL_line 18 = .ok (.invokevirtual 77, 3) := by decide +kernel
theorem dL_line_21 : decode cL_line 21 = .ok (.i2c, 1) := by decide +kernel
theorem dL_line_22 : decode cL_line 22 = .ok (.invokevirtual 80, 3) := by decide +kernel
theorem dL_line_25 : decode cL_line 25 = .ok (.pop, 1) := by decide +kernel
theorem dL_line_26 : decode cL_line 26 = .ok (.iinc 3 1, 3) := by decide +kernel
theorem dL_line_29 : decode cL_line 29 = .ok (.goto (-19), 3) := by decide +kernel
theorem dL_line_32 : decode cL_line 32 = .ok (.aload_n 2, 1) := by decide +kernel
theorem dL_line_33 : decode cL_line 33 = .ok (.invokevirtual 83, 3) := by decide +kernel
theorem dL_line_36 : decode cL_line 36 = .ok (.areturn, 1) := by decide +kernel
theorem dL_told_0 : decode cL_told 0 = .ok (.new 74, 3) := by decide +kernel
theorem dL_told_3 : decode cL_told 3 = .ok (.dup, 1) := by decide +kernel
theorem dL_told_4 : decode cL_told 4 = .ok (.invokespecial 76, 3) := by decide +kernel
theorem dL_told_7 : decode cL_told 7 = .ok (.astore_n 1, 1) := by decide +kernel
theorem dL_told_8 : decode cL_told 8 = .ok (.iconst 0, 1) := by decide +kernel
theorem dL_told_9 : decode cL_told 9 = .ok (.istore_n 2, 1) := by decide +kernel
theorem dL_told_10 : decode cL_told 10 = .ok (.iload_n 2, 1) := by decide +kernel
theorem dL_told_11 : decode cL_told 11 = .ok (.bipush 11, 2) := by decide +kernel
theorem dL_told_13 : decode cL_told 13 = .ok (.if_icmp .ge 24, 3) := by decide +kernel
theorem dL_told_16 : decode cL_told 16 = .ok (.aload_n 1, 1) := by decide +kernel
theorem dL_told_17 : decode cL_told 17 = .ok (.aload_n 0, 1) := by decide +kernel
theorem dL_told_18 : decode cL_told 18 = .ok (.iload_n 2, 1) := by decide +kernel
theorem dL_told_19 : decode cL_told 19 = .ok (.invokevirtual 34, 3) := by decide +kernel
theorem dL_told_22 : decode cL_told 22 = .ok (.invokevirtual 87, 3) := by decide +kernel
theorem dL_told_25 : decode cL_told 25 = .ok (.bipush 44, 2) := by decide +kernel
theorem dL_told_27 : decode cL_told 27 = .ok (.invokevirtual 80, 3) := by decide +kernel
theorem dL_told_30 : decode cL_told 30 = .ok (.pop, 1) := by decide +kernel
theorem dL_told_31 : decode cL_told 31 = .ok (.iinc 2 1, 3) := by decide +kernel
theorem dL_told_34 : decode cL_told 34 = .ok (.goto (-24), 3) := by decide +kernel
theorem dL_told_37 : decode cL_told 37 = .ok (.iconst 0, 1) := by decide +kernel
theorem dL_told_38 : decode cL_told 38 = .ok (.istore_n 2, 1) := by decide +kernel
theorem dL_told_39 : decode cL_told 39 = .ok (.iload_n 2, 1) := by decide +kernel
theorem dL_told_40 : decode cL_told 40 = .ok (.aload_n 0, 1) := by decide +kernel
theorem dL_told_41 : decode cL_told 41 = .ok (.iconst 0, 1) := by decide +kernel
theorem dL_told_42 : decode cL_told 42 = .ok (.invokevirtual 34, 3) := by decide +kernel
theorem dL_told_45 : decode cL_told 45 = .ok (.if_icmp .ge 70, 3) := by decide +kernel
theorem dL_told_48 : decode cL_told 48 = .ok (.aload_n 1, 1) := by decide +kernel
theorem dL_told_49 : decode cL_told 49 = .ok (.aload_n 0, 1) := by decide +kernel
theorem dL_told_50 : decode cL_told 50 = .ok (.aload_n 0, 1) := by decide +kernel
theorem dL_told_51 : decode cL_told 51 = .ok (.iload_n 2, 1) := by decide +kernel
theorem dL_told_52 : decode cL_told 52 = .ok (.invokevirtual 90, 3) := by decide +kernel
theorem dL_told_55 : decode cL_told 55 = .ok (.invokestatic 93, 3) := by decide +kernel
theorem dL_told_58 : decode cL_told 58 = .ok (.invokevirtual 97, 3) := by decide +kernel
theorem dL_told_61 : decode cL_told 61 = .ok (.bipush 47, 2) := by decide +kernel
theorem dL_told_63 : decode cL_told 63 = .ok (.invokevirtual 80, 3) := by decide +kernel
theorem dL_told_66 : decode cL_told 66 = .ok (.aload_n 0, 1) := by decide +kernel
theorem dL_told_67 : decode cL_told 67 = .ok (.iload_n 2, 1) := by decide +kernel
theorem dL_told_68 : decode cL_told 68 = .ok (.iconst 3, 1) := by decide +kernel
theorem dL_told_69 : decode cL_told 69 = .ok (.invokevirtual 100, 3) := by decide +kernel
theorem dL_told_72 : decode cL_told 72 = .ok (.invokevirtual 87, 3) := by decide +kernel
theorem dL_told_75 : decode cL_told 75 = .ok (.bipush 44, 2) := by decide +kernel
theorem dL_told_77 : decode cL_told 77 = .ok (.invokevirtual 80, 3) := by decide +kernel
theorem dL_told_80 : decode cL_told 80 = .ok (.aload_n 0, 1) := by decide +kernel
theorem dL_told_81 : decode cL_told 81 = .ok (.iload_n 2, 1) := by decide +kernel
theorem dL_told_82 : decode cL_told 82 = .ok (.iconst 4, 1) := by decide +kernel
theorem dL_told_83 : decode cL_told 83 = .ok (.invokevirtual 100, 3) := by decide +kernel
theorem dL_told_86 : decode cL_told 86 = .ok (.invokevirtual 87, 3) := by decide +kernel
theorem dL_told_89 : decode cL_told 89 = .ok (.bipush 44, 2) := by decide +kernel
theorem dL_told_91 : decode cL_told 91 = .ok (.invokevirtual 80, 3) := by decide +kernel
theorem dL_told_94 : decode cL_told 94 = .ok (.aload_n 0, 1) := by decide +kernel
theorem dL_told_95 : decode cL_told 95 = .ok (.iload_n 2, 1) := by decide +kernel
theorem dL_told_96 : decode cL_told 96 = .ok (.iconst 5, 1) := by decide +kernel
theorem dL_told_97 : decode cL_told 97 = .ok (.invokevirtual 100, 3) := by decide +kernel
theorem dL_told_100 : decode cL_told 100 = .ok (.invokevirtual 87, 3) := by decide +kernel
theorem dL_told_103 : decode cL_told 103 = .ok (.bipush 59, 2) := by decide +kernel
theorem dL_told_105 : decode cL_told 105 = .ok (.invokevirtual 80, 3) := by decide +kernel
theorem dL_told_108 : decode cL_told 108 = .ok (.pop, 1) := by decide +kernel
theorem dL_told_109 : decode cL_told 109 = .ok (.iinc 2 1, 3) := by decide +kernel
theorem dL_told_112 : decode cL_told 112 = .ok (.goto (-73), 3) := by decide +kernel
theorem dL_told_115 : decode cL_told 115 = .ok (.iconst 0, 1) := by decide +kernel
theorem dL_told_116 : decode cL_told 116 = .ok (.istore_n 2, 1) := by decide +kernel
theorem dL_told_117 : decode cL_told 117 = .ok (.iload_n 2, 1) := by decide +kernel
theorem dL_told_118 : decode cL_told 118 = .ok (.bipush 24, 2) := by decide +kernel
theorem dL_told_120 : decode cL_told 120 = .ok (.if_icmp .ge 24, 3) := by decide +kernel
theorem dL_told_123 : decode cL_told 123 = .ok (.aload_n 1, 1) := by decide +kernel
theorem dL_told_124 : decode cL_told 124 = .ok (.aload_n 0, 1) := by decide +kernel
theorem dL_told_125 : decode cL_told 125 = .ok (.iload_n 2, 1) := by decide +kernel
theorem dL_told_126 : decode cL_told 126 = .ok (.invokevirtual 103, 3) := by decide +kernel
theorem dL_told_129 : decode cL_told 129 = .ok (.invokevirtual 87, 3) := by decide +kernel
theorem dL_told_132 : decode cL_told 132 = .ok (.bipush 44, 2) := by decide +kernel
theorem dL_told_134 : decode cL_told 134 = .ok (.invokevirtual 80, 3) := by decide +kernel
theorem dL_told_137 : decode cL_told 137 = .ok (.pop, 1) := by decide +kernel
theorem dL_told_138 : decode cL_told 138 = .ok (.iinc 2 1, 3) := by decide +kernel
theorem dL_told_141 : decode cL_told 141 = .ok (.goto (-24), 3) := by decide +kernel
theorem dL_told_144 : decode cL_told 144 = .ok (.iconst 0, 1) := by decide +kernel
theorem dL_told_145 : decode cL_told 145 = .ok (.istore_n 2, 1) := by decide +kernel
theorem dL_told_146 : decode cL_told 146 = .ok (.iload_n 2, 1) := by decide +kernel
theorem dL_told_147 : decode cL_told 147 = .ok (.bipush 80, 2) := by decide +kernel
theorem dL_told_149 : decode cL_told 149 = .ok (.if_icmp .ge 29, 3) := by decide +kernel
theorem dL_told_152 : decode cL_told 152 = .ok (.aload_n 1, 1) := by decide +kernel
theorem dL_told_153 : decode cL_told 153 = .ok (.aload_n 0, 1) := by decide +kernel
theorem dL_told_154 : decode cL_told 154 = .ok (.iload_n 2, 1) := by decide +kernel
theorem dL_told_155 : decode cL_told 155 = .ok (.iconst 4, 1) := by decide +kernel
theorem dL_told_156 : decode cL_told 156 = .ok (.idiv, 1) := by decide +kernel
theorem dL_told_157 : decode cL_told 157 = .ok (.iload_n 2, 1) := by decide +kernel
theorem dL_told_158 : decode cL_told 158 = .ok (.iconst 4, 1) := by decide +kernel
theorem dL_told_159 : decode cL_told 159 = .ok (.irem, 1) := by decide +kernel
theorem dL_told_160 : decode cL_told 160 = .ok (.invokevirtual 106, 3) := by decide +kernel
theorem dL_told_163 : decode cL_told 163 = .ok (.invokevirtual 87, 3) := by decide +kernel
theorem dL_told_166 : decode cL_told 166 = .ok (.bipush 44, 2) := by decide +kernel
theorem dL_told_168 : decode cL_told 168 = .ok (.invokevirtual 80, 3) := by decide +kernel
theorem dL_told_171 : decode cL_told 171 = .ok (.pop, 1) := by decide +kernel
theorem dL_told_172 : decode cL_told 172 = .ok (.iinc 2 1, 3) := by decide +kernel
theorem dL_told_175 : decode cL_told 175 = .ok (.goto (-29), 3) := by decide +kernel
theorem dL_told_178 : decode cL_told 178 = .ok (.aload_n 1, 1) := by decide +kernel
theorem dL_told_179 : decode cL_told 179 = .ok (.invokevirtual 83, 3) := by decide +kernel
theorem dL_told_182 : decode cL_told 182 = .ok (.areturn, 1) := by decide +kernel
theorem dL_stock_0 : decode cL_stock 0 = .ok (.aload_n 0, 1) := by decide +kernel
theorem dL_stock_1 : decode cL_stock 1 = .ok (.iconst 0, 1) := by decide +kernel
theorem dL_stock_2 : decode cL_stock 2 = .ok (.invokevirtual 43, 3) := by decide +kernel
theorem dL_stock_5 : decode cL_stock 5 = .ok (.aload_n 0, 1) := by decide +kernel
theorem dL_stock_6 : decode cL_stock 6 = .ok (.iconst 1, 1) := by decide +kernel
theorem dL_stock_7 : decode cL_stock 7 = .ok (.invokevirtual 43, 3) := by decide +kernel
theorem dL_stock_10 : decode cL_stock 10 = .ok (.iadd, 1) := by decide +kernel
theorem dL_stock_11 : decode cL_stock 11 = .ok (.aload_n 0, 1) := by decide +kernel
theorem dL_stock_12 : decode cL_stock 12 = .ok (.iconst 1, 1) := by decide +kernel
theorem dL_stock_13 : decode cL_stock 13 = .ok (.invokevirtual 43, 3) := by decide +kernel
theorem dL_stock_16 : decode cL_stock 16 = .ok (.iadd, 1) := by decide +kernel
theorem dL_stock_17 : decode cL_stock 17 = .ok (.aload_n 0, 1) := by decide +kernel
theorem dL_stock_18 : decode cL_stock 18 = .ok (.iconst 2, 1) := by decide +kernel
theorem dL_stock_19 : decode cL_stock 19 = .ok (.invokevirtual 43, 3) := by decide +kernel
theorem dL_stock_22 : decode cL_stock 22 = .ok (.iadd, 1) := by decide +kernel
theorem dL_stock_23 : decode cL_stock 23 = .ok (.aload_n 0, 1) := by decide +kernel
theorem dL_stock_24 : decode cL_stock 24 = .ok (.iconst 3, 1) := by decide +kernel
theorem dL_stock_25 : decode cL_stock 25 = .ok (.iconst 0, 1) := by decide +kernel
theorem dL_stock_26 : decode cL_stock 26 = .ok (.invokevirtual 49, 3) := by decide +kernel
theorem dL_stock_29 : decode cL_stock 29 = .ok (.iadd, 1) := by decide +kernel
theorem dL_stock_30 : decode cL_stock 30 = .ok (.istore_n 1, 1) := by decide +kernel
theorem dL_stock_31 : decode cL_stock 31 = .ok (.iload_n 1, 1) := by decide +kernel
theorem dL_stock_32 : decode cL_stock 32 = .ok (.aload_n 0, 1) := by decide +kernel
theorem dL_stock_33 : decode cL_stock 33 = .ok (.iconst 0, 1) := by decide +kernel
theorem dL_stock_34 : decode cL_stock 34 = .ok (.iconst 2, 1) := by decide +kernel
theorem dL_stock_35 : decode cL_stock 35 = .ok (.iconst 5, 1) := by decide +kernel
theorem dL_stock_36 : decode cL_stock 36 = .ok (.invokevirtual 55, 3) := by decide +kernel
theorem dL_stock_39 : decode cL_stock 39 = .ok (.aload_n 0, 1) := by decide +kernel
theorem dL_stock_40 : decode cL_stock 40 = .ok (.iconst 1, 1) := by decide +kernel
theorem dL_stock_41 : decode cL_stock 41 = .ok (.iconst 2, 1) := by decide +kernel
theorem dL_stock_42 : decode cL_stock 42 = .ok (.bipush 7, 2) := by decide +kernel
theorem dL_stock_44 : decode cL_stock 44 = .ok (.invokevirtual 55, 3) := by decide +kernel
theorem dL_stock_47 : decode cL_stock 47 = .ok (.iadd, 1) := by decide +kernel
theorem dL_stock_48 : decode cL_stock 48 = .ok (.aload_n 0, 1) := by decide +kernel
theorem dL_stock_49 : decode cL_stock 49 = .ok (.iconst 3, 1) := by decide +kernel
theorem dL_stock_50 : decode cL_stock 50 = .ok (.iconst 1, 1) := by decide +kernel
theorem dL_stock_51 : decode cL_stock 51 = .ok (.bipush 9, 2) := by decide +kernel
theorem dL_stock_53 : decode cL_stock 53 = .ok (.invokevirtual 55, 3) := by decide +kernel
theorem dL_stock_56 : decode cL_stock 56 = .ok (.iadd, 1) := by decide +kernel
theorem dL_stock_57 : decode cL_stock 57 = .ok (.aload_n 0, 1) := by decide +kernel
theorem dL_stock_58 : decode cL_stock 58 = .ok (.iconst 0, 1) := by decide +kernel
theorem dL_stock_59 : decode cL_stock 59 = .ok (.iconst 2, 1) := by decide +kernel
theorem dL_stock_60 : decode cL_stock 60 = .ok (.iconst 3, 1) := by decide +kernel
theorem dL_stock_61 : decode cL_stock 61 = .ok (.invokevirtual 55, 3) := by decide +kernel
theorem dL_stock_64 : decode cL_stock 64 = .ok (.iadd, 1) := by decide +kernel
theorem dL_stock_65 : decode cL_stock 65 = .ok (.aload_n 0, 1) := by decide +kernel
theorem dL_stock_66 : decode cL_stock 66 = .ok (.iconst 2, 1) := by decide +kernel
theorem dL_stock_67 : decode cL_stock 67 = .ok (.bipush 6, 2) := by decide +kernel
theorem dL_stock_69 : decode cL_stock 69 = .ok (.iconst 1, 1) := by decide +kernel
theorem dL_stock_70 : decode cL_stock 70 = .ok (.invokevirtual 55, 3) := by decide +kernel
theorem dL_stock_73 : decode cL_stock 73 = .ok (.iadd, 1) := by decide +kernel
theorem dL_stock_74 : decode cL_stock 74 = .ok (.aload_n 0, 1) := by decide +kernel
theorem dL_stock_75 : decode cL_stock 75 = .ok (.iconst 1, 1) := by decide +kernel
theorem dL_stock_76 : decode cL_stock 76 = .ok (.bipush 6, 2) := by decide +kernel
theorem dL_stock_78 : decode cL_stock 78 = .ok (.iconst 1, 1) := by decide +kernel
theorem dL_stock_79 : decode cL_stock 79 = .ok (.invokevirtual 55, 3) := by decide +kernel
theorem dL_stock_82 : decode cL_stock 82 = .ok (.iadd, 1) := by decide +kernel
theorem dL_stock_83 : decode cL_stock 83 = .ok (.iadd, 1) := by decide +kernel
theorem dL_stock_84 : decode cL_stock 84 = .ok (.istore_n 1, 1) := by decide +kernel
theorem dL_stock_85 : decode cL_stock 85 = .ok (.iload_n 1, 1) := by decide +kernel
theorem dL_stock_86 : decode cL_stock 86 = .ok (.aload_n 0, 1) := by decide +kernel
theorem dL_stock_87 : decode cL_stock 87 = .ok (.invokevirtual 62, 3) := by decide +kernel
theorem dL_stock_90 : decode cL_stock 90 = .ok (.iadd, 1) := by decide +kernel
theorem dL_stock_91 : decode cL_stock 91 = .ok (.aload_n 0, 1) := by decide +kernel
theorem dL_stock_92 : decode cL_stock 92 = .ok (.invokevirtual 65, 3) := by decide +kernel
theorem dL_stock_95 : decode cL_stock 95 = .ok (.iadd, 1) := by decide +kernel
theorem dL_stock_96 : decode cL_stock 96 = .ok (.aload_n 0, 1) := by decide +kernel
theorem dL_stock_97 : decode cL_stock 97 = .ok (.iconst 0, 1) := by decide +kernel
theorem dL_stock_98 : decode cL_stock 98 = .ok (.iconst 1, 1) := by decide +kernel
theorem dL_stock_99 : decode cL_stock 99 = .ok (.invokevirtual 68, 3) := by decide +kernel
theorem dL_stock_102 : decode cL_stock 102 = .ok (.iadd, 1) := by decide +kernel
theorem dL_stock_103 : decode cL_stock 103 = .ok (.ireturn, 1) := by decide +kernel
theorem dL_pulls_0 : decode cL_pulls 0 = .ok (.aload_n 0, 1) := by decide +kernel
theorem dL_pulls_1 : decode cL_pulls 1 = .ok (.iconst 1, 1) := by decide +kernel
theorem dL_pulls_2 : decode cL_pulls 2 = .ok (.invokevirtual 34, 3) := by decide +kernel
theorem dL_pulls_5 : decode cL_pulls 5 = .ok (.istore_n 1, 1) := by decide +kernel
theorem dL_pulls_6 : decode cL_pulls 6 = .ok (.aload_n 0, 1) := by decide +kernel
theorem dL_pulls_7 : decode cL_pulls 7 = .ok (.iconst 0, 1) := by decide +kernel
theorem dL_pulls_8 : decode cL_pulls 8 = .ok (.invokevirtual 34, 3) := by decide +kernel
theorem dL_pulls_11 : decode cL_pulls 11 = .ok (.newarray .int, 2) := by decide +kernel
theorem dL_pulls_13 : decode cL_pulls 13 = .ok (.astore_n 2, 1) := by decide +kernel
theorem dL_pulls_14 : decode cL_pulls 14 = .ok (.bipush 24, 2) := by decide +kernel
theorem dL_pulls_16 : decode cL_pulls 16 = .ok (.newarray .int, 2) := by decide +kernel
theorem dL_pulls_18 : decode cL_pulls 18 = .ok (.astore_n 3, 1) := by decide +kernel
theorem dL_pulls_19 : decode cL_pulls 19 = .ok (.iconst 0, 1) := by decide +kernel
theorem dL_pulls_20 : decode cL_pulls 20 = .ok (.istore 4, 2) := by decide +kernel
theorem dL_pulls_22 : decode cL_pulls 22 = .ok (.iconst 0, 1) := by decide +kernel
theorem dL_pulls_23 : decode cL_pulls 23 = .ok (.istore 5, 2) := by decide +kernel
theorem dL_pulls_25 : decode cL_pulls 25 = .ok (.iload 5, 2) := by decide +kernel
theorem dL_pulls_27 : decode cL_pulls 27 = .ok (.aload_n 2, 1) := by decide +kernel
theorem dL_pulls_28 : decode cL_pulls 28 = .ok (.arraylength, 1) := by decide +kernel
theorem dL_pulls_29 : decode cL_pulls 29 = .ok (.if_icmp .ge 20, 3) := by decide +kernel
theorem dL_pulls_32 : decode cL_pulls 32 = .ok (.aload_n 2, 1) := by decide +kernel
theorem dL_pulls_33 : decode cL_pulls 33 = .ok (.iload 5, 2) := by decide +kernel
theorem dL_pulls_35 : decode cL_pulls 35 = .ok (.aload_n 0, 1) := by decide +kernel
theorem dL_pulls_36 : decode cL_pulls 36 = .ok (.iload 5, 2) := by decide +kernel
theorem dL_pulls_38 : decode cL_pulls 38 = .ok (.iconst 2, 1) := by decide +kernel
theorem dL_pulls_39 : decode cL_pulls 39 = .ok (.invokevirtual 100, 3) := by decide +kernel
theorem dL_pulls_42 : decode cL_pulls 42 = .ok (.iastore, 1) := by decide +kernel
theorem dL_pulls_43 : decode cL_pulls 43 = .ok (.iinc 5 1, 3) := by decide +kernel
theorem dL_pulls_46 : decode cL_pulls 46 = .ok (.goto (-21), 3) := by decide +kernel
theorem dL_pulls_49 : decode cL_pulls 49 = .ok (.iconst 0, 1) := by decide +kernel
theorem dL_pulls_50 : decode cL_pulls 50 = .ok (.istore 5, 2) := by decide +kernel
theorem dL_pulls_52 : decode cL_pulls 52 = .ok (.iload 5, 2) := by decide +kernel
theorem dL_pulls_54 : decode cL_pulls 54 = .ok (.bipush 24, 2) := by decide +kernel
theorem dL_pulls_56 : decode cL_pulls 56 = .ok (.if_icmp .ge 19, 3) := by decide +kernel
theorem dL_pulls_59 : decode cL_pulls 59 = .ok (.aload_n 3, 1) := by decide +kernel
theorem dL_pulls_60 : decode cL_pulls 60 = .ok (.iload 5, 2) := by decide +kernel
theorem dL_pulls_62 : decode cL_pulls 62 = .ok (.aload_n 0, 1) := by decide +kernel
theorem dL_pulls_63 : decode cL_pulls 63 = .ok (.iload 5, 2) := by decide +kernel
theorem dL_pulls_65 : decode cL_pulls 65 = .ok (.invokevirtual 103, 3) := by decide +kernel
theorem dL_pulls_68 : decode cL_pulls 68 = .ok (.iastore, 1) := by decide +kernel
theorem dL_pulls_69 : decode cL_pulls 69 = .ok (.iinc 5 1, 3) := by decide +kernel
theorem dL_pulls_72 : decode cL_pulls 72 = .ok (.goto (-20), 3) := by decide +kernel
theorem dL_pulls_75 : decode cL_pulls 75 = .ok (.iconst 0, 1) := by decide +kernel
theorem dL_pulls_76 : decode cL_pulls 76 = .ok (.istore 5, 2) := by decide +kernel
theorem dL_pulls_78 : decode cL_pulls 78 = .ok (.iload 5, 2) := by decide +kernel
theorem dL_pulls_80 : decode cL_pulls 80 = .ok (.iload_n 1, 1) := by decide +kernel
theorem dL_pulls_81 : decode cL_pulls 81 = .ok (.if_icmp .ge 225, 3) := by decide +kernel
theorem dL_pulls_84 : decode cL_pulls 84 = .ok (.aload_n 0, 1) := by decide +kernel
theorem dL_pulls_85 : decode cL_pulls 85 = .ok (.iload 5, 2) := by decide +kernel
theorem dL_pulls_87 : decode cL_pulls 87 = .ok (.iconst 0, 1) := by decide +kernel
theorem dL_pulls_88 : decode cL_pulls 88 = .ok (.invokevirtual 109, 3) := by decide +kernel
theorem dL_pulls_91 : decode cL_pulls 91 = .ok (.istore 6, 2) := by decide +kernel
theorem dL_pulls_93 : decode cL_pulls 93 = .ok (.aload_n 0, 1) := by decide +kernel
theorem dL_pulls_94 : decode cL_pulls 94 = .ok (.iload 5, 2) := by decide +kernel
theorem dL_pulls_96 : decode cL_pulls 96 = .ok (.iconst 1, 1) := by decide +kernel
theorem dL_pulls_97 : decode cL_pulls 97 = .ok (.invokevirtual 109, 3) := by decide +kernel
theorem dL_pulls_100 : decode cL_pulls 100 = .ok (.istore 7, 2) := by decide +kernel
theorem dL_pulls_102 : decode cL_pulls 102 = .ok (.aload_n 0, 1) := by decide +kernel
theorem dL_pulls_103 : decode cL_pulls 103 = .ok (.iload 5, 2) := by decide +kernel
theorem dL_pulls_105 : decode cL_pulls 105 = .ok (.iconst 2, 1) := by decide +kernel
theorem dL_pulls_106 : decode cL_pulls 106 = .ok (.invokevirtual 109, 3) := by decide +kernel
theorem dL_pulls_109 : decode cL_pulls 109 = .ok (.istore 8, 2) := by decide +kernel
theorem dL_pulls_111 : decode cL_pulls 111 = .ok (.iload 5, 2) := by decide +kernel
theorem dL_pulls_113 : decode cL_pulls 113 = .ok (.ifCond .ne 7, 3) := by decide +kernel
theorem dL_pulls_116 : decode cL_pulls 116 = .ok (.iconst 1, 1) := by decide +kernel
theorem dL_pulls_117 : decode cL_pulls 117 = .ok (.goto 15, 3) := by decide +kernel
theorem dL_pulls_120 : decode cL_pulls 120 = .ok (.iload 7, 2) := by decide +kernel
theorem dL_pulls_122 : decode cL_pulls 122 = .ok (.aload_n 0, 1) := by decide +kernel
theorem dL_pulls_123 : decode cL_pulls 123 = .ok (.iload 5, 2) := by decide +kernel
theorem dL_pulls_125 : decode cL_pulls 125 = .ok (.iconst 1, 1) := by decide +kernel
theorem dL_pulls_126 : decode cL_pulls 126 = .ok (.isub, 1) := by decide +kernel
theorem dL_pulls_127 : decode cL_pulls 127 = .ok (.iconst 1, 1) := by decide +kernel
theorem dL_pulls_128 : decode cL_pulls 128 = .ok (.invokevirtual 109, 3) := by decide +kernel
theorem dL_pulls_131 : decode cL_pulls 131 = .ok (.isub, 1) := by decide +kernel
theorem dL_pulls_132 : decode cL_pulls 132 = .ok (.istore 9, 2) := by decide +kernel
theorem dL_pulls_134 : decode cL_pulls 134 = .ok (.iload 9, 2) := by decide +kernel
theorem dL_pulls_136 : decode cL_pulls 136 = .ok (.ifCond .eq 8, 3) := by decide +kernel
theorem dL_pulls_139 : decode cL_pulls 139 = .ok (.iload 9, 2) := by decide +kernel
theorem dL_pulls_141 : decode cL_pulls 141 = .ok (.goto 15, 3) := by decide +kernel
theorem dL_pulls_144 : decode cL_pulls 144 = .ok (.aload_n 0, 1) := by decide +kernel
theorem dL_pulls_145 : decode cL_pulls 145 = .ok (.iload 5, 2) := by decide +kernel
theorem dL_pulls_147 : decode cL_pulls 147 = .ok (.iconst 1, 1) := by decide +kernel
theorem dL_pulls_148 : decode cL_pulls 148 = .ok (.isub, 1) := by decide +kernel
theorem dL_pulls_149 : decode cL_pulls 149 = .ok (.iconst 2, 1) := by decide +kernel
theorem dL_pulls_150 : decode cL_pulls 150 = .ok (.invokevirtual 109, 3) := by decide +kernel
theorem dL_pulls_153 : decode cL_pulls 153 = .ok (.iload 8, 2) := by decide +kernel
theorem dL_pulls_155 : decode cL_pulls 155 = .ok (.isub, 1) := by decide +kernel
theorem dL_pulls_156 : decode cL_pulls 156 = .ok (.istore 9, 2) := by decide +kernel
theorem dL_pulls_158 : decode cL_pulls 158 = .ok (.iload 9, 2) := by decide +kernel
theorem dL_pulls_160 : decode cL_pulls 160 = .ok (.ifCond .eq 8, 3) := by decide +kernel
theorem dL_pulls_163 : decode cL_pulls 163 = .ok (.iload 9, 2) := by decide +kernel
theorem dL_pulls_165 : decode cL_pulls 165 = .ok (.goto 15, 3) := by decide +kernel
theorem dL_pulls_168 : decode cL_pulls 168 = .ok (.iload 6, 2) := by decide +kernel
theorem dL_pulls_170 : decode cL_pulls 170 = .ok (.aload_n 0, 1) := by decide +kernel
theorem dL_pulls_171 : decode cL_pulls 171 = .ok (.iload 5, 2) := by decide +kernel
theorem dL_pulls_173 : decode cL_pulls 173 = .ok (.iconst 1, 1) := by decide +kernel
theorem dL_pulls_174 : decode cL_pulls 174 = .ok (.isub, 1) := by decide +kernel
theorem dL_pulls_175 : decode cL_pulls 175 = .ok (.iconst 0, 1) := by decide +kernel
theorem dL_pulls_176 : decode cL_pulls 176 = .ok (.invokevirtual 109, 3) := by decide +kernel
theorem dL_pulls_179 : decode cL_pulls 179 = .ok (.isub, 1) := by decide +kernel
theorem dL_pulls_180 : decode cL_pulls 180 = .ok (.istore 9, 2) := by decide +kernel
theorem dL_pulls_182 : decode cL_pulls 182 = .ok (.aload_n 3, 1) := by decide +kernel
theorem dL_pulls_183 : decode cL_pulls 183 = .ok (.iload 7, 2) := by decide +kernel
theorem dL_pulls_185 : decode cL_pulls 185 = .ok (.iaload, 1) := by decide +kernel
theorem dL_pulls_186 : decode cL_pulls 186 = .ok (.iload 6, 2) := by decide +kernel
theorem dL_pulls_188 : decode cL_pulls 188 = .ok (.ishr, 1) := by decide +kernel
theorem dL_pulls_189 : decode cL_pulls 189 = .ok (.iconst 1, 1) := by decide +kernel
theorem dL_pulls_190 : decode cL_pulls 190 = .ok (.iand, 1) := by decide +kernel
theorem dL_pulls_191 : decode cL_pulls 191 = .ok (.ifCond .ne 27, 3) := by decide +kernel
theorem dL_pulls_194 : decode cL_pulls 194 = .ok (.aload_n 0, 1) := by decide +kernel
theorem dL_pulls_195 : decode cL_pulls 195 = .ok (.iload 6, 2) := by decide +kernel
theorem dL_pulls_197 : decode cL_pulls 197 = .ok (.iconst 1, 1) := by decide +kernel
theorem dL_pulls_198 : decode cL_pulls 198 = .ok (.invokevirtual 100, 3) := by decide +kernel
theorem dL_pulls_201 : decode cL_pulls 201 = .ok (.iconst 1, 1) := by decide +kernel
theorem dL_pulls_202 : decode cL_pulls 202 = .ok (.if_icmp .ne 16, 3) := by decide +kernel
theorem dL_pulls_205 : decode cL_pulls 205 = .ok (.iload 8, 2) := by decide +kernel
theorem dL_pulls_207 : decode cL_pulls 207 = .ok (.aload_n 2, 1) := by decide +kernel
theorem dL_pulls_208 : decode cL_pulls 208 = .ok (.iload 6, 2) := by decide +kernel
theorem dL_pulls_210 : decode cL_pulls 210 = .ok (.iaload, 1) := by decide +kernel
theorem dL_pulls_211 : decode cL_pulls 211 = .ok (.if_icmp .le 7, 3) := by decide +kernel
theorem dL_pulls_214 : decode cL_pulls 214 = .ok (.iconst 1, 1) := by decide +kernel
theorem dL_pulls_215 : decode cL_pulls 215 = .ok (.goto 4, 3) := by decide +kernel
theorem dL_pulls_218 : decode cL_pulls 218 = .ok (.iconst 0, 1) := by decide +kernel
theorem dL_pulls_219 : decode cL_pulls 219 = .ok (.istore 10, 2) := by decide +kernel
theorem dL_pulls_221 : decode cL_pulls 221 = .ok (.iload 4, 2) := by decide +kernel
theorem dL_pulls_223 : decode cL_pulls 223 = .ok (.iload 10, 2) := by decide +kernel
theorem dL_pulls_225 : decode cL_pulls 225 = .ok (.ifCond .eq 7, 3) := by decide +kernel
theorem dL_pulls_228 : decode cL_pulls 228 = .ok (.iconst 1, 1) := by decide +kernel
theorem dL_pulls_229 : decode cL_pulls 229 = .ok (.goto 4, 3) := by decide +kernel
theorem dL_pulls_232 : decode cL_pulls 232 = .ok (.iconst 0, 1) := by decide +kernel
theorem dL_pulls_233 : decode cL_pulls 233 = .ok (.iadd, 1) := by decide +kernel
theorem dL_pulls_234 : decode cL_pulls 234 = .ok (.istore 4, 2) := by decide +kernel
theorem dL_pulls_236 : decode cL_pulls 236 = .ok (.aload_n 3, 1) := by decide +kernel
theorem dL_pulls_237 : decode cL_pulls 237 = .ok (.iload 7, 2) := by decide +kernel
theorem dL_pulls_239 : decode cL_pulls 239 = .ok (.dup2, 1) := by decide +kernel
theorem dL_pulls_240 : decode cL_pulls 240 = .ok (.iaload, 1) := by decide +kernel
theorem dL_pulls_241 : decode cL_pulls 241 = .ok (.iload 10, 2) := by decide +kernel
theorem dL_pulls_243 : decode cL_pulls 243 = .ok (.ifCond .eq 10, 3) := by decide +kernel
theorem dL_pulls_246 : decode cL_pulls 246 = .ok (.iconst 1, 1) := by decide +kernel
theorem dL_pulls_247 : decode cL_pulls 247 = .ok (.iload 6, 2) := by decide +kernel
theorem dL_pulls_249 : decode cL_pulls 249 = .ok (.ishl, 1) := by decide +kernel
theorem dL_pulls_250 : decode cL_pulls 250 = .ok (.goto 4, 3) := by decide +kernel
theorem dL_pulls_253 : decode cL_pulls 253 = .ok (.iconst 0, 1) := by decide +kernel
theorem dL_pulls_254 : decode cL_pulls 254 = .ok (.ior, 1) := by decide +kernel
theorem dL_pulls_255 : decode cL_pulls 255 = .ok (.iastore, 1) := by decide +kernel
theorem dL_pulls_256 : decode cL_pulls 256 = .ok (.aload_n 2, 1) := by decide +kernel
theorem dL_pulls_257 : decode cL_pulls 257 = .ok (.iload 6, 2) := by decide +kernel
theorem dL_pulls_259 : decode cL_pulls 259 = .ok (.iload 10, 2) := by decide +kernel
theorem dL_pulls_261 : decode cL_pulls 261 = .ok (.ifCond .eq 17, 3) := by decide +kernel
theorem dL_pulls_264 : decode cL_pulls 264 = .ok (.bipush 9, 2) := by decide +kernel
theorem dL_pulls_266 : decode cL_pulls 266 = .ok (.aload_n 2, 1) := by decide +kernel
theorem dL_pulls_267 : decode cL_pulls 267 = .ok (.iload 6, 2) := by decide +kernel
theorem dL_pulls_269 : decode cL_pulls 269 = .ok (.iaload, 1) := by decide +kernel
theorem dL_pulls_270 : decode cL_pulls 270 = .ok (.iconst 1, 1) := by decide +kernel
theorem dL_pulls_271 : decode cL_pulls 271 = .ok (.iadd, 1) := by decide +kernel
theorem dL_pulls_272 : decode cL_pulls 272 = .ok (.invokestatic 52, 3) := by decide +kernel
theorem dL_pulls_275 : decode cL_pulls 275 = .ok (.goto 7, 3) := by decide +kernel
theorem dL_pulls_278 : decode cL_pulls 278 = .ok (.aload_n 2, 1) := by decide +kernel
theorem dL_pulls_279 : decode cL_pulls 279 = .ok (.iload 6, 2) := by decide +kernel
theorem dL_pulls_281 : decode cL_pulls 281 = .ok (.iaload, 1) := by decide +kernel
theorem dL_pulls_282 : decode cL_pulls 282 = .ok (.iastore, 1) := by decide +kernel
theorem dL_pulls_283 : decode cL_pulls 283 = .ok (.iload 9, 2) := by decide +kernel
theorem dL_pulls_285 : decode cL_pulls 285 = .ok (.ifCond .lt 13, 3) := by decide +kernel
theorem dL_pulls_288 : decode cL_pulls 288 = .ok (.iload 7, 2) := by decide +kernel
theorem dL_pulls_290 : decode cL_pulls 290 = .ok (.aload_n 0, 1) := by decide +kernel
theorem dL_pulls_291 : decode cL_pulls 291 = .ok (.iconst 2, 1) := by decide +kernel
theorem dL_pulls_292 : decode cL_pulls 292 = .ok (.invokevirtual 34, 3) := by decide +kernel
theorem dL_pulls_295 : decode cL_pulls 295 = .ok (.if_icmp .ge 5, 3) := by decide +kernel
theorem dL_pulls_298 : decode cL_pulls 298 = .ok (.iconst 0, 1) := by decide +kernel
theorem dL_pulls_299 : decode cL_pulls 299 = .ok (.ireturn, 1) := by decide +kernel
theorem dL_pulls_300 : decode cL_pulls 300 = .ok (.iinc 5 1, 3) := by decide +kernel
theorem dL_pulls_303 : decode cL_pulls 303 = .ok (.goto (-225), 3) := by decide +kernel
theorem dL_pulls_306 : decode cL_pulls 306 = .ok (.aload_n 0, 1) := by decide +kernel
theorem dL_pulls_307 : decode cL_pulls 307 = .ok (.invokevirtual 112, 3) := by decide +kernel
theorem dL_pulls_310 : decode cL_pulls 310 = .ok (.iload 4, 2) := by decide +kernel
theorem dL_pulls_312 : decode cL_pulls 312 = .ok (.if_icmp .ne 34, 3) := by decide +kernel
theorem dL_pulls_315 : decode cL_pulls 315 = .ok (.aload_n 0, 1) := by decide +kernel
theorem dL_pulls_316 : decode cL_pulls 316 = .ok (.invokevirtual 115, 3) := by decide +kernel
theorem dL_pulls_319 : decode cL_pulls 319 = .ok (.iload 4, 2) := by decide +kernel
theorem dL_pulls_321 : decode cL_pulls 321 = .ok (.if_icmp .ne 25, 3) := by decide +kernel
theorem dL_pulls_324 : decode cL_pulls 324 = .ok (.aload_n 0, 1) := by decide +kernel
theorem dL_pulls_325 : decode cL_pulls 325 = .ok (.iload_n 1, 1) := by decide +kernel
theorem dL_pulls_326 : decode cL_pulls 326 = .ok (.iconst 0, 1) := by decide +kernel
theorem dL_pulls_327 : decode cL_pulls 327 = .ok (.invokevirtual 109, 3) := by decide +kernel
theorem dL_pulls_330 : decode cL_pulls 330 = .ok (.sipush (-1011), 3) := by decide +kernel
theorem dL_pulls_333 : decode cL_pulls 333 = .ok (.if_icmp .ne 13, 3) := by decide +kernel
theorem dL_pulls_336 : decode cL_pulls 336 = .ok (.iload_n 1, 1) := by decide +kernel
theorem dL_pulls_337 : decode cL_pulls 337 = .ok (.bipush 16, 2) := by decide +kernel
theorem dL_pulls_339 : decode cL_pulls 339 = .ok (.if_icmp .gt 7, 3) := by decide +kernel
theorem dL_pulls_342 : decode cL_pulls 342 = .ok (.iconst 1, 1) := by decide +kernel
theorem dL_pulls_343 : decode cL_pulls 343 = .ok (.goto 4, 3) := by decide +kernel
theorem dL_pulls_346 : decode cL_pulls 346 = .ok (.iconst 0, 1) := by decide +kernel
theorem dL_pulls_347 : decode cL_pulls 347 = .ok (.ireturn, 1) := by decide +kernel
theorem dL_ropes_0 : decode cL_ropes 0 = .ok (.aload_n 0, 1) := by decide +kernel
theorem dL_ropes_1 : decode cL_ropes 1 = .ok (.iconst 0, 1) := by decide +kernel
theorem dL_ropes_2 : decode cL_ropes 2 = .ok (.invokevirtual 34, 3) := by decide +kernel
theorem dL_ropes_5 : decode cL_ropes 5 = .ok (.istore_n 1, 1) := by decide +kernel
theorem dL_ropes_6 : decode cL_ropes 6 = .ok (.iconst 4, 1) := by decide +kernel
theorem dL_ropes_7 : decode cL_ropes 7 = .ok (.newarray .int, 2) := by decide +kernel
theorem dL_ropes_9 : decode cL_ropes 9 = .ok (.astore_n 2, 1) := by decide +kernel
theorem dL_ropes_10 : decode cL_ropes 10 = .ok (.iconst 0, 1) := by decide +kernel
theorem dL_ropes_11 : decode cL_ropes 11 = .ok (.istore_n 3, 1) := by decide +kernel
theorem dL_ropes_12 : decode cL_ropes 12 = .ok (.iconst (-1), 1) := by decide +kernel
theorem dL_ropes_13 : decode cL_ropes 13 = .ok (.istore 4, 2) := by decide +kernel
theorem dL_ropes_15 : decode cL_ropes 15 = .ok (.iconst 0, 1) := by decide +kernel
theorem dL_ropes_16 : decode cL_ropes 16 = .ok (.istore 5, 2) := by decide +kernel
theorem dL_ropes_18 : decode cL_ropes 18 = .ok (.iload 5, 2) := by decide +kernel
theorem dL_ropes_20 : decode cL_ropes 20 = .ok (.iload_n 1, 1) := by decide +kernel
theorem dL_ropes_21 : decode cL_ropes 21 = .ok (.if_icmp .ge 431, 3) := by decide +kernel
theorem dL_ropes_24 : decode cL_ropes 24 = .ok (.new 74, 3) := by decide +kernel
theorem dL_ropes_27 : decode cL_ropes 27 = .ok (.dup, 1) := by decide +kernel
theorem dL_ropes_28 : decode cL_ropes 28 = .ok (.invokespecial 76, 3) := by decide +kernel
theorem dL_ropes_31 : decode cL_ropes 31 = .ok (.iload 5, 2) := by decide +kernel
theorem dL_ropes_33 : decode cL_ropes 33 = .ok (.invokevirtual 87, 3) := by decide +kernel
theorem dL_ropes_36 : decode cL_ropes 36 = .ok (.bipush 58, 2) := by decide +kernel
theorem dL_ropes_38 : decode cL_ropes 38 = .ok (.invokevirtual 80, 3) := by decide +kernel
theorem dL_ropes_41 : decode cL_ropes 41 = .ok (.aload_n 0, 1) := by decide +kernel
theorem dL_ropes_42 : decode cL_ropes 42 = .ok (.iload 5, 2) := by decide +kernel
theorem dL_ropes_44 : decode cL_ropes 44 = .ok (.iconst 0, 1) := by decide +kernel
theorem dL_ropes_45 : decode cL_ropes 45 = .ok (.invokevirtual 100, 3) := by decide +kernel
theorem dL_ropes_48 : decode cL_ropes 48 = .ok (.invokevirtual 87, 3) := by decide +kernel
theorem dL_ropes_51 : decode cL_ropes 51 = .ok (.aload_n 0, 1) := by decide +kernel
theorem dL_ropes_52 : decode cL_ropes 52 = .ok (.iload 5, 2) := by decide +kernel
theorem dL_ropes_54 : decode cL_ropes 54 = .ok (.iconst 1, 1) := by decide +kernel
theorem dL_ropes_55 : decode cL_ropes 55 = .ok (.invokevirtual 100, 3) := by decide +kernel
theorem dL_ropes_58 : decode cL_ropes 58 = .ok (.iconst 1, 1) := by decide +kernel
theorem dL_ropes_59 : decode cL_ropes 59 = .ok (.if_icmp .ne 8, 3) := by decide +kernel
theorem dL_ropes_62 : decode cL_ropes 62 = .ok (.ldc 118, 2) := by decide +kernel
theorem dL_ropes_64 : decode cL_ropes 64 = .ok (.goto 5, 3) := by decide +kernel
theorem dL_ropes_67 : decode cL_ropes 67 = .ok (.ldc 120, 2) := by decide +kernel
theorem dL_ropes_69 : decode cL_ropes 69 = .ok (.invokevirtual 97, 3) := by decide +kernel
theorem dL_ropes_72 : decode cL_ropes 72 = .ok (.astore 6, 2) := by decide +kernel
theorem dL_ropes_74 : decode cL_ropes 74 = .ok (.iconst 0, 1) := by decide +kernel
theorem dL_ropes_75 : decode cL_ropes 75 = .ok (.istore 7, 2) := by decide +kernel
theorem dL_ropes_77 : decode cL_ropes 77 = .ok (.iload 7, 2) := by decide +kernel
theorem dL_ropes_79 : decode cL_ropes 79 = .ok (.aload_n 0, 1) := by decide +kernel
theorem dL_ropes_80 : decode cL_ropes 80 = .ok (.iload 5, 2) := by decide +kernel
theorem dL_ropes_82 : decode cL_ropes 82 = .ok (.iconst 2, 1) := by decide +kernel
theorem dL_ropes_83 : decode cL_ropes 83 = .ok (.invokevirtual 100, 3) := by decide +kernel
theorem dL_ropes_86 : decode cL_ropes 86 = .ok (.if_icmp .ge 17, 3) := by decide +kernel
theorem dL_ropes_89 : decode cL_ropes 89 = .ok (.aload 6, 2) := by decide +kernel
theorem dL_ropes_91 : decode cL_ropes 91 = .ok (.bipush 126, 2) := by decide +kernel
theorem dL_ropes_93 : decode cL_ropes 93 = .ok (.invokevirtual 80, 3) := by decide +kernel
theorem dL_ropes_96 : decode cL_ropes 96 = .ok (.pop, 1) := by decide +kernel
theorem dL_ropes_97 : decode cL_ropes 97 = .ok (.iinc 7 1, 3) := by decide +kernel
theorem dL_ropes_100 : decode cL_ropes 100 = .ok (.goto (-23), 3) := by decide +kernel
theorem dL_ropes_103 : decode cL_ropes 103 = .ok (.iconst 0, 1) := by decide +kernel
theorem dL_ropes_104 : decode cL_ropes 104 = .ok (.istore 7, 2) := by decide +kernel
theorem dL_ropes_106 : decode cL_ropes 106 = .ok (.iconst 0, 1) := by decide +kernel
theorem dL_ropes_107 : decode cL_ropes 107 = .ok (.istore 8, 2) := by decide +kernel
theorem dL_ropes_109 : decode cL_ropes 109 = .ok (.iload 8, 2) := by decide +kernel
theorem dL_ropes_111 : decode cL_ropes 111 = .ok (.aload_n 0, 1) := by decide +kernel
theorem dL_ropes_112 : decode cL_ropes 112 = .ok (.iconst 1, 1) := by decide +kernel
theorem dL_ropes_113 : decode cL_ropes 113 = .ok (.invokevirtual 34, 3) := by decide +kernel
theorem dL_ropes_116 : decode cL_ropes 116 = .ok (.if_icmp .ge 99, 3) := by decide +kernel
theorem dL_ropes_119 : decode cL_ropes 119 = .ok (.aload_n 0, 1) := by decide +kernel
theorem dL_ropes_120 : decode cL_ropes 120 = .ok (.iload 8, 2) := by decide +kernel
theorem dL_ropes_122 : decode cL_ropes 122 = .ok (.iconst 0, 1) := by decide +kernel
theorem dL_ropes_123 : decode cL_ropes 123 = .ok (.invokevirtual 109, 3) := by decide +kernel
theorem dL_ropes_126 : decode cL_ropes 126 = .ok (.iload 5, 2) := by decide +kernel
theorem dL_ropes_128 : decode cL_ropes 128 = .ok (.if_icmp .ne 7, 3) := by decide +kernel
theorem dL_ropes_131 : decode cL_ropes 131 = .ok (.iconst 1, 1) := by decide +kernel
theorem dL_ropes_132 : decode cL_ropes 132 = .ok (.goto 4, 3) := by decide +kernel
theorem dL_ropes_135 : decode cL_ropes 135 = .ok (.iconst 0, 1) := by decide +kernel
theorem dL_ropes_136 : decode cL_ropes 136 = .ok (.istore 9, 2) := by decide +kernel
theorem dL_ropes_138 : decode cL_ropes 138 = .ok (.iload 7, 2) := by decide +kernel
theorem dL_ropes_140 : decode cL_ropes 140 = .ok (.iload 9, 2) := by decide +kernel
theorem dL_ropes_142 : decode cL_ropes 142 = .ok (.ifCond .eq 7, 3) := by decide +kernel
theorem dL_ropes_145 : decode cL_ropes 145 = .ok (.iconst 1, 1) := by decide +kernel
theorem dL_ropes_146 : decode cL_ropes 146 = .ok (.goto 4, 3) := by decide +kernel
theorem dL_ropes_149 : decode cL_ropes 149 = .ok (.iconst 0, 1) := by decide +kernel
theorem dL_ropes_150 : decode cL_ropes 150 = .ok (.iadd, 1) := by decide +kernel
theorem dL_ropes_151 : decode cL_ropes 151 = .ok (.istore 7, 2) := by decide +kernel
theorem dL_ropes_153 : decode cL_ropes 153 = .ok (.aload 6, 2) := by decide +kernel
theorem dL_ropes_155 : decode cL_ropes 155 = .ok (.iload 9, 2) := by decide +kernel
theorem dL_ropes_157 : decode cL_ropes 157 = .ok (.ifCond .eq 46, 3) := by decide +kernel
theorem dL_ropes_160 : decode cL_ropes 160 = .ok (.new 74, 3) := by decide +kernel
theorem dL_ropes_163 : decode cL_ropes 163 = .ok (.dup, 1) := by decide +kernel
theorem dL_ropes_164 : decode cL_ropes 164 = .ok (.invokespecial 76, 3) := by decide +kernel
theorem dL_ropes_167 : decode cL_ropes 167 = .ok (.ldc 122, 2) := by decide +kernel
theorem dL_ropes_169 : decode cL_ropes 169 = .ok (.invokevirtual 97, 3) := by decide +kernel
theorem dL_ropes_172 : decode cL_ropes 172 = .ok (.aload_n 0, 1) := by decide +kernel
theorem dL_ropes_173 : decode cL_ropes 173 = .ok (.iload 8, 2) := by decide +kernel
theorem dL_ropes_175 : decode cL_ropes 175 = .ok (.iconst 1, 1) := by decide +kernel
theorem dL_ropes_176 : decode cL_ropes 176 = .ok (.invokevirtual 109, 3) := by decide +kernel
theorem dL_ropes_179 : decode cL_ropes 179 = .ok (.invokevirtual 87, 3) := by decide +kernel
theorem dL_ropes_182 : decode cL_ropes 182 = .ok (.ldc 124, 2) := by decide +kernel
theorem dL_ropes_184 : decode cL_ropes 184 = .ok (.invokevirtual 97, 3) := by decide +kernel
theorem dL_ropes_187 : decode cL_ropes 187 = .ok (.aload_n 0, 1) := by decide +kernel
theorem dL_ropes_188 : decode cL_ropes 188 = .ok (.iload 8, 2) := by decide +kernel
theorem dL_ropes_190 : decode cL_ropes 190 = .ok (.iconst 2, 1) := by decide +kernel
theorem dL_ropes_191 : decode cL_ropes 191 = .ok (.invokevirtual 109, 3) := by decide +kernel
theorem dL_ropes_194 : decode cL_ropes 194 = .ok (.invokevirtual 87, 3) := by decide +kernel
theorem dL_ropes_197 : decode cL_ropes 197 = .ok (.invokevirtual 83, 3) := by decide +kernel
theorem dL_ropes_200 : decode cL_ropes 200 = .ok (.goto 5, 3) := by decide +kernel
theorem dL_ropes_203 : decode cL_ropes 203 = .ok (.ldc 118, 2) := by decide +kernel
theorem dL_ropes_205 : decode cL_ropes 205 = .ok (.invokevirtual 97, 3) := by decide +kernel
theorem dL_ropes_208 : decode cL_ropes 208 = .ok (.pop, 1) := by decide +kernel
theorem dL_ropes_209 : decode cL_ropes 209 = .ok (.iinc 8 1, 3) := by decide +kernel
theorem dL_ropes_212 : decode cL_ropes 212 = .ok (.goto (-103), 3) := by decide +kernel
theorem dL_ropes_215 : decode cL_ropes 215 = .ok (.iconst 0, 1) := by decide +kernel
theorem dL_ropes_216 : decode cL_ropes 216 = .ok (.istore 8, 2) := by decide +kernel
theorem dL_ropes_218 : decode cL_ropes 218 = .ok (.iload 8, 2) := by decide +kernel
theorem dL_ropes_220 : decode cL_ropes 220 = .ok (.iconst 4, 1) := by decide +kernel
theorem dL_ropes_221 : decode cL_ropes 221 = .ok (.if_icmp .ge 26, 3) := by decide +kernel
theorem dL_ropes_224 : decode cL_ropes 224 = .ok (.aload_n 2, 1) := by decide +kernel
theorem dL_ropes_225 : decode cL_ropes 225 = .ok (.iload 8, 2) := by decide +kernel
theorem dL_ropes_227 : decode cL_ropes 227 = .ok (.dup2, 1) := by decide +kernel
theorem dL_ropes_228 : decode cL_ropes 228 = .ok (.iaload, 1) := by decide +kernel
theorem dL_ropes_229 : decode cL_ropes 229 = .ok (.aload_n 0, 1) := by decide +kernel
theorem dL_ropes_230 : decode cL_ropes 230 = .ok (.iload 5, 2) := by decide +kernel
theorem dL_ropes_232 : decode cL_ropes 232 = .ok (.iconst 3, 1) := by decide +kernel
theorem dL_ropes_233 : decode cL_ropes 233 = .ok (.iload 8, 2) := by decide +kernel
theorem dL_ropes_235 : decode cL_ropes 235 = .ok (.iadd, 1) := by decide +kernel
theorem dL_ropes_236 : decode cL_ropes 236 = .ok (.invokevirtual 100, 3) := by decide +kernel
theorem dL_ropes_239 : decode cL_ropes 239 = .ok (.iadd, 1) := by decide +kernel
theorem dL_ropes_240 : decode cL_ropes 240 = .ok (.iastore, 1) := by decide +kernel
theorem dL_ropes_241 : decode cL_ropes 241 = .ok (.iinc 8 1, 3) := by decide +kernel
theorem dL_ropes_244 : decode cL_ropes 244 = .ok (.goto (-26), 3) := by decide +kernel
theorem dL_ropes_247 : decode cL_ropes 247 = .ok (.iload_n 3, 1) := by decide +kernel
theorem dL_ropes_248 : decode cL_ropes 248 = .ok (.aload_n 0, 1) := by decide +kernel
theorem dL_ropes_249 : decode cL_ropes 249 = .ok (.iload 5, 2) := by decide +kernel
theorem dL_ropes_251 : decode cL_ropes 251 = .ok (.iconst 2, 1) := by decide +kernel
theorem dL_ropes_252 : decode cL_ropes 252 = .ok (.invokevirtual 100, 3) := by decide +kernel
theorem dL_ropes_255 : decode cL_ropes 255 = .ok (.iadd, 1) := by decide +kernel
theorem dL_ropes_256 : decode cL_ropes 256 = .ok (.istore_n 3, 1) := by decide +kernel
theorem dL_ropes_257 : decode cL_ropes 257 = .ok (.aload_n 0, 1) := by decide +kernel
theorem dL_ropes_258 : decode cL_ropes 258 = .ok (.iload 5, 2) := by decide +kernel
theorem dL_ropes_260 : decode cL_ropes 260 = .ok (.invokevirtual 126, 3) := by decide +kernel
theorem dL_ropes_263 : decode cL_ropes 263 = .ok (.istore 8, 2) := by decide +kernel
theorem dL_ropes_265 : decode cL_ropes 265 = .ok (.iload 4, 2) := by decide +kernel
theorem dL_ropes_267 : decode cL_ropes 267 = .ok (.ifCond .ge 7, 3) := by decide +kernel
theorem dL_ropes_270 : decode cL_ropes 270 = .ok (.iconst 1, 1) := by decide +kernel
theorem dL_ropes_271 : decode cL_ropes 271 = .ok (.goto 18, 3) := by decide +kernel
theorem dL_ropes_274 : decode cL_ropes 274 = .ok (.aload_n 0, 1) := by decide +kernel
theorem dL_ropes_275 : decode cL_ropes 275 = .ok (.iload 4, 2) := by decide +kernel
theorem dL_ropes_277 : decode cL_ropes 277 = .ok (.iconst 2, 1) := by decide +kernel
theorem dL_ropes_278 : decode cL_ropes 278 = .ok (.invokevirtual 100, 3) := by decide +kernel
theorem dL_ropes_281 : decode cL_ropes 281 = .ok (.aload_n 0, 1) := by decide +kernel
theorem dL_ropes_282 : decode cL_ropes 282 = .ok (.iload 8, 2) := by decide +kernel
theorem dL_ropes_284 : decode cL_ropes 284 = .ok (.iconst 2, 1) := by decide +kernel
theorem dL_ropes_285 : decode cL_ropes 285 = .ok (.invokevirtual 100, 3) := by decide +kernel
theorem dL_ropes_288 : decode cL_ropes 288 = .ok (.isub, 1) := by decide +kernel
theorem dL_ropes_289 : decode cL_ropes 289 = .ok (.istore 9, 2) := by decide +kernel
theorem dL_ropes_291 : decode cL_ropes 291 = .ok (.iload 9, 2) := by decide +kernel
theorem dL_ropes_293 : decode cL_ropes 293 = .ok (.ifCond .eq 8, 3) := by decide +kernel
theorem dL_ropes_296 : decode cL_ropes 296 = .ok (.iload 9, 2) := by decide +kernel
theorem dL_ropes_298 : decode cL_ropes 298 = .ok (.goto 18, 3) := by decide +kernel
theorem dL_ropes_301 : decode cL_ropes 301 = .ok (.aload_n 0, 1) := by decide +kernel
theorem dL_ropes_302 : decode cL_ropes 302 = .ok (.iload 8, 2) := by decide +kernel
theorem dL_ropes_304 : decode cL_ropes 304 = .ok (.iconst 3, 1) := by decide +kernel
theorem dL_ropes_305 : decode cL_ropes 305 = .ok (.invokevirtual 100, 3) := by decide +kernel
theorem dL_ropes_308 : decode cL_ropes 308 = .ok (.aload_n 0, 1) := by decide +kernel
theorem dL_ropes_309 : decode cL_ropes 309 = .ok (.iload 4, 2) := by decide +kernel
theorem dL_ropes_311 : decode cL_ropes 311 = .ok (.iconst 3, 1) := by decide +kernel
theorem dL_ropes_312 : decode cL_ropes 312 = .ok (.invokevirtual 100, 3) := by decide +kernel
theorem dL_ropes_315 : decode cL_ropes 315 = .ok (.isub, 1) := by decide +kernel
theorem dL_ropes_316 : decode cL_ropes 316 = .ok (.istore 9, 2) := by decide +kernel
theorem dL_ropes_318 : decode cL_ropes 318 = .ok (.aload_n 0, 1) := by decide +kernel
theorem dL_ropes_319 : decode cL_ropes 319 = .ok (.iload 5, 2) := by decide +kernel
theorem dL_ropes_321 : decode cL_ropes 321 = .ok (.iconst 5, 1) := by decide +kernel
theorem dL_ropes_322 : decode cL_ropes 322 = .ok (.invokevirtual 129, 3) := by decide +kernel
theorem dL_ropes_325 : decode cL_ropes 325 = .ok (.aload_n 0, 1) := by decide +kernel
theorem dL_ropes_326 : decode cL_ropes 326 = .ok (.iload 5, 2) := by decide +kernel
theorem dL_ropes_328 : decode cL_ropes 328 = .ok (.iconst 1, 1) := by decide +kernel
theorem dL_ropes_329 : decode cL_ropes 329 = .ok (.invokevirtual 100, 3) := by decide +kernel
theorem dL_ropes_332 : decode cL_ropes 332 = .ok (.iconst 1, 1) := by decide +kernel
theorem dL_ropes_333 : decode cL_ropes 333 = .ok (.if_icmp .ne 18, 3) := by decide +kernel
theorem dL_ropes_336 : decode cL_ropes 336 = .ok (.iconst 5, 1) := by decide +kernel
theorem dL_ropes_337 : decode cL_ropes 337 = .ok (.aload_n 0, 1) := by decide +kernel
theorem dL_ropes_338 : decode cL_ropes 338 = .ok (.iload 5, 2) := by decide +kernel
theorem dL_ropes_340 : decode cL_ropes 340 = .ok (.iconst 2, 1) := by decide +kernel
theorem dL_ropes_341 : decode cL_ropes 341 = .ok (.invokevirtual 100, 3) := by decide +kernel
theorem dL_ropes_344 : decode cL_ropes 344 = .ok (.if_icmp .le 7, 3) := by decide +kernel
theorem dL_ropes_347 : decode cL_ropes 347 = .ok (.iconst 1, 1) := by decide +kernel
theorem dL_ropes_348 : decode cL_ropes 348 = .ok (.goto 4, 3) := by decide +kernel
theorem dL_ropes_351 : decode cL_ropes 351 = .ok (.iconst 0, 1) := by decide +kernel
theorem dL_ropes_352 : decode cL_ropes 352 = .ok (.if_icmp .ne 7, 3) := by decide +kernel
theorem dL_ropes_355 : decode cL_ropes 355 = .ok (.iconst 1, 1) := by decide +kernel
theorem dL_ropes_356 : decode cL_ropes 356 = .ok (.goto 4, 3) := by decide +kernel
theorem dL_ropes_359 : decode cL_ropes 359 = .ok (.iconst 0, 1) := by decide +kernel
theorem dL_ropes_360 : decode cL_ropes 360 = .ok (.istore 10, 2) := by decide +kernel
theorem dL_ropes_362 : decode cL_ropes 362 = .ok (.iload 9, 2) := by decide +kernel
theorem dL_ropes_364 : decode cL_ropes 364 = .ok (.ifCond .lt 76, 3) := by decide +kernel
theorem dL_ropes_367 : decode cL_ropes 367 = .ok (.iload 9, 2) := by decide +kernel
theorem dL_ropes_369 : decode cL_ropes 369 = .ok (.ifCond .ne 10, 3) := by decide +kernel
theorem dL_ropes_372 : decode cL_ropes 372 = .ok (.iload 8, 2) := by decide +kernel
theorem dL_ropes_374 : decode cL_ropes 374 = .ok (.iload 4, 2) := by decide +kernel
theorem dL_ropes_376 : decode cL_ropes 376 = .ok (.if_icmp .lt 64, 3) := by decide +kernel
theorem dL_ropes_379 : decode cL_ropes 379 = .ok (.iload 10, 2) := by decide +kernel
theorem dL_ropes_381 : decode cL_ropes 381 = .ok (.ifCond .eq 59, 3) := by decide +kernel
theorem dL_ropes_384 : decode cL_ropes 384 = .ok (.aload_n 0, 1) := by decide +kernel
theorem dL_ropes_385 : decode cL_ropes 385 = .ok (.iload 5, 2) := by decide +kernel
theorem dL_ropes_387 : decode cL_ropes 387 = .ok (.bipush 6, 2) := by decide +kernel
theorem dL_ropes_389 : decode cL_ropes 389 = .ok (.invokevirtual 100, 3) := by decide +kernel
theorem dL_ropes_392 : decode cL_ropes 392 = .ok (.iload 7, 2) := by decide +kernel
theorem dL_ropes_394 : decode cL_ropes 394 = .ok (.if_icmp .ne 46, 3) := by decide +kernel
theorem dL_ropes_397 : decode cL_ropes 397 = .ok (.aload_n 0, 1) := by decide +kernel
theorem dL_ropes_398 : decode cL_ropes 398 = .ok (.iload 5, 2) := by decide +kernel
theorem dL_ropes_400 : decode cL_ropes 400 = .ok (.iconst 2, 1) := by decide +kernel
theorem dL_ropes_401 : decode cL_ropes 401 = .ok (.invokevirtual 100, 3) := by decide +kernel
theorem dL_ropes_404 : decode cL_ropes 404 = .ok (.ifCond .lt 36, 3) := by decide +kernel
theorem dL_ropes_407 : decode cL_ropes 407 = .ok (.aload_n 0, 1) := by decide +kernel
theorem dL_ropes_408 : decode cL_ropes 408 = .ok (.iload 5, 2) := by decide +kernel
theorem dL_ropes_410 : decode cL_ropes 410 = .ok (.iconst 2, 1) := by decide +kernel
theorem dL_ropes_411 : decode cL_ropes 411 = .ok (.invokevirtual 100, 3) := by decide +kernel
theorem dL_ropes_414 : decode cL_ropes 414 = .ok (.bipush 9, 2) := by decide +kernel
theorem dL_ropes_416 : decode cL_ropes 416 = .ok (.if_icmp .gt 24, 3) := by decide +kernel
theorem dL_ropes_419 : decode cL_ropes 419 = .ok (.aload_n 0, 1) := by decide +kernel
theorem dL_ropes_420 : decode cL_ropes 420 = .ok (.aload_n 0, 1) := by decide +kernel
theorem dL_ropes_421 : decode cL_ropes 421 = .ok (.iload 5, 2) := by decide +kernel
theorem dL_ropes_423 : decode cL_ropes 423 = .ok (.invokevirtual 90, 3) := by decide +kernel
theorem dL_ropes_426 : decode cL_ropes 426 = .ok (.invokestatic 93, 3) := by decide +kernel
theorem dL_ropes_429 : decode cL_ropes 429 = .ok (.aload 6, 2) := by decide +kernel
theorem dL_ropes_431 : decode cL_ropes 431 = .ok (.invokevirtual 83, 3) := by decide +kernel
theorem dL_ropes_434 : decode cL_ropes 434 = .ok (.invokevirtual 132, 3) := by decide +kernel
theorem dL_ropes_437 : decode cL_ropes 437 = .ok (.ifCond .ne 5, 3) := by decide +kernel
theorem dL_ropes_440 : decode cL_ropes 440 = .ok (.iconst 0, 1) := by decide +kernel
theorem dL_ropes_441 : decode cL_ropes 441 = .ok (.ireturn, 1) := by decide +kernel
theorem dL_ropes_442 : decode cL_ropes 442 = .ok (.iload 8, 2) := by decide +kernel
theorem dL_ropes_444 : decode cL_ropes 444 = .ok (.istore 4, 2) := by decide +kernel
theorem dL_ropes_446 : decode cL_ropes 446 = .ok (.iinc 5 1, 3) := by decide +kernel
theorem dL_ropes_449 : decode cL_ropes 449 = .ok (.goto (-431), 3) := by decide +kernel
theorem dL_ropes_452 : decode cL_ropes 452 = .ok (.iload_n 1, 1) := by decide +kernel
theorem dL_ropes_453 : decode cL_ropes 453 = .ok (.ifCond .ne 7, 3) := by decide +kernel
theorem dL_ropes_456 : decode cL_ropes 456 = .ok (.dconst 0, 1) := by decide +kernel
theorem dL_ropes_457 : decode cL_ropes 457 = .ok (.goto 8, 3) := by decide +kernel
theorem dL_ropes_460 : decode cL_ropes 460 = .ok (.iload_n 3, 1) := by decide +kernel
theorem dL_ropes_461 : decode cL_ropes 461 = .ok (.i2d, 1) := by decide +kernel
theorem dL_ropes_462 : decode cL_ropes 462 = .ok (.iload_n 1, 1) := by decide +kernel
theorem dL_ropes_463 : decode cL_ropes 463 = .ok (.i2d, 1) := by decide +kernel
theorem dL_ropes_464 : decode cL_ropes 464 = .ok (.ddiv, 1) := by decide +kernel
theorem dL_ropes_465 : decode cL_ropes 465 = .ok (.dstore 5, 2) := by decide +kernel
theorem dL_ropes_467 : decode cL_ropes 467 = .ok (.aload_n 0, 1) := by decide +kernel
theorem dL_ropes_468 : decode cL_ropes 468 = .ok (.iconst 5, 1) := by decide +kernel
theorem dL_ropes_469 : decode cL_ropes 469 = .ok (.invokevirtual 34, 3) := by decide +kernel
theorem dL_ropes_472 : decode cL_ropes 472 = .ok (.aload_n 0, 1) := by decide +kernel
theorem dL_ropes_473 : decode cL_ropes 473 = .ok (.bipush 6, 2) := by decide +kernel
theorem dL_ropes_475 : decode cL_ropes 475 = .ok (.invokevirtual 34, 3) := by decide +kernel
theorem dL_ropes_478 : decode cL_ropes 478 = .ok (.iadd, 1) := by decide +kernel
theorem dL_ropes_479 : decode cL_ropes 479 = .ok (.aload_n 0, 1) := by decide +kernel
theorem dL_ropes_480 : decode cL_ropes 480 = .ok (.bipush 7, 2) := by decide +kernel
theorem dL_ropes_482 : decode cL_ropes 482 = .ok (.invokevirtual 34, 3) := by decide +kernel
theorem dL_ropes_485 : decode cL_ropes 485 = .ok (.iadd, 1) := by decide +kernel
theorem dL_ropes_486 : decode cL_ropes 486 = .ok (.istore 7, 2) := by decide +kernel
theorem dL_ropes_488 : decode cL_ropes 488 = .ok (.iload 7, 2) := by decide +kernel
theorem dL_ropes_490 : decode cL_ropes 490 = .ok (.ifCond .ne 7, 3) := by decide +kernel
theorem dL_ropes_493 : decode cL_ropes 493 = .ok (.fconst 0, 1) := by decide +kernel
theorem dL_ropes_494 : decode cL_ropes 494 = .ok (.goto 13, 3) := by decide +kernel
theorem dL_ropes_497 : decode cL_ropes 497 = .ok (.aload_n 0, 1) := by decide +kernel
theorem dL_ropes_498 : decode cL_ropes 498 = .ok (.iconst 5, 1) := by decide +kernel
theorem dL_ropes_499 : decode cL_ropes 499 = .ok (.invokevirtual 34, 3) := by decide +kernel
theorem dL_ropes_502 : decode cL_ropes 502 = .ok (.i2f, 1) := by decide +kernel
theorem dL_ropes_503 : decode cL_ropes 503 = .ok (.iload 7, 2) := by decide +kernel
theorem dL_ropes_505 : decode cL_ropes 505 = .ok (.i2f, 1) := by decide +kernel
theorem dL_ropes_506 : decode cL_ropes 506 = .ok (.fdiv, 1) := by decide +kernel
theorem dL_ropes_507 : decode cL_ropes 507 = .ok (.fstore 8, 2) := by decide +kernel
theorem dL_ropes_509 : decode cL_ropes 509 = .ok (.aload_n 0, 1) := by decide +kernel
theorem dL_ropes_510 : decode cL_ropes 510 = .ok (.iconst 5, 1) := by decide +kernel
theorem dL_ropes_511 : decode cL_ropes 511 = .ok (.invokevirtual 34, 3) := by decide +kernel
theorem dL_ropes_514 : decode cL_ropes 514 = .ok (.aload_n 2, 1) := by decide +kernel
theorem dL_ropes_515 : decode cL_ropes 515 = .ok (.iconst 0, 1) := by decide +kernel
theorem dL_ropes_516 : decode cL_ropes 516 = .ok (.iaload, 1) := by decide +kernel
theorem dL_ropes_517 : decode cL_ropes 517 = .ok (.if_icmp .ne 42, 3) := by decide +kernel
theorem dL_ropes_520 : decode cL_ropes 520 = .ok (.aload_n 0, 1) := by decide +kernel
theorem dL_ropes_521 : decode cL_ropes 521 = .ok (.bipush 6, 2) := by decide +kernel
theorem dL_ropes_523 : decode cL_ropes 523 = .ok (.invokevirtual 34, 3) := by decide +kernel
theorem dL_ropes_526 : decode cL_ropes 526 = .ok (.aload_n 2, 1) := by decide +kernel
theorem dL_ropes_527 : decode cL_ropes 527 = .ok (.iconst 1, 1) := by decide +kernel
theorem dL_ropes_528 : decode cL_ropes 528 = .ok (.iaload, 1) := by decide +kernel
theorem dL_ropes_529 : decode cL_ropes 529 = .ok (.if_icmp .ne 30, 3) := by decide +kernel
theorem dL_ropes_532 : decode cL_ropes 532 = .ok (.aload_n 0, 1) := by decide +kernel
theorem dL_ropes_533 : decode cL_ropes 533 = .ok (.bipush 7, 2) := by decide +kernel
theorem dL_ropes_535 : decode cL_ropes 535 = .ok (.invokevirtual 34, 3) := by decide +kernel
theorem dL_ropes_538 : decode cL_ropes 538 = .ok (.aload_n 2, 1) := by decide +kernel
theorem dL_ropes_539 : decode cL_ropes 539 = .ok (.iconst 2, 1) := by decide +kernel
theorem dL_ropes_540 : decode cL_ropes 540 = .ok (.iaload, 1) := by decide +kernel
theorem dL_ropes_541 : decode cL_ropes 541 = .ok (.if_icmp .ne 18, 3) := by decide +kernel
theorem dL_ropes_544 : decode cL_ropes 544 = .ok (.aload_n 0, 1) := by decide +kernel
theorem dL_ropes_545 : decode cL_ropes 545 = .ok (.iconst 1, 1) := by decide +kernel
theorem dL_ropes_546 : decode cL_ropes 546 = .ok (.invokevirtual 34, 3) := by decide +kernel
theorem dL_ropes_549 : decode cL_ropes 549 = .ok (.aload_n 2, 1) := by decide +kernel
theorem dL_ropes_550 : decode cL_ropes 550 = .ok (.iconst 3, 1) := by decide +kernel
theorem dL_ropes_551 : decode cL_ropes 551 = .ok (.iaload, 1) := by decide +kernel
theorem dL_ropes_552 : decode cL_ropes 552 = .ok (.if_icmp .ne 7, 3) := by decide +kernel
theorem dL_ropes_555 : decode cL_ropes 555 = .ok (.iconst 1, 1) := by decide +kernel
theorem dL_ropes_556 : decode cL_ropes 556 = .ok (.goto 4, 3) := by decide +kernel
theorem dL_ropes_559 : decode cL_ropes 559 = .ok (.iconst 0, 1) := by decide +kernel
theorem dL_ropes_560 : decode cL_ropes 560 = .ok (.istore 9, 2) := by decide +kernel
theorem dL_ropes_562 : decode cL_ropes 562 = .ok (.iload 9, 2) := by decide +kernel
theorem dL_ropes_564 : decode cL_ropes 564 = .ok (.ifCond .eq 102, 3) := by decide +kernel
theorem dL_ropes_567 : decode cL_ropes 567 = .ok (.aload_n 0, 1) := by decide +kernel
theorem dL_ropes_568 : decode cL_ropes 568 = .ok (.iconst 4, 1) := by decide +kernel
theorem dL_ropes_569 : decode cL_ropes 569 = .ok (.invokevirtual 34, 3) := by decide +kernel
theorem dL_ropes_572 : decode cL_ropes 572 = .ok (.iload 7, 2) := by decide +kernel
theorem dL_ropes_574 : decode cL_ropes 574 = .ok (.aload_n 0, 1) := by decide +kernel
theorem dL_ropes_575 : decode cL_ropes 575 = .ok (.iconst 1, 1) := by decide +kernel
theorem dL_ropes_576 : decode cL_ropes 576 = .ok (.invokevirtual 34, 3) := by decide +kernel
theorem dL_ropes_579 : decode cL_ropes 579 = .ok (.iadd, 1) := by decide +kernel
theorem dL_ropes_580 : decode cL_ropes 580 = .ok (.aload_n 0, 1) := by decide +kernel
theorem dL_ropes_581 : decode cL_ropes 581 = .ok (.bipush 8, 2) := by decide +kernel
theorem dL_ropes_583 : decode cL_ropes 583 = .ok (.invokevirtual 34, 3) := by decide +kernel
theorem dL_ropes_586 : decode cL_ropes 586 = .ok (.iadd, 1) := by decide +kernel
theorem dL_ropes_587 : decode cL_ropes 587 = .ok (.if_icmp .ne 79, 3) := by decide +kernel
theorem dL_ropes_590 : decode cL_ropes 590 = .ok (.aload_n 0, 1) := by decide +kernel
theorem dL_ropes_591 : decode cL_ropes 591 = .ok (.bipush 9, 2) := by decide +kernel
theorem dL_ropes_593 : decode cL_ropes 593 = .ok (.invokevirtual 34, 3) := by decide +kernel
theorem dL_ropes_596 : decode cL_ropes 596 = .ok (.iload_n 3, 1) := by decide +kernel
theorem dL_ropes_597 : decode cL_ropes 597 = .ok (.if_icmp .ne 69, 3) := by decide +kernel
theorem dL_ropes_600 : decode cL_ropes 600 = .ok (.aload_n 0, 1) := by decide +kernel
theorem dL_ropes_601 : decode cL_ropes 601 = .ok (.invokevirtual 136, 3) := by decide +kernel
theorem dL_ropes_604 : decode cL_ropes 604 = .ok (.dload 5, 2) := by decide +kernel
theorem dL_ropes_606 : decode cL_ropes 606 = .ok (.dcmp .l, 1) := by decide +kernel
theorem dL_ropes_607 : decode cL_ropes 607 = .ok (.ifCond .ne 59, 3) := by decide +kernel
theorem dL_ropes_610 : decode cL_ropes 610 = .ok (.aload_n 0, 1) := by decide +kernel
theorem dL_ropes_611 : decode cL_ropes 611 = .ok (.invokevirtual 140, 3) := by decide +kernel
theorem dL_ropes_614 : decode cL_ropes 614 = .ok (.fload 8, 2) := by decide +kernel
theorem dL_ropes_616 : decode cL_ropes 616 = .ok (.fcmp .l, 1) := by decide +kernel
theorem dL_ropes_617 : decode cL_ropes 617 = .ok (.ifCond .ne 49, 3) := by decide +kernel
theorem dL_ropes_620 : decode cL_ropes 620 = .ok (.aload_n 0, 1) := by decide +kernel
theorem dL_ropes_621 : decode cL_ropes 621 = .ok (.invokevirtual 144, 3) := by decide +kernel
theorem dL_ropes_624 : decode cL_ropes 624 = .ok (.iconst 1, 1) := by decide +kernel
theorem dL_ropes_625 : decode cL_ropes 625 = .ok (.if_icmp .ne 41, 3) := by decide +kernel
theorem dL_ropes_628 : decode cL_ropes 628 = .ok (.aload_n 0, 1) := by decide +kernel
theorem dL_ropes_629 : decode cL_ropes 629 = .ok (.iload_n 1, 1) := by decide +kernel
theorem dL_ropes_630 : decode cL_ropes 630 = .ok (.invokevirtual 126, 3) := by decide +kernel
theorem dL_ropes_633 : decode cL_ropes 633 = .ok (.sipush (-1011), 3) := by decide +kernel
theorem dL_ropes_636 : decode cL_ropes 636 = .ok (.if_icmp .ne 30, 3) := by decide +kernel
theorem dL_ropes_639 : decode cL_ropes 639 = .ok (.aload_n 0, 1) := by decide +kernel
theorem dL_ropes_640 : decode cL_ropes 640 = .ok (.iload_n 1, 1) := by decide +kernel
theorem dL_ropes_641 : decode cL_ropes 641 = .ok (.invokevirtual 90, 3) := by decide +kernel
theorem dL_ropes_644 : decode cL_ropes 644 = .ok (.sipush (-1011), 3) := by decide +kernel
theorem dL_ropes_647 : decode cL_ropes 647 = .ok (.if_icmp .ne 19, 3) := by decide +kernel
theorem dL_ropes_650 : decode cL_ropes 650 = .ok (.aload_n 0, 1) := by decide +kernel
theorem dL_ropes_651 : decode cL_ropes 651 = .ok (.iload_n 1, 1) := by decide +kernel
theorem dL_ropes_652 : decode cL_ropes 652 = .ok (.iconst 5, 1) := by decide +kernel
theorem dL_ropes_653 : decode cL_ropes 653 = .ok (.invokevirtual 129, 3) := by decide +kernel
theorem dL_ropes_656 : decode cL_ropes 656 = .ok (.sipush (-1011), 3) := by decide +kernel
theorem dL_ropes_659 : decode cL_ropes 659 = .ok (.if_icmp .ne 7, 3) := by decide +kernel
theorem dL_ropes_662 : decode cL_ropes 662 = .ok (.iconst 1, 1) := by decide +kernel
theorem dL_ropes_663 : decode cL_ropes 663 = .ok (.goto 4, 3) := by decide +kernel
theorem dL_ropes_666 : decode cL_ropes 666 = .ok (.iconst 0, 1) := by decide +kernel
theorem dL_ropes_667 : decode cL_ropes 667 = .ok (.ireturn, 1) := by decide +kernel
theorem dL_guess_0 : decode cL_guess 0 = .ok (.iconst 4, 1) := by decide +kernel
theorem dL_guess_1 : decode cL_guess 1 = .ok (.newarray .int, 2) := by decide +kernel
theorem dL_guess_3 : decode cL_guess 3 = .ok (.astore_n 2, 1) := by decide +kernel
theorem dL_guess_4 : decode cL_guess 4 = .ok (.iconst 4, 1) := by decide +kernel
theorem dL_guess_5 : decode cL_guess 5 = .ok (.newarray .int, 2) := by decide +kernel
theorem dL_guess_7 : decode cL_guess 7 = .ok (.astore_n 3, 1) := by decide +kernel
theorem dL_guess_8 : decode cL_guess 8 = .ok (.iconst 0, 1) := by decide +kernel
theorem dL_guess_9 : decode cL_guess 9 = .ok (.istore 4, 2) := by decide +kernel
theorem dL_guess_11 : decode cL_guess 11 = .ok (.iload 4, 2) := by decide +kernel
theorem dL_guess_13 : decode cL_guess 13 = .ok (.aload_n 0, 1) := by decide +kernel
theorem dL_guess_14 : decode cL_guess 14 = .ok (.iconst 0, 1) := by decide +kernel
theorem dL_guess_15 : decode cL_guess 15 = .ok (.invokevirtual 34, 3) := by decide +kernel
theorem dL_guess_18 : decode cL_guess 18 = .ok (.if_icmp .ge 44, 3) := by decide +kernel
theorem dL_guess_21 : decode cL_guess 21 = .ok (.aload_n 3, 1) := by decide +kernel
theorem dL_guess_22 : decode cL_guess 22 = .ok (.aload_n 0, 1) := by decide +kernel
theorem dL_guess_23 : decode cL_guess 23 = .ok (.iload 4, 2) := by decide +kernel
theorem dL_guess_25 : decode cL_guess 25 = .ok (.iconst 0, 1) := by decide +kernel
theorem dL_guess_26 : decode cL_guess 26 = .ok (.invokevirtual 100, 3) := by decide +kernel
theorem dL_guess_29 : decode cL_guess 29 = .ok (.dup2, 1) := by decide +kernel
theorem dL_guess_30 : decode cL_guess 30 = .ok (.iaload, 1) := by decide +kernel
theorem dL_guess_31 : decode cL_guess 31 = .ok (.iconst 1, 1) := by decide +kernel
theorem dL_guess_32 : decode cL_guess 32 = .ok (.iadd, 1) := by decide +kernel
theorem dL_guess_33 : decode cL_guess 33 = .ok (.iastore, 1) := by decide +kernel
theorem dL_guess_34 : decode cL_guess 34 = .ok (.aload_n 2, 1) := by decide +kernel
theorem dL_guess_35 : decode cL_guess 35 = .ok (.aload_n 0, 1) := by decide +kernel
theorem dL_guess_36 : decode cL_guess 36 = .ok (.iload 4, 2) := by decide +kernel
theorem dL_guess_38 : decode cL_guess 38 = .ok (.iconst 0, 1) := by decide +kernel
theorem dL_guess_39 : decode cL_guess 39 = .ok (.invokevirtual 100, 3) := by decide +kernel
theorem dL_guess_42 : decode cL_guess 42 = .ok (.dup2, 1) := by decide +kernel
theorem dL_guess_43 : decode cL_guess 43 = .ok (.iaload, 1) := by decide +kernel
theorem dL_guess_44 : decode cL_guess 44 = .ok (.aload_n 0, 1) := by decide +kernel
theorem dL_guess_45 : decode cL_guess 45 = .ok (.iload_n 1, 1) := by decide +kernel
theorem dL_guess_46 : decode cL_guess 46 = .ok (.invokevirtual 103, 3) := by decide +kernel
theorem dL_guess_49 : decode cL_guess 49 = .ok (.iload 4, 2) := by decide +kernel
theorem dL_guess_51 : decode cL_guess 51 = .ok (.ishr, 1) := by decide +kernel
theorem dL_guess_52 : decode cL_guess 52 = .ok (.iconst 1, 1) := by decide +kernel
theorem dL_guess_53 : decode cL_guess 53 = .ok (.iand, 1) := by decide +kernel
theorem dL_guess_54 : decode cL_guess 54 = .ok (.iadd, 1) := by decide +kernel
theorem dL_guess_55 : decode cL_guess 55 = .ok (.iastore, 1) := by decide +kernel
theorem dL_guess_56 : decode cL_guess 56 = .ok (.iinc 4 1, 3) := by decide +kernel
theorem dL_guess_59 : decode cL_guess 59 = .ok (.goto (-48), 3) := by decide +kernel
theorem dL_guess_62 : decode cL_guess 62 = .ok (.sipush (-1015), 3) := by decide +kernel
theorem dL_guess_65 : decode cL_guess 65 = .ok (.istore 4, 2) := by decide +kernel
theorem dL_guess_67 : decode cL_guess 67 = .ok (.iconst 3, 1) := by decide +kernel
theorem dL_guess_68 : decode cL_guess 68 = .ok (.istore 5, 2) := by decide +kernel
theorem dL_guess_70 : decode cL_guess 70 = .ok (.iload 5, 2) := by decide +kernel
theorem dL_guess_72 : decode cL_guess 72 = .ok (.ifCond .lt 81, 3) := by decide +kernel
theorem dL_guess_75 : decode cL_guess 75 = .ok (.iload 4, 2) := by decide +kernel
theorem dL_guess_77 : decode cL_guess 77 = .ok (.ifCond .ge 7, 3) := by decide +kernel
theorem dL_guess_80 : decode cL_guess 80 = .ok (.iconst 1, 1) := by decide +kernel
theorem dL_guess_81 : decode cL_guess 81 = .ok (.goto 22, 3) := by decide +kernel
theorem dL_guess_84 : decode cL_guess 84 = .ok (.aload_n 2, 1) := by decide +kernel
theorem dL_guess_85 : decode cL_guess 85 = .ok (.iload 5, 2) := by decide +kernel
theorem dL_guess_87 : decode cL_guess 87 = .ok (.iaload, 1) := by decide +kernel
theorem dL_guess_88 : decode cL_guess 88 = .ok (.aload_n 3, 1) := by decide +kernel
theorem dL_guess_89 : decode cL_guess 89 = .ok (.iload 4, 2) := by decide +kernel
theorem dL_guess_91 : decode cL_guess 91 = .ok (.iaload, 1) := by decide +kernel
theorem dL_guess_92 : decode cL_guess 92 = .ok (.imul, 1) := by decide +kernel
theorem dL_guess_93 : decode cL_guess 93 = .ok (.aload_n 2, 1) := by decide +kernel
theorem dL_guess_94 : decode cL_guess 94 = .ok (.iload 4, 2) := by decide +kernel
theorem dL_guess_96 : decode cL_guess 96 = .ok (.iaload, 1) := by decide +kernel
theorem dL_guess_97 : decode cL_guess 97 = .ok (.aload_n 3, 1) := by decide +kernel
theorem dL_guess_98 : decode cL_guess 98 = .ok (.iload 5, 2) := by decide +kernel
theorem dL_guess_100 : decode cL_guess 100 = .ok (.iaload, 1) := by decide +kernel
theorem dL_guess_101 : decode cL_guess 101 = .ok (.imul, 1) := by decide +kernel
theorem dL_guess_102 : decode cL_guess 102 = .ok (.isub, 1) := by decide +kernel
theorem dL_guess_103 : decode cL_guess 103 = .ok (.istore 6, 2) := by decide +kernel
theorem dL_guess_105 : decode cL_guess 105 = .ok (.iload 6, 2) := by decide +kernel
theorem dL_guess_107 : decode cL_guess 107 = .ok (.ifCond .eq 8, 3) := by decide +kernel
theorem dL_guess_110 : decode cL_guess 110 = .ok (.iload 6, 2) := by decide +kernel
theorem dL_guess_112 : decode cL_guess 112 = .ok (.goto 12, 3) := by decide +kernel
theorem dL_guess_115 : decode cL_guess 115 = .ok (.aload_n 2, 1) := by decide +kernel
theorem dL_guess_116 : decode cL_guess 116 = .ok (.iload 5, 2) := by decide +kernel
theorem dL_guess_118 : decode cL_guess 118 = .ok (.iaload, 1) := by decide +kernel
theorem dL_guess_119 : decode cL_guess 119 = .ok (.aload_n 2, 1) := by decide +kernel
theorem dL_guess_120 : decode cL_guess 120 = .ok (.iload 4, 2) := by decide +kernel
theorem dL_guess_122 : decode cL_guess 122 = .ok (.iaload, 1) := by decide +kernel
theorem dL_guess_123 : decode cL_guess 123 = .ok (.isub, 1) := by decide +kernel
theorem dL_guess_124 : decode cL_guess 124 = .ok (.istore 6, 2) := by decide +kernel
theorem dL_guess_126 : decode cL_guess 126 = .ok (.aload_n 2, 1) := by decide +kernel
theorem dL_guess_127 : decode cL_guess 127 = .ok (.iload 5, 2) := by decide +kernel
theorem dL_guess_129 : decode cL_guess 129 = .ok (.iaload, 1) := by decide +kernel
theorem dL_guess_130 : decode cL_guess 130 = .ok (.ifCond .le 13, 3) := by decide +kernel
theorem dL_guess_133 : decode cL_guess 133 = .ok (.iload 6, 2) := by decide +kernel
theorem dL_guess_135 : decode cL_guess 135 = .ok (.ifCond .lt 8, 3) := by decide +kernel
theorem dL_guess_138 : decode cL_guess 138 = .ok (.iload 5, 2) := by decide +kernel
theorem dL_guess_140 : decode cL_guess 140 = .ok (.goto 5, 3) := by decide +kernel
theorem dL_guess_143 : decode cL_guess 143 = .ok (.iload 4, 2) := by decide +kernel
theorem dL_guess_145 : decode cL_guess 145 = .ok (.istore 4, 2) := by decide +kernel
theorem dL_guess_147 : decode cL_guess 147 = .ok (.iinc 5 (-1), 3) := by decide +kernel
theorem dL_guess_150 : decode cL_guess 150 = .ok (.goto (-80), 3) := by decide +kernel
theorem dL_guess_153 : decode cL_guess 153 = .ok (.iload 4, 2) := by decide +kernel
theorem dL_guess_155 : decode cL_guess 155 = .ok (.ireturn, 1) := by decide +kernel
theorem dL_parishes_0 : decode cL_parishes 0 = .ok (.iconst 4, 1) := by decide +kernel
theorem dL_parishes_1 : decode cL_parishes 1 = .ok (.newarray .int, 2) := by decide +kernel
theorem dL_parishes_3 : decode cL_parishes 3 = .ok (.astore_n 1, 1) := by decide +kernel
theorem dL_parishes_4 : decode cL_parishes 4 = .ok (.sipush (-1015), 3) := by decide +kernel
theorem dL_parishes_7 : decode cL_parishes 7 = .ok (.istore_n 2, 1) := by decide +kernel
theorem dL_parishes_8 : decode cL_parishes 8 = .ok (.new 74, 3) := by decide +kernel
theorem dL_parishes_11 : decode cL_parishes 11 = .ok (.dup, 1) := by decide +kernel
theorem dL_parishes_12 : decode cL_parishes 12 = .ok (.invokespecial 76, 3) := by decide +kernel
theorem dL_parishes_15 : decode cL_parishes 15 = .ok (.astore_n 3, 1) := by decide +kernel
theorem dL_parishes_16 : decode cL_parishes 16 = .ok (.iconst 0, 1) := by decide +kernel
theorem dL_parishes_17 : decode cL_parishes 17 = .ok (.istore 4, 2) := by decide +kernel
theorem dL_parishes_19 : decode cL_parishes 19 = .ok (.iload 4, 2) := by decide +kernel
theorem dL_parishes_21 : decode cL_parishes 21 = .ok (.bipush 24, 2) := by decide +kernel
theorem dL_parishes_23 : decode cL_parishes 23 = .ok (.if_icmp .ge 139, 3) := by decide +kernel
theorem dL_parishes_26 : decode cL_parishes 26 = .ok (.aload_n 0, 1) := by decide +kernel
theorem dL_parishes_27 : decode cL_parishes 27 = .ok (.iload 4, 2) := by decide +kernel
theorem dL_parishes_29 : decode cL_parishes 29 = .ok (.invokestatic 147, 3) := by decide +kernel
theorem dL_parishes_32 : decode cL_parishes 32 = .ok (.istore 5, 2) := by decide +kernel
theorem dL_parishes_34 : decode cL_parishes 34 = .ok (.iload 5, 2) := by decide +kernel
theorem dL_parishes_36 : decode cL_parishes 36 = .ok (.ifCond .lt 45, 3) := by decide +kernel
theorem dL_parishes_39 : decode cL_parishes 39 = .ok (.aload_n 1, 1) := by decide +kernel
theorem dL_parishes_40 : decode cL_parishes 40 = .ok (.iload 5, 2) := by decide +kernel
theorem dL_parishes_42 : decode cL_parishes 42 = .ok (.dup2, 1) := by decide +kernel
theorem dL_parishes_43 : decode cL_parishes 43 = .ok (.iaload, 1) := by decide +kernel
theorem dL_parishes_44 : decode cL_parishes 44 = .ok (.iconst 1, 1) := by decide +kernel
theorem dL_parishes_45 : decode cL_parishes 45 = .ok (.iadd, 1) := by decide +kernel
theorem dL_parishes_46 : decode cL_parishes 46 = .ok (.iastore, 1) := by decide +kernel
theorem dL_parishes_47 : decode cL_parishes 47 = .ok (.aload_n 3, 1) := by decide +kernel
theorem dL_parishes_48 : decode cL_parishes 48 = .ok (.aload_n 3, 1) := by decide +kernel
theorem dL_parishes_49 : decode cL_parishes 49 = .ok (.invokevirtual 151, 3) := by decide +kernel
theorem dL_parishes_52 : decode cL_parishes 52 = .ok (.ifCond .ne 8, 3) := by decide +kernel
theorem dL_parishes_55 : decode cL_parishes 55 = .ok (.ldc 118, 2) := by decide +kernel
theorem dL_parishes_57 : decode cL_parishes 57 = .ok (.goto 5, 3) := by decide +kernel
theorem dL_parishes_60 : decode cL_parishes 60 = .ok (.ldc 152, 2) := by decide +kernel
theorem dL_parishes_62 : decode cL_parishes 62 = .ok (.invokevirtual 97, 3) := by decide +kernel
theorem dL_parishes_65 : decode cL_parishes 65 = .ok (.iload 4, 2) := by decide +kernel
theorem dL_parishes_67 : decode cL_parishes 67 = .ok (.invokevirtual 87, 3) := by decide +kernel
theorem dL_parishes_70 : decode cL_parishes 70 = .ok (.bipush 61, 2) := by decide +kernel
theorem dL_parishes_72 : decode cL_parishes 72 = .ok (.invokevirtual 80, 3) := by decide +kernel
theorem dL_parishes_75 : decode cL_parishes 75 = .ok (.iload 5, 2) := by decide +kernel
theorem dL_parishes_77 : decode cL_parishes 77 = .ok (.invokevirtual 87, 3) := by decide +kernel
theorem dL_parishes_80 : decode cL_parishes 80 = .ok (.pop, 1) := by decide +kernel
theorem dL_parishes_81 : decode cL_parishes 81 = .ok (.iload 5, 2) := by decide +kernel
theorem dL_parishes_83 : decode cL_parishes 83 = .ok (.ifCond .lt 32, 3) := by decide +kernel
theorem dL_parishes_86 : decode cL_parishes 86 = .ok (.iload_n 2, 1) := by decide +kernel
theorem dL_parishes_87 : decode cL_parishes 87 = .ok (.ifCond .lt 23, 3) := by decide +kernel
theorem dL_parishes_90 : decode cL_parishes 90 = .ok (.aload_n 0, 1) := by decide +kernel
theorem dL_parishes_91 : decode cL_parishes 91 = .ok (.iload 4, 2) := by decide +kernel
theorem dL_parishes_93 : decode cL_parishes 93 = .ok (.invokevirtual 103, 3) := by decide +kernel
theorem dL_parishes_96 : decode cL_parishes 96 = .ok (.invokestatic 154, 3) := by decide +kernel
theorem dL_parishes_99 : decode cL_parishes 99 = .ok (.aload_n 0, 1) := by decide +kernel
theorem dL_parishes_100 : decode cL_parishes 100 = .ok (.iload_n 2, 1) := by decide +kernel
theorem dL_parishes_101 : decode cL_parishes 101 = .ok (.invokevirtual 103, 3) := by decide +kernel
theorem dL_parishes_104 : decode cL_parishes 104 = .ok (.invokestatic 154, 3) := by decide +kernel
theorem dL_parishes_107 : decode cL_parishes 107 = .ok (.if_icmp .le 8, 3) := by decide +kernel
theorem dL_parishes_110 : decode cL_parishes 110 = .ok (.iload 4, 2) := by decide +kernel
theorem dL_parishes_112 : decode cL_parishes 112 = .ok (.goto 4, 3) := by decide +kernel
theorem dL_parishes_115 : decode cL_parishes 115 = .ok (.iload_n 2, 1) := by decide +kernel
theorem dL_parishes_116 : decode cL_parishes 116 = .ok (.istore_n 2, 1) := by decide +kernel
theorem dL_parishes_117 : decode cL_parishes 117 = .ok (.aload_n 0, 1) := by decide +kernel
theorem dL_parishes_118 : decode cL_parishes 118 = .ok (.iload 4, 2) := by decide +kernel
theorem dL_parishes_120 : decode cL_parishes 120 = .ok (.invokevirtual 159, 3) := by decide +kernel
theorem dL_parishes_123 : decode cL_parishes 123 = .ok (.iload 5, 2) := by decide +kernel
theorem dL_parishes_125 : decode cL_parishes 125 = .ok (.if_icmp .ne 29, 3) := by decide +kernel
theorem dL_parishes_128 : decode cL_parishes 128 = .ok (.aload_n 0, 1) := by decide +kernel
theorem dL_parishes_129 : decode cL_parishes 129 = .ok (.iload 4, 2) := by decide +kernel
theorem dL_parishes_131 : decode cL_parishes 131 = .ok (.invokevirtual 161, 3) := by decide +kernel
theorem dL_parishes_134 : decode cL_parishes 134 = .ok (.iload 5, 2) := by decide +kernel
theorem dL_parishes_136 : decode cL_parishes 136 = .ok (.if_icmp .ne 18, 3) := by decide +kernel
theorem dL_parishes_139 : decode cL_parishes 139 = .ok (.iload 4, 2) := by decide +kernel
theorem dL_parishes_141 : decode cL_parishes 141 = .ok (.aload_n 0, 1) := by decide +kernel
theorem dL_parishes_142 : decode cL_parishes 142 = .ok (.iconst 2, 1) := by decide +kernel
theorem dL_parishes_143 : decode cL_parishes 143 = .ok (.invokevirtual 34, 3) := by decide +kernel
theorem dL_parishes_146 : decode cL_parishes 146 = .ok (.if_icmp .le 10, 3) := by decide +kernel
theorem dL_parishes_149 : decode cL_parishes 149 = .ok (.iload 5, 2) := by decide +kernel
theorem dL_parishes_151 : decode cL_parishes 151 = .ok (.ifCond .lt 5, 3) := by decide +kernel
theorem dL_parishes_154 : decode cL_parishes 154 = .ok (.iconst 0, 1) := by decide +kernel
theorem dL_parishes_155 : decode cL_parishes 155 = .ok (.ireturn, 1) := by decide +kernel
theorem dL_parishes_156 : decode cL_parishes 156 = .ok (.iinc 4 1, 3) := by decide +kernel
theorem dL_parishes_159 : decode cL_parishes 159 = .ok (.goto (-140), 3) := by decide +kernel
theorem dL_parishes_162 : decode cL_parishes 162 = .ok (.iconst (-1), 1) := by decide +kernel
theorem dL_parishes_163 : decode cL_parishes 163 = .ok (.istore 4, 2) := by decide +kernel
theorem dL_parishes_165 : decode cL_parishes 165 = .ok (.iconst 0, 1) := by decide +kernel
theorem dL_parishes_166 : decode cL_parishes 166 = .ok (.istore 5, 2) := by decide +kernel
theorem dL_parishes_168 : decode cL_parishes 168 = .ok (.iload 5, 2) := by decide +kernel
theorem dL_parishes_170 : decode cL_parishes 170 = .ok (.iconst 4, 1) := by decide +kernel
theorem dL_parishes_171 : decode cL_parishes 171 = .ok (.if_icmp .ge 264, 3) := by decide +kernel
theorem dL_parishes_174 : decode cL_parishes 174 = .ok (.iconst 5, 1) := by decide +kernel
theorem dL_parishes_175 : decode cL_parishes 175 = .ok (.newarray .int, 2) := by decide +kernel
theorem dL_parishes_177 : decode cL_parishes 177 = .ok (.astore 6, 2) := by decide +kernel
theorem dL_parishes_179 : decode cL_parishes 179 = .ok (.iconst 0, 1) := by decide +kernel
theorem dL_parishes_180 : decode cL_parishes 180 = .ok (.istore 7, 2) := by decide +kernel
theorem dL_parishes_182 : decode cL_parishes 182 = .ok (.iload 7, 2) := by decide +kernel
theorem dL_parishes_184 : decode cL_parishes 184 = .ok (.aload_n 0, 1) := by decide +kernel
theorem dL_parishes_185 : decode cL_parishes 185 = .ok (.iconst 0, 1) := by decide +kernel
theorem dL_parishes_186 : decode cL_parishes 186 = .ok (.invokevirtual 34, 3) := by decide +kernel
theorem dL_parishes_189 : decode cL_parishes 189 = .ok (.if_icmp .ge 115, 3) := by decide +kernel
theorem dL_parishes_192 : decode cL_parishes 192 = .ok (.aload_n 0, 1) := by decide +kernel
theorem dL_parishes_193 : decode cL_parishes 193 = .ok (.iload 7, 2) := by decide +kernel
theorem dL_parishes_195 : decode cL_parishes 195 = .ok (.iconst 0, 1) := by decide +kernel
theorem dL_parishes_196 : decode cL_parishes 196 = .ok (.invokevirtual 100, 3) := by decide +kernel
theorem dL_parishes_199 : decode cL_parishes 199 = .ok (.iload 5, 2) := by decide +kernel
theorem dL_parishes_201 : decode cL_parishes 201 = .ok (.if_icmp .ne 7, 3) := by decide +kernel
theorem dL_parishes_204 : decode cL_parishes 204 = .ok (.iconst 1, 1) := by decide +kernel
theorem dL_parishes_205 : decode cL_parishes 205 = .ok (.goto 4, 3) := by decide +kernel
theorem dL_parishes_208 : decode cL_parishes 208 = .ok (.iconst 0, 1) := by decide +kernel
theorem dL_parishes_209 : decode cL_parishes 209 = .ok (.istore 8, 2) := by decide +kernel
theorem dL_parishes_211 : decode cL_parishes 211 = .ok (.aload 6, 2) := by decide +kernel
theorem dL_parishes_213 : decode cL_parishes 213 = .ok (.iconst 0, 1) := by decide +kernel
theorem dL_parishes_214 : decode cL_parishes 214 = .ok (.dup2, 1) := by decide +kernel
theorem dL_parishes_215 : decode cL_parishes 215 = .ok (.iaload, 1) := by decide +kernel
theorem dL_parishes_216 : decode cL_parishes 216 = .ok (.iload 8, 2) := by decide +kernel
theorem dL_parishes_218 : decode cL_parishes 218 = .ok (.ifCond .eq 7, 3) := by decide +kernel
theorem dL_parishes_221 : decode cL_parishes 221 = .ok (.iconst 1, 1) := by decide +kernel
theorem dL_parishes_222 : decode cL_parishes 222 = .ok (.goto 4, 3) := by decide +kernel
theorem dL_parishes_225 : decode cL_parishes 225 = .ok (.iconst 0, 1) := by decide +kernel
theorem dL_parishes_226 : decode cL_parishes 226 = .ok (.iadd, 1) := by decide +kernel
theorem dL_parishes_227 : decode cL_parishes 227 = .ok (.iastore, 1) := by decide +kernel
theorem dL_parishes_228 : decode cL_parishes 228 = .ok (.aload 6, 2) := by decide +kernel
theorem dL_parishes_230 : decode cL_parishes 230 = .ok (.iconst 1, 1) := by decide +kernel
theorem dL_parishes_231 : decode cL_parishes 231 = .ok (.dup2, 1) := by decide +kernel
theorem dL_parishes_232 : decode cL_parishes 232 = .ok (.iaload, 1) := by decide +kernel
theorem dL_parishes_233 : decode cL_parishes 233 = .ok (.iload 8, 2) := by decide +kernel
theorem dL_parishes_235 : decode cL_parishes 235 = .ok (.ifCond .eq 13, 3) := by decide +kernel
theorem dL_parishes_238 : decode cL_parishes 238 = .ok (.aload_n 0, 1) := by decide +kernel
theorem dL_parishes_239 : decode cL_parishes 239 = .ok (.iload 7, 2) := by decide +kernel
theorem dL_parishes_241 : decode cL_parishes 241 = .ok (.iconst 3, 1) := by decide +kernel
theorem dL_parishes_242 : decode cL_parishes 242 = .ok (.invokevirtual 100, 3) := by decide +kernel
theorem dL_parishes_245 : decode cL_parishes 245 = .ok (.goto 4, 3) := by decide +kernel
theorem dL_parishes_248 : decode cL_parishes 248 = .ok (.iconst 0, 1) := by decide +kernel
theorem dL_parishes_249 : decode cL_parishes 249 = .ok (.iadd, 1) := by decide +kernel
theorem dL_parishes_250 : decode cL_parishes 250 = .ok (.iastore, 1) := by decide +kernel
theorem dL_parishes_251 : decode cL_parishes 251 = .ok (.aload 6, 2) := by decide +kernel
theorem dL_parishes_253 : decode cL_parishes 253 = .ok (.iconst 2, 1) := by decide +kernel
theorem dL_parishes_254 : decode cL_parishes 254 = .ok (.dup2, 1) := by decide +kernel
theorem dL_parishes_255 : decode cL_parishes 255 = .ok (.iaload, 1) := by decide +kernel
theorem dL_parishes_256 : decode cL_parishes 256 = .ok (.iload 8, 2) := by decide +kernel
theorem dL_parishes_258 : decode cL_parishes 258 = .ok (.ifCond .eq 13, 3) := by decide +kernel
theorem dL_parishes_261 : decode cL_parishes 261 = .ok (.aload_n 0, 1) := by decide +kernel
theorem dL_parishes_262 : decode cL_parishes 262 = .ok (.iload 7, 2) := by decide +kernel
theorem dL_parishes_264 : decode cL_parishes 264 = .ok (.iconst 2, 1) := by decide +kernel
theorem dL_parishes_265 : decode cL_parishes 265 = .ok (.invokevirtual 100, 3) := by decide +kernel
theorem dL_parishes_268 : decode cL_parishes 268 = .ok (.goto 4, 3) := by decide +kernel
theorem dL_parishes_271 : decode cL_parishes 271 = .ok (.iconst 0, 1) := by decide +kernel
theorem dL_parishes_272 : decode cL_parishes 272 = .ok (.iadd, 1) := by decide +kernel
theorem dL_parishes_273 : decode cL_parishes 273 = .ok (.iastore, 1) := by decide +kernel
theorem dL_parishes_274 : decode cL_parishes 274 = .ok (.aload 6, 2) := by decide +kernel
theorem dL_parishes_276 : decode cL_parishes 276 = .ok (.iconst 4, 1) := by decide +kernel
theorem dL_parishes_277 : decode cL_parishes 277 = .ok (.dup2, 1) := by decide +kernel
theorem dL_parishes_278 : decode cL_parishes 278 = .ok (.iaload, 1) := by decide +kernel
theorem dL_parishes_279 : decode cL_parishes 279 = .ok (.iload 8, 2) := by decide +kernel
theorem dL_parishes_281 : decode cL_parishes 281 = .ok (.ifCond .eq 14, 3) := by decide +kernel
theorem dL_parishes_284 : decode cL_parishes 284 = .ok (.aload_n 0, 1) := by decide +kernel
theorem dL_parishes_285 : decode cL_parishes 285 = .ok (.iload 7, 2) := by decide +kernel
theorem dL_parishes_287 : decode cL_parishes 287 = .ok (.bipush 6, 2) := by decide +kernel
theorem dL_parishes_289 : decode cL_parishes 289 = .ok (.invokevirtual 100, 3) := by decide +kernel
theorem dL_parishes_292 : decode cL_parishes 292 = .ok (.goto 4, 3) := by decide +kernel
theorem dL_parishes_295 : decode cL_parishes 295 = .ok (.iconst 0, 1) := by decide +kernel
theorem dL_parishes_296 : decode cL_parishes 296 = .ok (.iadd, 1) := by decide +kernel
theorem dL_parishes_297 : decode cL_parishes 297 = .ok (.iastore, 1) := by decide +kernel
theorem dL_parishes_298 : decode cL_parishes 298 = .ok (.iinc 7 1, 3) := by decide +kernel
theorem dL_parishes_301 : decode cL_parishes 301 = .ok (.goto (-119), 3) := by decide +kernel
theorem dL_parishes_304 : decode cL_parishes 304 = .ok (.aload 6, 2) := by decide +kernel
theorem dL_parishes_306 : decode cL_parishes 306 = .ok (.iconst 3, 1) := by decide +kernel
theorem dL_parishes_307 : decode cL_parishes 307 = .ok (.aload_n 1, 1) := by decide +kernel
theorem dL_parishes_308 : decode cL_parishes 308 = .ok (.iload 5, 2) := by decide +kernel
theorem dL_parishes_310 : decode cL_parishes 310 = .ok (.iaload, 1) := by decide +kernel
theorem dL_parishes_311 : decode cL_parishes 311 = .ok (.iastore, 1) := by decide +kernel
theorem dL_parishes_312 : decode cL_parishes 312 = .ok (.iconst 0, 1) := by decide +kernel
theorem dL_parishes_313 : decode cL_parishes 313 = .ok (.istore 7, 2) := by decide +kernel
theorem dL_parishes_315 : decode cL_parishes 315 = .ok (.iload 7, 2) := by decide +kernel
theorem dL_parishes_317 : decode cL_parishes 317 = .ok (.iconst 5, 1) := by decide +kernel
theorem dL_parishes_318 : decode cL_parishes 318 = .ok (.if_icmp .ge 27, 3) := by decide +kernel
theorem dL_parishes_321 : decode cL_parishes 321 = .ok (.aload_n 0, 1) := by decide +kernel
theorem dL_parishes_322 : decode cL_parishes 322 = .ok (.iload 5, 2) := by decide +kernel
theorem dL_parishes_324 : decode cL_parishes 324 = .ok (.iload 7, 2) := by decide +kernel
theorem dL_parishes_326 : decode cL_parishes 326 = .ok (.invokevirtual 164, 3) := by decide +kernel
theorem dL_parishes_329 : decode cL_parishes 329 = .ok (.aload 6, 2) := by decide +kernel
theorem dL_parishes_331 : decode cL_parishes 331 = .ok (.iload 7, 2) := by decide +kernel
theorem dL_parishes_333 : decode cL_parishes 333 = .ok (.iaload, 1) := by decide +kernel
theorem dL_parishes_334 : decode cL_parishes 334 = .ok (.if_icmp .eq 5, 3) := by decide +kernel
theorem dL_parishes_337 : decode cL_parishes 337 = .ok (.iconst 0, 1) := by decide +kernel
theorem dL_parishes_338 : decode cL_parishes 338 = .ok (.ireturn, 1) := by decide +kernel
theorem dL_parishes_339 : decode cL_parishes 339 = .ok (.iinc 7 1, 3) := by decide +kernel
theorem dL_parishes_342 : decode cL_parishes 342 = .ok (.goto (-27), 3) := by decide +kernel
theorem dL_parishes_345 : decode cL_parishes 345 = .ok (.aload_n 0, 1) := by decide +kernel
theorem dL_parishes_346 : decode cL_parishes 346 = .ok (.iload 5, 2) := by decide +kernel
theorem dL_parishes_348 : decode cL_parishes 348 = .ok (.invokevirtual 167, 3) := by decide +kernel
theorem dL_parishes_351 : decode cL_parishes 351 = .ok (.istore 7, 2) := by decide +kernel
theorem dL_parishes_353 : decode cL_parishes 353 = .ok (.iload 4, 2) := by decide +kernel
theorem dL_parishes_355 : decode cL_parishes 355 = .ok (.ifCond .ge 7, 3) := by decide +kernel
theorem dL_parishes_358 : decode cL_parishes 358 = .ok (.iconst 1, 1) := by decide +kernel
theorem dL_parishes_359 : decode cL_parishes 359 = .ok (.goto 18, 3) := by decide +kernel
theorem dL_parishes_362 : decode cL_parishes 362 = .ok (.aload_n 0, 1) := by decide +kernel
theorem dL_parishes_363 : decode cL_parishes 363 = .ok (.iload 4, 2) := by decide +kernel
theorem dL_parishes_365 : decode cL_parishes 365 = .ok (.iconst 1, 1) := by decide +kernel
theorem dL_parishes_366 : decode cL_parishes 366 = .ok (.invokevirtual 164, 3) := by decide +kernel
theorem dL_parishes_369 : decode cL_parishes 369 = .ok (.aload_n 0, 1) := by decide +kernel
theorem dL_parishes_370 : decode cL_parishes 370 = .ok (.iload 7, 2) := by decide +kernel
theorem dL_parishes_372 : decode cL_parishes 372 = .ok (.iconst 1, 1) := by decide +kernel
theorem dL_parishes_373 : decode cL_parishes 373 = .ok (.invokevirtual 164, 3) := by decide +kernel
theorem dL_parishes_376 : decode cL_parishes 376 = .ok (.isub, 1) := by decide +kernel
theorem dL_parishes_377 : decode cL_parishes 377 = .ok (.istore 8, 2) := by decide +kernel
theorem dL_parishes_379 : decode cL_parishes 379 = .ok (.iload 8, 2) := by decide +kernel
theorem dL_parishes_381 : decode cL_parishes 381 = .ok (.ifCond .eq 8, 3) := by decide +kernel
theorem dL_parishes_384 : decode cL_parishes 384 = .ok (.iload 8, 2) := by decide +kernel
theorem dL_parishes_386 : decode cL_parishes 386 = .ok (.goto 18, 3) := by decide +kernel
theorem dL_parishes_389 : decode cL_parishes 389 = .ok (.aload_n 0, 1) := by decide +kernel
theorem dL_parishes_390 : decode cL_parishes 390 = .ok (.iload 4, 2) := by decide +kernel
theorem dL_parishes_392 : decode cL_parishes 392 = .ok (.iconst 0, 1) := by decide +kernel
theorem dL_parishes_393 : decode cL_parishes 393 = .ok (.invokevirtual 164, 3) := by decide +kernel
theorem dL_parishes_396 : decode cL_parishes 396 = .ok (.aload_n 0, 1) := by decide +kernel
theorem dL_parishes_397 : decode cL_parishes 397 = .ok (.iload 7, 2) := by decide +kernel
theorem dL_parishes_399 : decode cL_parishes 399 = .ok (.iconst 0, 1) := by decide +kernel
theorem dL_parishes_400 : decode cL_parishes 400 = .ok (.invokevirtual 164, 3) := by decide +kernel
theorem dL_parishes_403 : decode cL_parishes 403 = .ok (.isub, 1) := by decide +kernel
theorem dL_parishes_404 : decode cL_parishes 404 = .ok (.istore 8, 2) := by decide +kernel
theorem dL_parishes_406 : decode cL_parishes 406 = .ok (.iload 8, 2) := by decide +kernel
theorem dL_parishes_408 : decode cL_parishes 408 = .ok (.ifCond .lt 15, 3) := by decide +kernel
theorem dL_parishes_411 : decode cL_parishes 411 = .ok (.iload 8, 2) := by decide +kernel
theorem dL_parishes_413 : decode cL_parishes 413 = .ok (.ifCond .ne 12, 3) := by decide +kernel
theorem dL_parishes_416 : decode cL_parishes 416 = .ok (.iload 7, 2) := by decide +kernel
theorem dL_parishes_418 : decode cL_parishes 418 = .ok (.iload 4, 2) := by decide +kernel
theorem dL_parishes_420 : decode cL_parishes 420 = .ok (.if_icmp .ge 5, 3) := by decide +kernel
theorem dL_parishes_423 : decode cL_parishes 423 = .ok (.iconst 0, 1) := by decide +kernel
theorem dL_parishes_424 : decode cL_parishes 424 = .ok (.ireturn, 1) := by decide +kernel
theorem dL_parishes_425 : decode cL_parishes 425 = .ok (.iload 7, 2) := by decide +kernel
theorem dL_parishes_427 : decode cL_parishes 427 = .ok (.istore 4, 2) := by decide +kernel
theorem dL_parishes_429 : decode cL_parishes 429 = .ok (.iinc 5 1, 3) := by decide +kernel
theorem dL_parishes_432 : decode cL_parishes 432 = .ok (.goto (-264), 3) := by decide +kernel
theorem dL_parishes_435 : decode cL_parishes 435 = .ok (.aload_n 0, 1) := by decide +kernel
theorem dL_parishes_436 : decode cL_parishes 436 = .ok (.invokevirtual 170, 3) := by decide +kernel
theorem dL_parishes_439 : decode cL_parishes 439 = .ok (.iload_n 2, 1) := by decide +kernel
theorem dL_parishes_440 : decode cL_parishes 440 = .ok (.if_icmp .ne 60, 3) := by decide +kernel
theorem dL_parishes_443 : decode cL_parishes 443 = .ok (.aload_n 0, 1) := by decide +kernel
theorem dL_parishes_444 : decode cL_parishes 444 = .ok (.aload_n 0, 1) := by decide +kernel
theorem dL_parishes_445 : decode cL_parishes 445 = .ok (.invokevirtual 173, 3) := by decide +kernel
theorem dL_parishes_448 : decode cL_parishes 448 = .ok (.invokestatic 93, 3) := by decide +kernel
theorem dL_parishes_451 : decode cL_parishes 451 = .ok (.aload_n 3, 1) := by decide +kernel
theorem dL_parishes_452 : decode cL_parishes 452 = .ok (.invokevirtual 83, 3) := by decide +kernel
theorem dL_parishes_455 : decode cL_parishes 455 = .ok (.invokevirtual 132, 3) := by decide +kernel
theorem dL_parishes_458 : decode cL_parishes 458 = .ok (.ifCond .eq 42, 3) := by decide +kernel
theorem dL_parishes_461 : decode cL_parishes 461 = .ok (.aload_n 0, 1) := by decide +kernel
theorem dL_parishes_462 : decode cL_parishes 462 = .ok (.bipush 24, 2) := by decide +kernel
theorem dL_parishes_464 : decode cL_parishes 464 = .ok (.invokevirtual 159, 3) := by decide +kernel
theorem dL_parishes_467 : decode cL_parishes 467 = .ok (.sipush (-1012), 3) := by decide +kernel
theorem dL_parishes_470 : decode cL_parishes 470 = .ok (.if_icmp .ne 30, 3) := by decide +kernel
theorem dL_parishes_473 : decode cL_parishes 473 = .ok (.aload_n 0, 1) := by decide +kernel
theorem dL_parishes_474 : decode cL_parishes 474 = .ok (.iconst 4, 1) := by decide +kernel
theorem dL_parishes_475 : decode cL_parishes 475 = .ok (.invokevirtual 167, 3) := by decide +kernel
theorem dL_parishes_478 : decode cL_parishes 478 = .ok (.sipush (-1011), 3) := by decide +kernel
theorem dL_parishes_481 : decode cL_parishes 481 = .ok (.if_icmp .ne 19, 3) := by decide +kernel
theorem dL_parishes_484 : decode cL_parishes 484 = .ok (.aload_n 0, 1) := by decide +kernel
theorem dL_parishes_485 : decode cL_parishes 485 = .ok (.iconst 4, 1) := by decide +kernel
theorem dL_parishes_486 : decode cL_parishes 486 = .ok (.iconst 0, 1) := by decide +kernel
theorem dL_parishes_487 : decode cL_parishes 487 = .ok (.invokevirtual 164, 3) := by decide +kernel
theorem dL_parishes_490 : decode cL_parishes 490 = .ok (.sipush (-1011), 3) := by decide +kernel
theorem dL_parishes_493 : decode cL_parishes 493 = .ok (.if_icmp .ne 7, 3) := by decide +kernel
theorem dL_parishes_496 : decode cL_parishes 496 = .ok (.iconst 1, 1) := by decide +kernel
theorem dL_parishes_497 : decode cL_parishes 497 = .ok (.goto 4, 3) := by decide +kernel
theorem dL_parishes_500 : decode cL_parishes 500 = .ok (.iconst 0, 1) := by decide +kernel
theorem dL_parishes_501 : decode cL_parishes 501 = .ok (.ireturn, 1) := by decide +kernel
theorem dL_answers_0 : decode cL_answers 0 = .ok (.aload_n 0, 1) := by decide +kernel
theorem dL_answers_1 : decode cL_answers 1 = .ok (.bipush 10, 2) := by decide +kernel
theorem dL_answers_3 : decode cL_answers 3 = .ok (.invokevirtual 34, 3) := by decide +kernel
theorem dL_answers_6 : decode cL_answers 6 = .ok (.istore_n 1, 1) := by decide +kernel
theorem dL_answers_7 : decode cL_answers 7 = .ok (.iconst 0, 1) := by decide +kernel
theorem dL_answers_8 : decode cL_answers 8 = .ok (.istore_n 2, 1) := by decide +kernel
theorem dL_answers_9 : decode cL_answers 9 = .ok (.iload_n 2, 1) := by decide +kernel
theorem dL_answers_10 : decode cL_answers 10 = .ok (.iload_n 1, 1) := by decide +kernel
theorem dL_answers_11 : decode cL_answers 11 = .ok (.if_icmp .ge 134, 3) := by decide +kernel
theorem dL_answers_14 : decode cL_answers 14 = .ok (.aload_n 0, 1) := by decide +kernel
theorem dL_answers_15 : decode cL_answers 15 = .ok (.iload_n 2, 1) := by decide +kernel
theorem dL_answers_16 : decode cL_answers 16 = .ok (.iconst 0, 1) := by decide +kernel
theorem dL_answers_17 : decode cL_answers 17 = .ok (.invokevirtual 106, 3) := by decide +kernel
theorem dL_answers_20 : decode cL_answers 20 = .ok (.istore_n 3, 1) := by decide +kernel
theorem dL_answers_21 : decode cL_answers 21 = .ok (.aload_n 0, 1) := by decide +kernel
theorem dL_answers_22 : decode cL_answers 22 = .ok (.iload_n 2, 1) := by decide +kernel
theorem dL_answers_23 : decode cL_answers 23 = .ok (.iconst 1, 1) := by decide +kernel
theorem dL_answers_24 : decode cL_answers 24 = .ok (.invokevirtual 106, 3) := by decide +kernel
theorem dL_answers_27 : decode cL_answers 27 = .ok (.istore 4, 2) := by decide +kernel
theorem dL_answers_29 : decode cL_answers 29 = .ok (.aload_n 0, 1) := by decide +kernel
theorem dL_answers_30 : decode cL_answers 30 = .ok (.iload_n 2, 1) := by decide +kernel
theorem dL_answers_31 : decode cL_answers 31 = .ok (.iconst 2, 1) := by decide +kernel
theorem dL_answers_32 : decode cL_answers 32 = .ok (.invokevirtual 106, 3) := by decide +kernel
theorem dL_answers_35 : decode cL_answers 35 = .ok (.aload_n 0, 1) := by decide +kernel
theorem dL_answers_36 : decode cL_answers 36 = .ok (.iconst 3, 1) := by decide +kernel
theorem dL_answers_37 : decode cL_answers 37 = .ok (.invokevirtual 34, 3) := by decide +kernel
theorem dL_answers_40 : decode cL_answers 40 = .ok (.if_icmp .ne 7, 3) := by decide +kernel
theorem dL_answers_43 : decode cL_answers 43 = .ok (.iconst 1, 1) := by decide +kernel
theorem dL_answers_44 : decode cL_answers 44 = .ok (.goto 4, 3) := by decide +kernel
theorem dL_answers_47 : decode cL_answers 47 = .ok (.iconst 0, 1) := by decide +kernel
theorem dL_answers_48 : decode cL_answers 48 = .ok (.istore 5, 2) := by decide +kernel
theorem dL_answers_50 : decode cL_answers 50 = .ok (.iload_n 2, 1) := by decide +kernel
theorem dL_answers_51 : decode cL_answers 51 = .ok (.ifCond .ne 7, 3) := by decide +kernel
theorem dL_answers_54 : decode cL_answers 54 = .ok (.iconst 0, 1) := by decide +kernel
theorem dL_answers_55 : decode cL_answers 55 = .ok (.goto 33, 3) := by decide +kernel
theorem dL_answers_58 : decode cL_answers 58 = .ok (.bipush 24, 2) := by decide +kernel
theorem dL_answers_60 : decode cL_answers 60 = .ok (.aload_n 0, 1) := by decide +kernel
theorem dL_answers_61 : decode cL_answers 61 = .ok (.iload_n 2, 1) := by decide +kernel
theorem dL_answers_62 : decode cL_answers 62 = .ok (.iconst 1, 1) := by decide +kernel
theorem dL_answers_63 : decode cL_answers 63 = .ok (.isub, 1) := by decide +kernel
theorem dL_answers_64 : decode cL_answers 64 = .ok (.iconst 2, 1) := by decide +kernel
theorem dL_answers_65 : decode cL_answers 65 = .ok (.invokevirtual 106, 3) := by decide +kernel
theorem dL_answers_68 : decode cL_answers 68 = .ok (.aload_n 0, 1) := by decide +kernel
theorem dL_answers_69 : decode cL_answers 69 = .ok (.iload_n 2, 1) := by decide +kernel
theorem dL_answers_70 : decode cL_answers 70 = .ok (.iconst 2, 1) := by decide +kernel
theorem dL_answers_71 : decode cL_answers 71 = .ok (.invokevirtual 106, 3) := by decide +kernel
theorem dL_answers_74 : decode cL_answers 74 = .ok (.isub, 1) := by decide +kernel
theorem dL_answers_75 : decode cL_answers 75 = .ok (.imul, 1) := by decide +kernel
theorem dL_answers_76 : decode cL_answers 76 = .ok (.aload_n 0, 1) := by decide +kernel
theorem dL_answers_77 : decode cL_answers 77 = .ok (.iload_n 2, 1) := by decide +kernel
theorem dL_answers_78 : decode cL_answers 78 = .ok (.iconst 1, 1) := by decide +kernel
theorem dL_answers_79 : decode cL_answers 79 = .ok (.isub, 1) := by decide +kernel
theorem dL_answers_80 : decode cL_answers 80 = .ok (.iconst 1, 1) := by decide +kernel
theorem dL_answers_81 : decode cL_answers 81 = .ok (.invokevirtual 106, 3) := by decide +kernel
theorem dL_answers_84 : decode cL_answers 84 = .ok (.iadd, 1) := by decide +kernel
theorem dL_answers_85 : decode cL_answers 85 = .ok (.iload 4, 2) := by decide +kernel
theorem dL_answers_87 : decode cL_answers 87 = .ok (.isub, 1) := by decide +kernel
theorem dL_answers_88 : decode cL_answers 88 = .ok (.istore 6, 2) := by decide +kernel
theorem dL_answers_90 : decode cL_answers 90 = .ok (.iload 6, 2) := by decide +kernel
theorem dL_answers_92 : decode cL_answers 92 = .ok (.ifCond .lt 45, 3) := by decide +kernel
theorem dL_answers_95 : decode cL_answers 95 = .ok (.iload 5, 2) := by decide +kernel
theorem dL_answers_97 : decode cL_answers 97 = .ok (.ifCond .eq 16, 3) := by decide +kernel
theorem dL_answers_100 : decode cL_answers 100 = .ok (.aload_n 0, 1) := by decide +kernel
theorem dL_answers_101 : decode cL_answers 101 = .ok (.iload 4, 2) := by decide +kernel
theorem dL_answers_103 : decode cL_answers 103 = .ok (.invokevirtual 103, 3) := by decide +kernel
theorem dL_answers_106 : decode cL_answers 106 = .ok (.iload_n 3, 1) := by decide +kernel
theorem dL_answers_107 : decode cL_answers 107 = .ok (.ishr, 1) := by decide +kernel
theorem dL_answers_108 : decode cL_answers 108 = .ok (.iconst 1, 1) := by decide +kernel
theorem dL_answers_109 : decode cL_answers 109 = .ok (.iand, 1) := by decide +kernel
theorem dL_answers_110 : decode cL_answers 110 = .ok (.ifCond .eq 27, 3) := by decide +kernel
theorem dL_answers_113 : decode cL_answers 113 = .ok (.aload_n 0, 1) := by decide +kernel
theorem dL_answers_114 : decode cL_answers 114 = .ok (.iload_n 2, 1) := by decide +kernel
theorem dL_answers_115 : decode cL_answers 115 = .ok (.iconst 2, 1) := by decide +kernel
theorem dL_answers_116 : decode cL_answers 116 = .ok (.invokevirtual 106, 3) := by decide +kernel
theorem dL_answers_119 : decode cL_answers 119 = .ok (.aload_n 0, 1) := by decide +kernel
theorem dL_answers_120 : decode cL_answers 120 = .ok (.iconst 3, 1) := by decide +kernel
theorem dL_answers_121 : decode cL_answers 121 = .ok (.invokevirtual 34, 3) := by decide +kernel
theorem dL_answers_124 : decode cL_answers 124 = .ok (.if_icmp .gt 13, 3) := by decide +kernel
theorem dL_answers_127 : decode cL_answers 127 = .ok (.aload_n 0, 1) := by decide +kernel
theorem dL_answers_128 : decode cL_answers 128 = .ok (.iload_n 2, 1) := by decide +kernel
