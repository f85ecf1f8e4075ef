theorem dL_answers_129 : decode cL_answers 129 = .ok (.iconst 3, 1) := by decide +kernel
theorem dL_answers_130 : decode cL_answers 130 = .ok (.invokevirtual 106, 3) := by decide +kernel
theorem dL_answers_133 : decode cL_answers 133 = .ok (.iconst 1, 1) := by decide +kernel
theorem dL_answers_134 : decode cL_answers 134 = .ok (.if_icmp .ge 5, 3) := by decide +kernel
theorem dL_answers_137 : decode cL_answers 137 = .ok (.iconst 0, 1) := by decide +kernel
theorem dL_answers_138 : decode cL_answers 138 = .ok (.ireturn, 1) := by decide +kernel
theorem dL_answers_139 : decode cL_answers 139 = .ok (.iinc 2 1, 3) := by decide +kernel
theorem dL_answers_142 : decode cL_answers 142 = .ok (.goto (-133), 3) := by decide +kernel
theorem dL_answers_145 : decode cL_answers 145 = .ok (.iload_n 1, 1) := by decide +kernel
theorem dL_answers_146 : decode cL_answers 146 = .ok (.bipush 20, 2) := by decide +kernel
theorem dL_answers_148 : decode cL_answers 148 = .ok (.aload_n 0, 1) := by decide +kernel
theorem dL_answers_149 : decode cL_answers 149 = .ok (.iconst 5, 1) := by decide +kernel
theorem dL_answers_150 : decode cL_answers 150 = .ok (.invokevirtual 34, 3) := by decide +kernel
theorem dL_answers_153 : decode cL_answers 153 = .ok (.invokestatic 52, 3) := by decide +kernel
theorem dL_answers_156 : decode cL_answers 156 = .ok (.if_icmp .ne 19, 3) := by decide +kernel
theorem dL_answers_159 : decode cL_answers 159 = .ok (.aload_n 0, 1) := by decide +kernel
theorem dL_answers_160 : decode cL_answers 160 = .ok (.iload_n 1, 1) := by decide +kernel
theorem dL_answers_161 : decode cL_answers 161 = .ok (.iconst 0, 1) := by decide +kernel
theorem dL_answers_162 : decode cL_answers 162 = .ok (.invokevirtual 106, 3) := by decide +kernel
theorem dL_answers_165 : decode cL_answers 165 = .ok (.sipush (-1011), 3) := by decide +kernel
theorem dL_answers_168 : decode cL_answers 168 = .ok (.if_icmp .ne 7, 3) := by decide +kernel
theorem dL_answers_171 : decode cL_answers 171 = .ok (.iconst 1, 1) := by decide +kernel
theorem dL_answers_172 : decode cL_answers 172 = .ok (.goto 4, 3) := by decide +kernel
theorem dL_answers_175 : decode cL_answers 175 = .ok (.iconst 0, 1) := by decide +kernel
theorem dL_answers_176 : decode cL_answers 176 = .ok (.ireturn, 1) := by decide +kernel
theorem dL_foretold_0 : decode cL_foretold 0 = .ok (.aload_n 0, 1) := by decide +kernel
theorem dL_foretold_1 : decode cL_foretold 1 = .ok (.invokevirtual 176, 3) := by decide +kernel
theorem dL_foretold_4 : decode cL_foretold 4 = .ok (.istore_n 1, 1) := by decide +kernel
theorem dL_foretold_5 : decode cL_foretold 5 = .ok (.aload_n 0, 1) := by decide +kernel
theorem dL_foretold_6 : decode cL_foretold 6 = .ok (.iconst 1, 1) := by decide +kernel
theorem dL_foretold_7 : decode cL_foretold 7 = .ok (.invokevirtual 34, 3) := by decide +kernel
theorem dL_foretold_10 : decode cL_foretold 10 = .ok (.istore_n 2, 1) := by decide +kernel
theorem dL_foretold_11 : decode cL_foretold 11 = .ok (.aload_n 0, 1) := by decide +kernel
theorem dL_foretold_12 : decode cL_foretold 12 = .ok (.invokevirtual 112, 3) := by decide +kernel
theorem dL_foretold_15 : decode cL_foretold 15 = .ok (.istore_n 3, 1) := by decide +kernel
theorem dL_foretold_16 : decode cL_foretold 16 = .ok (.aload_n 0, 1) := by decide +kernel
theorem dL_foretold_17 : decode cL_foretold 17 = .ok (.iconst 5, 1) := by decide +kernel
theorem dL_foretold_18 : decode cL_foretold 18 = .ok (.invokevirtual 34, 3) := by decide +kernel
theorem dL_foretold_21 : decode cL_foretold 21 = .ok (.istore 4, 2) := by decide +kernel
theorem dL_foretold_23 : decode cL_foretold 23 = .ok (.iconst 1, 1) := by decide +kernel
theorem dL_foretold_24 : decode cL_foretold 24 = .ok (.istore 5, 2) := by decide +kernel
theorem dL_foretold_26 : decode cL_foretold 26 = .ok (.iload_n 2, 1) := by decide +kernel
theorem dL_foretold_27 : decode cL_foretold 27 = .ok (.ifCond .ne 45, 3) := by decide +kernel
theorem dL_foretold_30 : decode cL_foretold 30 = .ok (.iload 5, 2) := by decide +kernel
theorem dL_foretold_32 : decode cL_foretold 32 = .ok (.aload_n 0, 1) := by decide +kernel
theorem dL_foretold_33 : decode cL_foretold 33 = .ok (.invokevirtual 62, 3) := by decide +kernel
theorem dL_foretold_36 : decode cL_foretold 36 = .ok (.sipush (-1014), 3) := by decide +kernel
theorem dL_foretold_39 : decode cL_foretold 39 = .ok (.if_icmp .ne 26, 3) := by decide +kernel
theorem dL_foretold_42 : decode cL_foretold 42 = .ok (.aload_n 0, 1) := by decide +kernel
theorem dL_foretold_43 : decode cL_foretold 43 = .ok (.iconst 0, 1) := by decide +kernel
theorem dL_foretold_44 : decode cL_foretold 44 = .ok (.invokevirtual 179, 3) := by decide +kernel
theorem dL_foretold_47 : decode cL_foretold 47 = .ok (.iconst 3, 1) := by decide +kernel
theorem dL_foretold_48 : decode cL_foretold 48 = .ok (.if_icmp .ne 17, 3) := by decide +kernel
theorem dL_foretold_51 : decode cL_foretold 51 = .ok (.aload_n 0, 1) := by decide +kernel
theorem dL_foretold_52 : decode cL_foretold 52 = .ok (.invokevirtual 65, 3) := by decide +kernel
theorem dL_foretold_55 : decode cL_foretold 55 = .ok (.sipush (-1014), 3) := by decide +kernel
theorem dL_foretold_58 : decode cL_foretold 58 = .ok (.if_icmp .ne 7, 3) := by decide +kernel
theorem dL_foretold_61 : decode cL_foretold 61 = .ok (.iconst 1, 1) := by decide +kernel
theorem dL_foretold_62 : decode cL_foretold 62 = .ok (.goto 4, 3) := by decide +kernel
theorem dL_foretold_65 : decode cL_foretold 65 = .ok (.iconst 0, 1) := by decide +kernel
theorem dL_foretold_66 : decode cL_foretold 66 = .ok (.iand, 1) := by decide +kernel
theorem dL_foretold_67 : decode cL_foretold 67 = .ok (.istore 5, 2) := by decide +kernel
theorem dL_foretold_69 : decode cL_foretold 69 = .ok (.goto 188, 3) := by decide +kernel
theorem dL_foretold_72 : decode cL_foretold 72 = .ok (.aload_n 0, 1) := by decide +kernel
theorem dL_foretold_73 : decode cL_foretold 73 = .ok (.iconst 0, 1) := by decide +kernel
theorem dL_foretold_74 : decode cL_foretold 74 = .ok (.iconst 0, 1) := by decide +kernel
theorem dL_foretold_75 : decode cL_foretold 75 = .ok (.invokevirtual 109, 3) := by decide +kernel
theorem dL_foretold_78 : decode cL_foretold 78 = .ok (.istore 6, 2) := by decide +kernel
theorem dL_foretold_80 : decode cL_foretold 80 = .ok (.aload_n 0, 1) := by decide +kernel
theorem dL_foretold_81 : decode cL_foretold 81 = .ok (.iconst 0, 1) := by decide +kernel
theorem dL_foretold_82 : decode cL_foretold 82 = .ok (.iconst 1, 1) := by decide +kernel
theorem dL_foretold_83 : decode cL_foretold 83 = .ok (.invokevirtual 109, 3) := by decide +kernel
theorem dL_foretold_86 : decode cL_foretold 86 = .ok (.istore 7, 2) := by decide +kernel
theorem dL_foretold_88 : decode cL_foretold 88 = .ok (.aload_n 0, 1) := by decide +kernel
theorem dL_foretold_89 : decode cL_foretold 89 = .ok (.iload 7, 2) := by decide +kernel
theorem dL_foretold_91 : decode cL_foretold 91 = .ok (.invokevirtual 103, 3) := by decide +kernel
theorem dL_foretold_94 : decode cL_foretold 94 = .ok (.iload 6, 2) := by decide +kernel
theorem dL_foretold_96 : decode cL_foretold 96 = .ok (.ishr, 1) := by decide +kernel
theorem dL_foretold_97 : decode cL_foretold 97 = .ok (.iconst 1, 1) := by decide +kernel
theorem dL_foretold_98 : decode cL_foretold 98 = .ok (.iand, 1) := by decide +kernel
theorem dL_foretold_99 : decode cL_foretold 99 = .ok (.iconst 1, 1) := by decide +kernel
theorem dL_foretold_100 : decode cL_foretold 100 = .ok (.if_icmp .ne 7, 3) := by decide +kernel
theorem dL_foretold_103 : decode cL_foretold 103 = .ok (.iconst 1, 1) := by decide +kernel
theorem dL_foretold_104 : decode cL_foretold 104 = .ok (.goto 4, 3) := by decide +kernel
theorem dL_foretold_107 : decode cL_foretold 107 = .ok (.iconst 0, 1) := by decide +kernel
theorem dL_foretold_108 : decode cL_foretold 108 = .ok (.istore 8, 2) := by decide +kernel
theorem dL_foretold_110 : decode cL_foretold 110 = .ok (.iload 8, 2) := by decide +kernel
theorem dL_foretold_112 : decode cL_foretold 112 = .ok (.ifCond .eq 7, 3) := by decide +kernel
theorem dL_foretold_115 : decode cL_foretold 115 = .ok (.iconst 2, 1) := by decide +kernel
theorem dL_foretold_116 : decode cL_foretold 116 = .ok (.goto 15, 3) := by decide +kernel
theorem dL_foretold_119 : decode cL_foretold 119 = .ok (.aload_n 0, 1) := by decide +kernel
theorem dL_foretold_120 : decode cL_foretold 120 = .ok (.iload 6, 2) := by decide +kernel
theorem dL_foretold_122 : decode cL_foretold 122 = .ok (.aload_n 0, 1) := by decide +kernel
theorem dL_foretold_123 : decode cL_foretold 123 = .ok (.iconst 0, 1) := by decide +kernel
theorem dL_foretold_124 : decode cL_foretold 124 = .ok (.iconst 2, 1) := by decide +kernel
theorem dL_foretold_125 : decode cL_foretold 125 = .ok (.invokevirtual 109, 3) := by decide +kernel
theorem dL_foretold_128 : decode cL_foretold 128 = .ok (.invokevirtual 129, 3) := by decide +kernel
theorem dL_foretold_131 : decode cL_foretold 131 = .ok (.istore 9, 2) := by decide +kernel
theorem dL_foretold_133 : decode cL_foretold 133 = .ok (.iload 5, 2) := by decide +kernel
theorem dL_foretold_135 : decode cL_foretold 135 = .ok (.aload_n 0, 1) := by decide +kernel
theorem dL_foretold_136 : decode cL_foretold 136 = .ok (.invokevirtual 62, 3) := by decide +kernel
theorem dL_foretold_139 : decode cL_foretold 139 = .ok (.iload 9, 2) := by decide +kernel
theorem dL_foretold_141 : decode cL_foretold 141 = .ok (.if_icmp .ne 52, 3) := by decide +kernel
theorem dL_foretold_144 : decode cL_foretold 144 = .ok (.aload_n 0, 1) := by decide +kernel
theorem dL_foretold_145 : decode cL_foretold 145 = .ok (.iconst 2, 1) := by decide +kernel
theorem dL_foretold_146 : decode cL_foretold 146 = .ok (.invokevirtual 34, 3) := by decide +kernel
theorem dL_foretold_149 : decode cL_foretold 149 = .ok (.iload 7, 2) := by decide +kernel
theorem dL_foretold_151 : decode cL_foretold 151 = .ok (.if_icmp .ne 42, 3) := by decide +kernel
theorem dL_foretold_154 : decode cL_foretold 154 = .ok (.aload_n 0, 1) := by decide +kernel
theorem dL_foretold_155 : decode cL_foretold 155 = .ok (.iconst 1, 1) := by decide +kernel
theorem dL_foretold_156 : decode cL_foretold 156 = .ok (.invokevirtual 34, 3) := by decide +kernel
theorem dL_foretold_159 : decode cL_foretold 159 = .ok (.iload_n 2, 1) := by decide +kernel
theorem dL_foretold_160 : decode cL_foretold 160 = .ok (.iconst 1, 1) := by decide +kernel
theorem dL_foretold_161 : decode cL_foretold 161 = .ok (.isub, 1) := by decide +kernel
theorem dL_foretold_162 : decode cL_foretold 162 = .ok (.if_icmp .ne 31, 3) := by decide +kernel
theorem dL_foretold_165 : decode cL_foretold 165 = .ok (.aload_n 0, 1) := by decide +kernel
theorem dL_foretold_166 : decode cL_foretold 166 = .ok (.iload 7, 2) := by decide +kernel
theorem dL_foretold_168 : decode cL_foretold 168 = .ok (.invokevirtual 103, 3) := by decide +kernel
theorem dL_foretold_171 : decode cL_foretold 171 = .ok (.iload 6, 2) := by decide +kernel
theorem dL_foretold_173 : decode cL_foretold 173 = .ok (.ishr, 1) := by decide +kernel
theorem dL_foretold_174 : decode cL_foretold 174 = .ok (.iconst 1, 1) := by decide +kernel
theorem dL_foretold_175 : decode cL_foretold 175 = .ok (.iand, 1) := by decide +kernel
theorem dL_foretold_176 : decode cL_foretold 176 = .ok (.iload 9, 2) := by decide +kernel
theorem dL_foretold_178 : decode cL_foretold 178 = .ok (.ifCond .ne 7, 3) := by decide +kernel
theorem dL_foretold_181 : decode cL_foretold 181 = .ok (.iconst 0, 1) := by decide +kernel
theorem dL_foretold_182 : decode cL_foretold 182 = .ok (.goto 4, 3) := by decide +kernel
theorem dL_foretold_185 : decode cL_foretold 185 = .ok (.iconst 1, 1) := by decide +kernel
theorem dL_foretold_186 : decode cL_foretold 186 = .ok (.if_icmp .ne 7, 3) := by decide +kernel
theorem dL_foretold_189 : decode cL_foretold 189 = .ok (.iconst 1, 1) := by decide +kernel
theorem dL_foretold_190 : decode cL_foretold 190 = .ok (.goto 4, 3) := by decide +kernel
theorem dL_foretold_193 : decode cL_foretold 193 = .ok (.iconst 0, 1) := by decide +kernel
theorem dL_foretold_194 : decode cL_foretold 194 = .ok (.iand, 1) := by decide +kernel
theorem dL_foretold_195 : decode cL_foretold 195 = .ok (.istore 5, 2) := by decide +kernel
theorem dL_foretold_197 : decode cL_foretold 197 = .ok (.iconst 0, 1) := by decide +kernel
theorem dL_foretold_198 : decode cL_foretold 198 = .ok (.istore 10, 2) := by decide +kernel
theorem dL_foretold_200 : decode cL_foretold 200 = .ok (.iload 10, 2) := by decide +kernel
theorem dL_foretold_202 : decode cL_foretold 202 = .ok (.bipush 24, 2) := by decide +kernel
theorem dL_foretold_204 : decode cL_foretold 204 = .ok (.if_icmp .ge 23, 3) := by decide +kernel
theorem dL_foretold_207 : decode cL_foretold 207 = .ok (.aload_n 0, 1) := by decide +kernel
theorem dL_foretold_208 : decode cL_foretold 208 = .ok (.iconst 1, 1) := by decide +kernel
theorem dL_foretold_209 : decode cL_foretold 209 = .ok (.invokevirtual 34, 3) := by decide +kernel
theorem dL_foretold_212 : decode cL_foretold 212 = .ok (.ifCond .le 15, 3) := by decide +kernel
theorem dL_foretold_215 : decode cL_foretold 215 = .ok (.aload_n 0, 1) := by decide +kernel
theorem dL_foretold_216 : decode cL_foretold 216 = .ok (.invokevirtual 65, 3) := by decide +kernel
theorem dL_foretold_219 : decode cL_foretold 219 = .ok (.istore 11, 2) := by decide +kernel
theorem dL_foretold_221 : decode cL_foretold 221 = .ok (.iinc 10 1, 3) := by decide +kernel
theorem dL_foretold_224 : decode cL_foretold 224 = .ok (.goto (-24), 3) := by decide +kernel
theorem dL_foretold_227 : decode cL_foretold 227 = .ok (.iload 5, 2) := by decide +kernel
theorem dL_foretold_229 : decode cL_foretold 229 = .ok (.aload_n 0, 1) := by decide +kernel
theorem dL_foretold_230 : decode cL_foretold 230 = .ok (.iconst 1, 1) := by decide +kernel
theorem dL_foretold_231 : decode cL_foretold 231 = .ok (.invokevirtual 34, 3) := by decide +kernel
theorem dL_foretold_234 : decode cL_foretold 234 = .ok (.ifCond .ne 19, 3) := by decide +kernel
theorem dL_foretold_237 : decode cL_foretold 237 = .ok (.aload_n 0, 1) := by decide +kernel
theorem dL_foretold_238 : decode cL_foretold 238 = .ok (.iconst 5, 1) := by decide +kernel
theorem dL_foretold_239 : decode cL_foretold 239 = .ok (.invokevirtual 34, 3) := by decide +kernel
theorem dL_foretold_242 : decode cL_foretold 242 = .ok (.iload 4, 2) := by decide +kernel
theorem dL_foretold_244 : decode cL_foretold 244 = .ok (.iload_n 3, 1) := by decide +kernel
theorem dL_foretold_245 : decode cL_foretold 245 = .ok (.iadd, 1) := by decide +kernel
theorem dL_foretold_246 : decode cL_foretold 246 = .ok (.if_icmp .ne 7, 3) := by decide +kernel
theorem dL_foretold_249 : decode cL_foretold 249 = .ok (.iconst 1, 1) := by decide +kernel
theorem dL_foretold_250 : decode cL_foretold 250 = .ok (.goto 4, 3) := by decide +kernel
theorem dL_foretold_253 : decode cL_foretold 253 = .ok (.iconst 0, 1) := by decide +kernel
theorem dL_foretold_254 : decode cL_foretold 254 = .ok (.iand, 1) := by decide +kernel
theorem dL_foretold_255 : decode cL_foretold 255 = .ok (.istore 5, 2) := by decide +kernel
theorem dL_foretold_257 : decode cL_foretold 257 = .ok (.iload 5, 2) := by decide +kernel
theorem dL_foretold_259 : decode cL_foretold 259 = .ok (.aload_n 0, 1) := by decide +kernel
theorem dL_foretold_260 : decode cL_foretold 260 = .ok (.invokevirtual 183, 3) := by decide +kernel
theorem dL_foretold_263 : decode cL_foretold 263 = .ok (.iload_n 1, 1) := by decide +kernel
theorem dL_foretold_264 : decode cL_foretold 264 = .ok (.if_icmp .ne 7, 3) := by decide +kernel
theorem dL_foretold_267 : decode cL_foretold 267 = .ok (.iconst 1, 1) := by decide +kernel
theorem dL_foretold_268 : decode cL_foretold 268 = .ok (.goto 4, 3) := by decide +kernel
theorem dL_foretold_271 : decode cL_foretold 271 = .ok (.iconst 0, 1) := by decide +kernel
theorem dL_foretold_272 : decode cL_foretold 272 = .ok (.iand, 1) := by decide +kernel
theorem dL_foretold_273 : decode cL_foretold 273 = .ok (.istore 5, 2) := by decide +kernel
theorem dL_foretold_275 : decode cL_foretold 275 = .ok (.iconst 0, 1) := by decide +kernel
theorem dL_foretold_276 : decode cL_foretold 276 = .ok (.istore 6, 2) := by decide +kernel
theorem dL_foretold_278 : decode cL_foretold 278 = .ok (.iconst 0, 1) := by decide +kernel
theorem dL_foretold_279 : decode cL_foretold 279 = .ok (.istore 7, 2) := by decide +kernel
theorem dL_foretold_281 : decode cL_foretold 281 = .ok (.iconst 0, 1) := by decide +kernel
theorem dL_foretold_282 : decode cL_foretold 282 = .ok (.istore 8, 2) := by decide +kernel
theorem dL_foretold_284 : decode cL_foretold 284 = .ok (.iload 8, 2) := by decide +kernel
theorem dL_foretold_286 : decode cL_foretold 286 = .ok (.bipush 24, 2) := by decide +kernel
theorem dL_foretold_288 : decode cL_foretold 288 = .ok (.if_icmp .ge 20, 3) := by decide +kernel
theorem dL_foretold_291 : decode cL_foretold 291 = .ok (.iload 7, 2) := by decide +kernel
theorem dL_foretold_293 : decode cL_foretold 293 = .ok (.aload_n 0, 1) := by decide +kernel
theorem dL_foretold_294 : decode cL_foretold 294 = .ok (.iload 8, 2) := by decide +kernel
theorem dL_foretold_296 : decode cL_foretold 296 = .ok (.invokevirtual 103, 3) := by decide +kernel
theorem dL_foretold_299 : decode cL_foretold 299 = .ok (.ior, 1) := by decide +kernel
theorem dL_foretold_300 : decode cL_foretold 300 = .ok (.istore 7, 2) := by decide +kernel
theorem dL_foretold_302 : decode cL_foretold 302 = .ok (.iinc 8 1, 3) := by decide +kernel
theorem dL_foretold_305 : decode cL_foretold 305 = .ok (.goto (-21), 3) := by decide +kernel
theorem dL_foretold_308 : decode cL_foretold 308 = .ok (.iconst 0, 1) := by decide +kernel
theorem dL_foretold_309 : decode cL_foretold 309 = .ok (.istore 8, 2) := by decide +kernel
theorem dL_foretold_311 : decode cL_foretold 311 = .ok (.iload 8, 2) := by decide +kernel
theorem dL_foretold_313 : decode cL_foretold 313 = .ok (.iload_n 1, 1) := by decide +kernel
theorem dL_foretold_314 : decode cL_foretold 314 = .ok (.if_icmp .ge 48, 3) := by decide +kernel
theorem dL_foretold_317 : decode cL_foretold 317 = .ok (.iload 6, 2) := by decide +kernel
theorem dL_foretold_319 : decode cL_foretold 319 = .ok (.iload 7, 2) := by decide +kernel
theorem dL_foretold_321 : decode cL_foretold 321 = .ok (.iload 8, 2) := by decide +kernel
theorem dL_foretold_323 : decode cL_foretold 323 = .ok (.ishr, 1) := by decide +kernel
theorem dL_foretold_324 : decode cL_foretold 324 = .ok (.iconst 1, 1) := by decide +kernel
theorem dL_foretold_325 : decode cL_foretold 325 = .ok (.iand, 1) := by decide +kernel
theorem dL_foretold_326 : decode cL_foretold 326 = .ok (.iconst 1, 1) := by decide +kernel
theorem dL_foretold_327 : decode cL_foretold 327 = .ok (.if_icmp .ne 13, 3) := by decide +kernel
theorem dL_foretold_330 : decode cL_foretold 330 = .ok (.aload_n 0, 1) := by decide +kernel
theorem dL_foretold_331 : decode cL_foretold 331 = .ok (.iload 8, 2) := by decide +kernel
theorem dL_foretold_333 : decode cL_foretold 333 = .ok (.iconst 2, 1) := by decide +kernel
theorem dL_foretold_334 : decode cL_foretold 334 = .ok (.invokevirtual 100, 3) := by decide +kernel
theorem dL_foretold_337 : decode cL_foretold 337 = .ok (.goto 16, 3) := by decide +kernel
theorem dL_foretold_340 : decode cL_foretold 340 = .ok (.iconst 0, 1) := by decide +kernel
theorem dL_foretold_341 : decode cL_foretold 341 = .ok (.aload_n 0, 1) := by decide +kernel
theorem dL_foretold_342 : decode cL_foretold 342 = .ok (.iload 8, 2) := by decide +kernel
theorem dL_foretold_344 : decode cL_foretold 344 = .ok (.iconst 2, 1) := by decide +kernel
theorem dL_foretold_345 : decode cL_foretold 345 = .ok (.invokevirtual 100, 3) := by decide +kernel
theorem dL_foretold_348 : decode cL_foretold 348 = .ok (.iconst 1, 1) := by decide +kernel
theorem dL_foretold_349 : decode cL_foretold 349 = .ok (.isub, 1) := by decide +kernel
theorem dL_foretold_350 : decode cL_foretold 350 = .ok (.invokestatic 28, 3) := by decide +kernel
theorem dL_foretold_353 : decode cL_foretold 353 = .ok (.iadd, 1) := by decide +kernel
theorem dL_foretold_354 : decode cL_foretold 354 = .ok (.istore 6, 2) := by decide +kernel
theorem dL_foretold_356 : decode cL_foretold 356 = .ok (.iinc 8 1, 3) := by decide +kernel
theorem dL_foretold_359 : decode cL_foretold 359 = .ok (.goto (-48), 3) := by decide +kernel
theorem dL_foretold_362 : decode cL_foretold 362 = .ok (.aload_n 0, 1) := by decide +kernel
theorem dL_foretold_363 : decode cL_foretold 363 = .ok (.iconst 3, 1) := by decide +kernel
theorem dL_foretold_364 : decode cL_foretold 364 = .ok (.invokevirtual 34, 3) := by decide +kernel
theorem dL_foretold_367 : decode cL_foretold 367 = .ok (.istore 8, 2) := by decide +kernel
theorem dL_foretold_369 : decode cL_foretold 369 = .ok (.aload_n 0, 1) := by decide +kernel
theorem dL_foretold_370 : decode cL_foretold 370 = .ok (.bipush 6, 2) := by decide +kernel
theorem dL_foretold_372 : decode cL_foretold 372 = .ok (.invokevirtual 34, 3) := by decide +kernel
theorem dL_foretold_375 : decode cL_foretold 375 = .ok (.istore 9, 2) := by decide +kernel
theorem dL_foretold_377 : decode cL_foretold 377 = .ok (.iload 5, 2) := by decide +kernel
theorem dL_foretold_379 : decode cL_foretold 379 = .ok (.aload_n 0, 1) := by decide +kernel
theorem dL_foretold_380 : decode cL_foretold 380 = .ok (.invokevirtual 71, 3) := by decide +kernel
theorem dL_foretold_383 : decode cL_foretold 383 = .ok (.iload_n 2, 1) := by decide +kernel
theorem dL_foretold_384 : decode cL_foretold 384 = .ok (.if_icmp .ne 61, 3) := by decide +kernel
theorem dL_foretold_387 : decode cL_foretold 387 = .ok (.aload_n 0, 1) := by decide +kernel
theorem dL_foretold_388 : decode cL_foretold 388 = .ok (.bipush 6, 2) := by decide +kernel
theorem dL_foretold_390 : decode cL_foretold 390 = .ok (.invokevirtual 34, 3) := by decide +kernel
theorem dL_foretold_393 : decode cL_foretold 393 = .ok (.iload 9, 2) := by decide +kernel
theorem dL_foretold_395 : decode cL_foretold 395 = .ok (.iload_n 2, 1) := by decide +kernel
theorem dL_foretold_396 : decode cL_foretold 396 = .ok (.iadd, 1) := by decide +kernel
theorem dL_foretold_397 : decode cL_foretold 397 = .ok (.if_icmp .ne 48, 3) := by decide +kernel
theorem dL_foretold_400 : decode cL_foretold 400 = .ok (.aload_n 0, 1) := by decide +kernel
theorem dL_foretold_401 : decode cL_foretold 401 = .ok (.iconst 3, 1) := by decide +kernel
theorem dL_foretold_402 : decode cL_foretold 402 = .ok (.invokevirtual 34, 3) := by decide +kernel
theorem dL_foretold_405 : decode cL_foretold 405 = .ok (.iload 8, 2) := by decide +kernel
theorem dL_foretold_407 : decode cL_foretold 407 = .ok (.iconst 1, 1) := by decide +kernel
theorem dL_foretold_408 : decode cL_foretold 408 = .ok (.iadd, 1) := by decide +kernel
theorem dL_foretold_409 : decode cL_foretold 409 = .ok (.if_icmp .ne 36, 3) := by decide +kernel
theorem dL_foretold_412 : decode cL_foretold 412 = .ok (.aload_n 0, 1) := by decide +kernel
theorem dL_foretold_413 : decode cL_foretold 413 = .ok (.iconst 2, 1) := by decide +kernel
theorem dL_foretold_414 : decode cL_foretold 414 = .ok (.invokevirtual 34, 3) := by decide +kernel
theorem dL_foretold_417 : decode cL_foretold 417 = .ok (.ifCond .ne 28, 3) := by decide +kernel
theorem dL_foretold_420 : decode cL_foretold 420 = .ok (.aload_n 0, 1) := by decide +kernel
theorem dL_foretold_421 : decode cL_foretold 421 = .ok (.bipush 9, 2) := by decide +kernel
theorem dL_foretold_423 : decode cL_foretold 423 = .ok (.invokevirtual 34, 3) := by decide +kernel
theorem dL_foretold_426 : decode cL_foretold 426 = .ok (.iload 6, 2) := by decide +kernel
theorem dL_foretold_428 : decode cL_foretold 428 = .ok (.if_icmp .ne 17, 3) := by decide +kernel
theorem dL_foretold_431 : decode cL_foretold 431 = .ok (.aload_n 0, 1) := by decide +kernel
theorem dL_foretold_432 : decode cL_foretold 432 = .ok (.invokevirtual 170, 3) := by decide +kernel
theorem dL_foretold_435 : decode cL_foretold 435 = .ok (.sipush (-1015), 3) := by decide +kernel
theorem dL_foretold_438 : decode cL_foretold 438 = .ok (.if_icmp .ne 7, 3) := by decide +kernel
theorem dL_foretold_441 : decode cL_foretold 441 = .ok (.iconst 1, 1) := by decide +kernel
theorem dL_foretold_442 : decode cL_foretold 442 = .ok (.goto 4, 3) := by decide +kernel
theorem dL_foretold_445 : decode cL_foretold 445 = .ok (.iconst 0, 1) := by decide +kernel
theorem dL_foretold_446 : decode cL_foretold 446 = .ok (.iand, 1) := by decide +kernel
theorem dL_foretold_447 : decode cL_foretold 447 = .ok (.istore 5, 2) := by decide +kernel
theorem dL_foretold_449 : decode cL_foretold 449 = .ok (.aload_n 0, 1) := by decide +kernel
theorem dL_foretold_450 : decode cL_foretold 450 = .ok (.invokevirtual 183, 3) := by decide +kernel
theorem dL_foretold_453 : decode cL_foretold 453 = .ok (.iload_n 1, 1) := by decide +kernel
theorem dL_foretold_454 : decode cL_foretold 454 = .ok (.if_icmp .ne 12, 3) := by decide +kernel
theorem dL_foretold_457 : decode cL_foretold 457 = .ok (.iload 5, 2) := by decide +kernel
theorem dL_foretold_459 : decode cL_foretold 459 = .ok (.ifCond .eq 7, 3) := by decide +kernel
theorem dL_foretold_462 : decode cL_foretold 462 = .ok (.iconst 1, 1) := by decide +kernel
theorem dL_foretold_463 : decode cL_foretold 463 = .ok (.goto 4, 3) := by decide +kernel
theorem dL_foretold_466 : decode cL_foretold 466 = .ok (.iconst 0, 1) := by decide +kernel
theorem dL_foretold_467 : decode cL_foretold 467 = .ok (.ireturn, 1) := by decide +kernel
theorem dL_law_0 : decode cL_law 0 = .ok (.new 18, 3) := by decide +kernel
theorem dL_law_3 : decode cL_law 3 = .ok (.dup, 1) := by decide +kernel
theorem dL_law_4 : decode cL_law 4 = .ok (.invokespecial 186, 3) := by decide +kernel
theorem dL_law_7 : decode cL_law 7 = .ok (.astore_n 1, 1) := by decide +kernel
theorem dL_law_8 : decode cL_law 8 = .ok (.iconst 0, 1) := by decide +kernel
theorem dL_law_9 : decode cL_law 9 = .ok (.istore_n 2, 1) := by decide +kernel
theorem dL_law_10 : decode cL_law 10 = .ok (.aload_n 1, 1) := by decide +kernel
theorem dL_law_11 : decode cL_law 11 = .ok (.invokevirtual 187, 3) := by decide +kernel
theorem dL_law_14 : decode cL_law 14 = .ok (.sipush (-1015), 3) := by decide +kernel
theorem dL_law_17 : decode cL_law 17 = .ok (.if_icmp .ne 208, 3) := by decide +kernel
theorem dL_law_20 : decode cL_law 20 = .ok (.aload_n 1, 1) := by decide +kernel
theorem dL_law_21 : decode cL_law 21 = .ok (.invokevirtual 183, 3) := by decide +kernel
theorem dL_law_24 : decode cL_law 24 = .ok (.sipush (-1015), 3) := by decide +kernel
theorem dL_law_27 : decode cL_law 27 = .ok (.if_icmp .ne 198, 3) := by decide +kernel
theorem dL_law_30 : decode cL_law 30 = .ok (.aload_n 1, 1) := by decide +kernel
theorem dL_law_31 : decode cL_law 31 = .ok (.iconst 0, 1) := by decide +kernel
theorem dL_law_32 : decode cL_law 32 = .ok (.invokevirtual 179, 3) := by decide +kernel
theorem dL_law_35 : decode cL_law 35 = .ok (.sipush (-1015), 3) := by decide +kernel
theorem dL_law_38 : decode cL_law 38 = .ok (.if_icmp .ne 187, 3) := by decide +kernel
theorem dL_law_41 : decode cL_law 41 = .ok (.aload_n 1, 1) := by decide +kernel
theorem dL_law_42 : decode cL_law 42 = .ok (.invokevirtual 190, 3) := by decide +kernel
theorem dL_law_45 : decode cL_law 45 = .ok (.sipush (-2000), 3) := by decide +kernel
theorem dL_law_48 : decode cL_law 48 = .ok (.if_icmp .ne 177, 3) := by decide +kernel
theorem dL_law_51 : decode cL_law 51 = .ok (.aload_n 1, 1) := by decide +kernel
theorem dL_law_52 : decode cL_law 52 = .ok (.iconst 0, 1) := by decide +kernel
theorem dL_law_53 : decode cL_law 53 = .ok (.invokevirtual 77, 3) := by decide +kernel
theorem dL_law_56 : decode cL_law 56 = .ok (.sipush (-1011), 3) := by decide +kernel
theorem dL_law_59 : decode cL_law 59 = .ok (.if_icmp .ne 166, 3) := by decide +kernel
theorem dL_law_62 : decode cL_law 62 = .ok (.aload_n 1, 1) := by decide +kernel
theorem dL_law_63 : decode cL_law 63 = .ok (.iconst 4, 1) := by decide +kernel
theorem dL_law_64 : decode cL_law 64 = .ok (.invokevirtual 43, 3) := by decide +kernel
theorem dL_law_67 : decode cL_law 67 = .ok (.sipush (-1012), 3) := by decide +kernel
theorem dL_law_70 : decode cL_law 70 = .ok (.if_icmp .ne 155, 3) := by decide +kernel
theorem dL_law_73 : decode cL_law 73 = .ok (.aload_n 1, 1) := by decide +kernel
theorem dL_law_74 : decode cL_law 74 = .ok (.iconst 0, 1) := by decide +kernel
theorem dL_law_75 : decode cL_law 75 = .ok (.iconst 0, 1) := by decide +kernel
theorem dL_law_76 : decode cL_law 76 = .ok (.iconst 1, 1) := by decide +kernel
theorem dL_law_77 : decode cL_law 77 = .ok (.invokevirtual 55, 3) := by decide +kernel
theorem dL_law_80 : decode cL_law 80 = .ok (.sipush (-1011), 3) := by decide +kernel
theorem dL_law_83 : decode cL_law 83 = .ok (.if_icmp .ne 142, 3) := by decide +kernel
theorem dL_law_86 : decode cL_law 86 = .ok (.aload_n 1, 1) := by decide +kernel
theorem dL_law_87 : decode cL_law 87 = .ok (.invokevirtual 62, 3) := by decide +kernel
theorem dL_law_90 : decode cL_law 90 = .ok (.sipush (-1014), 3) := by decide +kernel
theorem dL_law_93 : decode cL_law 93 = .ok (.if_icmp .ne 132, 3) := by decide +kernel
theorem dL_law_96 : decode cL_law 96 = .ok (.aload_n 1, 1) := by decide +kernel
theorem dL_law_97 : decode cL_law 97 = .ok (.iconst 0, 1) := by decide +kernel
theorem dL_law_98 : decode cL_law 98 = .ok (.invokevirtual 179, 3) := by decide +kernel
theorem dL_law_101 : decode cL_law 101 = .ok (.iconst 3, 1) := by decide +kernel
theorem dL_law_102 : decode cL_law 102 = .ok (.if_icmp .ne 123, 3) := by decide +kernel
theorem dL_law_105 : decode cL_law 105 = .ok (.aload_n 1, 1) := by decide +kernel
theorem dL_law_106 : decode cL_law 106 = .ok (.iconst 1, 1) := by decide +kernel
theorem dL_law_107 : decode cL_law 107 = .ok (.invokevirtual 179, 3) := by decide +kernel
theorem dL_law_110 : decode cL_law 110 = .ok (.ifCond .ne 115, 3) := by decide +kernel
theorem dL_law_113 : decode cL_law 113 = .ok (.aload_n 1, 1) := by decide +kernel
theorem dL_law_114 : decode cL_law 114 = .ok (.invokevirtual 65, 3) := by decide +kernel
theorem dL_law_117 : decode cL_law 117 = .ok (.sipush (-1014), 3) := by decide +kernel
theorem dL_law_120 : decode cL_law 120 = .ok (.if_icmp .ne 105, 3) := by decide +kernel
theorem dL_law_123 : decode cL_law 123 = .ok (.aload_n 1, 1) := by decide +kernel
theorem dL_law_124 : decode cL_law 124 = .ok (.iconst 0, 1) := by decide +kernel
theorem dL_law_125 : decode cL_law 125 = .ok (.iconst 1, 1) := by decide +kernel
theorem dL_law_126 : decode cL_law 126 = .ok (.invokevirtual 49, 3) := by decide +kernel
theorem dL_law_129 : decode cL_law 129 = .ok (.sipush (-1011), 3) := by decide +kernel
theorem dL_law_132 : decode cL_law 132 = .ok (.if_icmp .ne 93, 3) := by decide +kernel
theorem dL_law_135 : decode cL_law 135 = .ok (.aload_n 1, 1) := by decide +kernel
theorem dL_law_136 : decode cL_law 136 = .ok (.iconst 0, 1) := by decide +kernel
theorem dL_law_137 : decode cL_law 137 = .ok (.iconst 1, 1) := by decide +kernel
theorem dL_law_138 : decode cL_law 138 = .ok (.invokevirtual 68, 3) := by decide +kernel
theorem dL_law_141 : decode cL_law 141 = .ok (.sipush (-1011), 3) := by decide +kernel
theorem dL_law_144 : decode cL_law 144 = .ok (.if_icmp .ne 81, 3) := by decide +kernel
theorem dL_law_147 : decode cL_law 147 = .ok (.aload_n 1, 1) := by decide +kernel
theorem dL_law_148 : decode cL_law 148 = .ok (.invokevirtual 170, 3) := by decide +kernel
theorem dL_law_151 : decode cL_law 151 = .ok (.sipush (-1015), 3) := by decide +kernel
theorem dL_law_154 : decode cL_law 154 = .ok (.if_icmp .ne 71, 3) := by decide +kernel
theorem dL_law_157 : decode cL_law 157 = .ok (.aload_n 1, 1) := by decide +kernel
theorem dL_law_158 : decode cL_law 158 = .ok (.iconst 0, 1) := by decide +kernel
theorem dL_law_159 : decode cL_law 159 = .ok (.invokevirtual 159, 3) := by decide +kernel
theorem dL_law_162 : decode cL_law 162 = .ok (.sipush (-1015), 3) := by decide +kernel
theorem dL_law_165 : decode cL_law 165 = .ok (.if_icmp .ne 60, 3) := by decide +kernel
theorem dL_law_168 : decode cL_law 168 = .ok (.aload_n 1, 1) := by decide +kernel
theorem dL_law_169 : decode cL_law 169 = .ok (.bipush 24, 2) := by decide +kernel
theorem dL_law_171 : decode cL_law 171 = .ok (.invokevirtual 103, 3) := by decide +kernel
theorem dL_law_174 : decode cL_law 174 = .ok (.sipush (-1012), 3) := by decide +kernel
theorem dL_law_177 : decode cL_law 177 = .ok (.if_icmp .ne 48, 3) := by decide +kernel
theorem dL_law_180 : decode cL_law 180 = .ok (.aload_n 1, 1) := by decide +kernel
theorem dL_law_181 : decode cL_law 181 = .ok (.invokevirtual 136, 3) := by decide +kernel
theorem dL_law_184 : decode cL_law 184 = .ok (.dconst 0, 1) := by decide +kernel
theorem dL_law_185 : decode cL_law 185 = .ok (.dcmp .l, 1) := by decide +kernel
theorem dL_law_186 : decode cL_law 186 = .ok (.ifCond .ne 39, 3) := by decide +kernel
theorem dL_law_189 : decode cL_law 189 = .ok (.aload_n 1, 1) := by decide +kernel
theorem dL_law_190 : decode cL_law 190 = .ok (.invokevirtual 140, 3) := by decide +kernel
theorem dL_law_193 : decode cL_law 193 = .ok (.fconst 0, 1) := by decide +kernel
theorem dL_law_194 : decode cL_law 194 = .ok (.fcmp .l, 1) := by decide +kernel
theorem dL_law_195 : decode cL_law 195 = .ok (.ifCond .ne 30, 3) := by decide +kernel
theorem dL_law_198 : decode cL_law 198 = .ok (.aload_n 1, 1) := by decide +kernel
theorem dL_law_199 : decode cL_law 199 = .ok (.bipush 13, 2) := by decide +kernel
theorem dL_law_201 : decode cL_law 201 = .ok (.invokevirtual 34, 3) := by decide +kernel
theorem dL_law_204 : decode cL_law 204 = .ok (.sipush (-1012), 3) := by decide +kernel
theorem dL_law_207 : decode cL_law 207 = .ok (.if_icmp .ne 18, 3) := by decide +kernel
theorem dL_law_210 : decode cL_law 210 = .ok (.aload_n 1, 1) := by decide +kernel
theorem dL_law_211 : decode cL_law 211 = .ok (.invokevirtual 112, 3) := by decide +kernel
theorem dL_law_214 : decode cL_law 214 = .ok (.ifCond .ne 11, 3) := by decide +kernel
theorem dL_law_217 : decode cL_law 217 = .ok (.aload_n 1, 1) := by decide +kernel
theorem dL_law_218 : decode cL_law 218 = .ok (.invokevirtual 144, 3) := by decide +kernel
theorem dL_law_221 : decode cL_law 221 = .ok (.iconst 1, 1) := by decide +kernel
theorem dL_law_222 : decode cL_law 222 = .ok (.if_icmp .eq 5, 3) := by decide +kernel
theorem dL_law_225 : decode cL_law 225 = .ok (.iconst 0, 1) := by decide +kernel
theorem dL_law_226 : decode cL_law 226 = .ok (.ireturn, 1) := by decide +kernel
theorem dL_law_227 : decode cL_law 227 = .ok (.aload_n 1, 1) := by decide +kernel
theorem dL_law_228 : decode cL_law 228 = .ok (.invokestatic 193, 3) := by decide +kernel
theorem dL_law_231 : decode cL_law 231 = .ok (.istore_n 3, 1) := by decide +kernel
theorem dL_law_232 : decode cL_law 232 = .ok (.iconst 0, 1) := by decide +kernel
theorem dL_law_233 : decode cL_law 233 = .ok (.istore 4, 2) := by decide +kernel
theorem dL_law_235 : decode cL_law 235 = .ok (.iload 4, 2) := by decide +kernel
theorem dL_law_237 : decode cL_law 237 = .ok (.bipush 16, 2) := by decide +kernel
theorem dL_law_239 : decode cL_law 239 = .ok (.if_icmp .ge 246, 3) := by decide +kernel
theorem dL_law_242 : decode cL_law 242 = .ok (.aload_n 0, 1) := by decide +kernel
theorem dL_law_243 : decode cL_law 243 = .ok (.iload_n 2, 1) := by decide +kernel
theorem dL_law_244 : decode cL_law 244 = .ok (.invokestatic 197, 3) := by decide +kernel
theorem dL_law_247 : decode cL_law 247 = .ok (.sipush 255, 3) := by decide +kernel
theorem dL_law_250 : decode cL_law 250 = .ok (.iand, 1) := by decide +kernel
theorem dL_law_251 : decode cL_law 251 = .ok (.istore 5, 2) := by decide +kernel
theorem dL_law_253 : decode cL_law 253 = .ok (.new 24, 3) := by decide +kernel
theorem dL_law_256 : decode cL_law 256 = .ok (.dup, 1) := by decide +kernel
theorem dL_law_257 : decode cL_law 257 = .ok (.aload_n 0, 1) := by decide +kernel
theorem dL_law_258 : decode cL_law 258 = .ok (.iload_n 2, 1) := by decide +kernel
theorem dL_law_259 : decode cL_law 259 = .ok (.iconst 1, 1) := by decide +kernel
theorem dL_law_260 : decode cL_law 260 = .ok (.iadd, 1) := by decide +kernel
theorem dL_law_261 : decode cL_law 261 = .ok (.invokestatic 197, 3) := by decide +kernel
theorem dL_law_264 : decode cL_law 264 = .ok (.invokespecial 201, 3) := by decide +kernel
theorem dL_law_267 : decode cL_law 267 = .ok (.astore 6, 2) := by decide +kernel
theorem dL_law_269 : decode cL_law 269 = .ok (.iinc 2 2, 3) := by decide +kernel
theorem dL_law_272 : decode cL_law 272 = .ok (.aload_n 1, 1) := by decide +kernel
theorem dL_law_273 : decode cL_law 273 = .ok (.bipush 12, 2) := by decide +kernel
theorem dL_law_275 : decode cL_law 275 = .ok (.invokevirtual 34, 3) := by decide +kernel
theorem dL_law_278 : decode cL_law 278 = .ok (.istore 7, 2) := by decide +kernel
theorem dL_law_280 : decode cL_law 280 = .ok (.aload_n 1, 1) := by decide +kernel
theorem dL_law_281 : decode cL_law 281 = .ok (.invokestatic 204, 3) := by decide +kernel
theorem dL_law_284 : decode cL_law 284 = .ok (.astore 8, 2) := by decide +kernel
theorem dL_law_286 : decode cL_law 286 = .ok (.aload_n 1, 1) := by decide +kernel
theorem dL_law_287 : decode cL_law 287 = .ok (.iload 5, 2) := by decide +kernel
theorem dL_law_289 : decode cL_law 289 = .ok (.aload 6, 2) := by decide +kernel
theorem dL_law_291 : decode cL_law 291 = .ok (.invokestatic 208, 3) := by decide +kernel
theorem dL_law_294 : decode cL_law 294 = .ok (.istore 9, 2) := by decide +kernel
theorem dL_law_296 : decode cL_law 296 = .ok (.iload 9, 2) := by decide +kernel
theorem dL_law_298 : decode cL_law 298 = .ok (.sipush (-1011), 3) := by decide +kernel
theorem dL_law_301 : decode cL_law 301 = .ok (.if_icmp .gt 17, 3) := by decide +kernel
theorem dL_law_304 : decode cL_law 304 = .ok (.aload 8, 2) := by decide +kernel
theorem dL_law_306 : decode cL_law 306 = .ok (.aload_n 1, 1) := by decide +kernel
theorem dL_law_307 : decode cL_law 307 = .ok (.invokestatic 204, 3) := by decide +kernel
theorem dL_law_310 : decode cL_law 310 = .ok (.invokevirtual 132, 3) := by decide +kernel
theorem dL_law_313 : decode cL_law 313 = .ok (.ifCond .ne 5, 3) := by decide +kernel
theorem dL_law_316 : decode cL_law 316 = .ok (.iconst 0, 1) := by decide +kernel
theorem dL_law_317 : decode cL_law 317 = .ok (.ireturn, 1) := by decide +kernel
theorem dL_law_318 : decode cL_law 318 = .ok (.iload 9, 2) := by decide +kernel
theorem dL_law_320 : decode cL_law 320 = .ok (.sipush (-1011), 3) := by decide +kernel
theorem dL_law_323 : decode cL_law 323 = .ok (.if_icmp .gt 8, 3) := by decide +kernel
theorem dL_law_326 : decode cL_law 326 = .ok (.iload 7, 2) := by decide +kernel
theorem dL_law_328 : decode cL_law 328 = .ok (.goto 12, 3) := by decide +kernel
theorem dL_law_331 : decode cL_law 331 = .ok (.bipush 8, 2) := by decide +kernel
theorem dL_law_333 : decode cL_law 333 = .ok (.iload 7, 2) := by decide +kernel
theorem dL_law_335 : decode cL_law 335 = .ok (.iconst 1, 1) := by decide +kernel
theorem dL_law_336 : decode cL_law 336 = .ok (.iadd, 1) := by decide +kernel
theorem dL_law_337 : decode cL_law 337 = .ok (.invokestatic 52, 3) := by decide +kernel
theorem dL_law_340 : decode cL_law 340 = .ok (.istore 7, 2) := by decide +kernel
theorem dL_law_342 : decode cL_law 342 = .ok (.iload 9, 2) := by decide +kernel
theorem dL_law_344 : decode cL_law 344 = .ok (.sipush (-1011), 3) := by decide +kernel
theorem dL_law_347 : decode cL_law 347 = .ok (.if_icmp .le 38, 3) := by decide +kernel
theorem dL_law_350 : decode cL_law 350 = .ok (.aload 6, 2) := by decide +kernel
theorem dL_law_352 : decode cL_law 352 = .ok (.iconst 4, 1) := by decide +kernel
theorem dL_law_353 : decode cL_law 353 = .ok (.invokevirtual 23, 3) := by decide +kernel
theorem dL_law_356 : decode cL_law 356 = .ok (.ifCond .ne 29, 3) := by decide +kernel
theorem dL_law_359 : decode cL_law 359 = .ok (.iinc 7 (-1), 3) := by decide +kernel
theorem dL_law_362 : decode cL_law 362 = .ok (.aload_n 1, 1) := by decide +kernel
theorem dL_law_363 : decode cL_law 363 = .ok (.invokevirtual 187, 3) := by decide +kernel
theorem dL_law_366 : decode cL_law 366 = .ok (.iload 7, 2) := by decide +kernel
theorem dL_law_368 : decode cL_law 368 = .ok (.if_icmp .ne 15, 3) := by decide +kernel
theorem dL_law_371 : decode cL_law 371 = .ok (.aload 8, 2) := by decide +kernel
theorem dL_law_373 : decode cL_law 373 = .ok (.aload_n 1, 1) := by decide +kernel
theorem dL_law_374 : decode cL_law 374 = .ok (.invokestatic 204, 3) := by decide +kernel
theorem dL_law_377 : decode cL_law 377 = .ok (.invokevirtual 132, 3) := by decide +kernel
theorem dL_law_380 : decode cL_law 380 = .ok (.ifCond .ne 5, 3) := by decide +kernel
theorem dL_law_383 : decode cL_law 383 = .ok (.iconst 0, 1) := by decide +kernel
theorem dL_law_384 : decode cL_law 384 = .ok (.ireturn, 1) := by decide +kernel
theorem dL_law_385 : decode cL_law 385 = .ok (.aload_n 1, 1) := by decide +kernel
theorem dL_law_386 : decode cL_law 386 = .ok (.bipush 12, 2) := by decide +kernel
theorem dL_law_388 : decode cL_law 388 = .ok (.invokevirtual 34, 3) := by decide +kernel
theorem dL_law_391 : decode cL_law 391 = .ok (.iload 7, 2) := by decide +kernel
theorem dL_law_393 : decode cL_law 393 = .ok (.if_icmp .ne 40, 3) := by decide +kernel
theorem dL_law_396 : decode cL_law 396 = .ok (.aload_n 1, 1) := by decide +kernel
theorem dL_law_397 : decode cL_law 397 = .ok (.bipush 11, 2) := by decide +kernel
theorem dL_law_399 : decode cL_law 399 = .ok (.invokevirtual 34, 3) := by decide +kernel
theorem dL_law_402 : decode cL_law 402 = .ok (.ifCond .ne 31, 3) := by decide +kernel
theorem dL_law_405 : decode cL_law 405 = .ok (.aload_n 1, 1) := by decide +kernel
theorem dL_law_406 : decode cL_law 406 = .ok (.invokestatic 212, 3) := by decide +kernel
theorem dL_law_409 : decode cL_law 409 = .ok (.ifCond .eq 24, 3) := by decide +kernel
theorem dL_law_412 : decode cL_law 412 = .ok (.aload_n 1, 1) := by decide +kernel
theorem dL_law_413 : decode cL_law 413 = .ok (.invokestatic 216, 3) := by decide +kernel
theorem dL_law_416 : decode cL_law 416 = .ok (.ifCond .eq 17, 3) := by decide +kernel
theorem dL_law_419 : decode cL_law 419 = .ok (.aload_n 1, 1) := by decide +kernel
theorem dL_law_420 : decode cL_law 420 = .ok (.invokestatic 219, 3) := by decide +kernel
theorem dL_law_423 : decode cL_law 423 = .ok (.ifCond .eq 10, 3) := by decide +kernel
theorem dL_law_426 : decode cL_law 426 = .ok (.aload_n 1, 1) := by decide +kernel
theorem dL_law_427 : decode cL_law 427 = .ok (.invokestatic 222, 3) := by decide +kernel
theorem dL_law_430 : decode cL_law 430 = .ok (.ifCond .ne 5, 3) := by decide +kernel
theorem dL_law_433 : decode cL_law 433 = .ok (.iconst 0, 1) := by decide +kernel
theorem dL_law_434 : decode cL_law 434 = .ok (.ireturn, 1) := by decide +kernel
theorem dL_law_435 : decode cL_law 435 = .ok (.iload 4, 2) := by decide +kernel
theorem dL_law_437 : decode cL_law 437 = .ok (.iconst 3, 1) := by decide +kernel
theorem dL_law_438 : decode cL_law 438 = .ok (.irem, 1) := by decide +kernel
theorem dL_law_439 : decode cL_law 439 = .ok (.iconst 2, 1) := by decide +kernel
theorem dL_law_440 : decode cL_law 440 = .ok (.if_icmp .ne 39, 3) := by decide +kernel
theorem dL_law_443 : decode cL_law 443 = .ok (.aload_n 1, 1) := by decide +kernel
theorem dL_law_444 : decode cL_law 444 = .ok (.invokestatic 204, 3) := by decide +kernel
theorem dL_law_447 : decode cL_law 447 = .ok (.astore 8, 2) := by decide +kernel
theorem dL_law_449 : decode cL_law 449 = .ok (.aload_n 1, 1) := by decide +kernel
theorem dL_law_450 : decode cL_law 450 = .ok (.invokestatic 225, 3) := by decide +kernel
theorem dL_law_453 : decode cL_law 453 = .ok (.ifCond .eq 24, 3) := by decide +kernel
theorem dL_law_456 : decode cL_law 456 = .ok (.aload 8, 2) := by decide +kernel
theorem dL_law_458 : decode cL_law 458 = .ok (.aload_n 1, 1) := by decide +kernel
theorem dL_law_459 : decode cL_law 459 = .ok (.invokestatic 204, 3) := by decide +kernel
theorem dL_law_462 : decode cL_law 462 = .ok (.invokevirtual 132, 3) := by decide +kernel
theorem dL_law_465 : decode cL_law 465 = .ok (.ifCond .eq 12, 3) := by decide +kernel
theorem dL_law_468 : decode cL_law 468 = .ok (.aload_n 1, 1) := by decide +kernel
theorem dL_law_469 : decode cL_law 469 = .ok (.bipush 12, 2) := by decide +kernel
theorem dL_law_471 : decode cL_law 471 = .ok (.invokevirtual 34, 3) := by decide +kernel
theorem dL_law_474 : decode cL_law 474 = .ok (.ifCond .eq 5, 3) := by decide +kernel
theorem dL_law_477 : decode cL_law 477 = .ok (.iconst 0, 1) := by decide +kernel
theorem dL_law_478 : decode cL_law 478 = .ok (.ireturn, 1) := by decide +kernel
theorem dL_law_479 : decode cL_law 479 = .ok (.iinc 4 1, 3) := by decide +kernel
theorem dL_law_482 : decode cL_law 482 = .ok (.goto (-247), 3) := by decide +kernel
theorem dL_law_485 : decode cL_law 485 = .ok (.iload_n 3, 1) := by decide +kernel
theorem dL_law_486 : decode cL_law 486 = .ok (.ifCond .le 7, 3) := by decide +kernel
theorem dL_law_489 : decode cL_law 489 = .ok (.iconst 1, 1) := by decide +kernel
theorem dL_law_490 : decode cL_law 490 = .ok (.goto 4, 3) := by decide +kernel
theorem dL_law_493 : decode cL_law 493 = .ok (.iconst 0, 1) := by decide +kernel
theorem dL_law_494 : decode cL_law 494 = .ok (.ireturn, 1) := by decide +kernel
