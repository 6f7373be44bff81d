theorem dL_isPrimer_153 : decode cL_isPrimer 153 = .ok (.invokestatic 119, 3) := by decide +kernel
theorem dL_isPrimer_156 : decode cL_isPrimer 156 = .ok (.istore 16, 2) := by decide +kernel
theorem dL_isPrimer_158 : decode cL_isPrimer 158 = .ok (.iload 10, 2) := by decide +kernel
theorem dL_isPrimer_160 : decode cL_isPrimer 160 = .ok (.ifCond .lt 24, 3) := by decide +kernel
theorem dL_isPrimer_163 : decode cL_isPrimer 163 = .ok (.iload 16, 2) := by decide +kernel
theorem dL_isPrimer_165 : decode cL_isPrimer 165 = .ok (.iload 11, 2) := by decide +kernel
theorem dL_isPrimer_167 : decode cL_isPrimer 167 = .ok (.if_icmp .gt 17, 3) := by decide +kernel
theorem dL_isPrimer_170 : decode cL_isPrimer 170 = .ok (.iload 16, 2) := by decide +kernel
theorem dL_isPrimer_172 : decode cL_isPrimer 172 = .ok (.iload 11, 2) := by decide +kernel
theorem dL_isPrimer_174 : decode cL_isPrimer 174 = .ok (.if_icmp .ne 14, 3) := by decide +kernel
theorem dL_isPrimer_177 : decode cL_isPrimer 177 = .ok (.iload 15, 2) := by decide +kernel
theorem dL_isPrimer_179 : decode cL_isPrimer 179 = .ok (.iload 12, 2) := by decide +kernel
theorem dL_isPrimer_181 : decode cL_isPrimer 181 = .ok (.if_icmp .lt 7, 3) := by decide +kernel
theorem dL_isPrimer_184 : decode cL_isPrimer 184 = .ok (.iconst 1, 1) := by decide +kernel
theorem dL_isPrimer_185 : decode cL_isPrimer 185 = .ok (.goto 4, 3) := by decide +kernel
theorem dL_isPrimer_188 : decode cL_isPrimer 188 = .ok (.iconst 0, 1) := by decide +kernel
theorem dL_isPrimer_189 : decode cL_isPrimer 189 = .ok (.istore 17, 2) := by decide +kernel
theorem dL_isPrimer_191 : decode cL_isPrimer 191 = .ok (.iload 17, 2) := by decide +kernel
theorem dL_isPrimer_193 : decode cL_isPrimer 193 = .ok (.ifCond .eq 8, 3) := by decide +kernel
theorem dL_isPrimer_196 : decode cL_isPrimer 196 = .ok (.iload 13, 2) := by decide +kernel
theorem dL_isPrimer_198 : decode cL_isPrimer 198 = .ok (.goto 5, 3) := by decide +kernel
theorem dL_isPrimer_201 : decode cL_isPrimer 201 = .ok (.iload 10, 2) := by decide +kernel
theorem dL_isPrimer_203 : decode cL_isPrimer 203 = .ok (.istore 10, 2) := by decide +kernel
theorem dL_isPrimer_205 : decode cL_isPrimer 205 = .ok (.iload 17, 2) := by decide +kernel
theorem dL_isPrimer_207 : decode cL_isPrimer 207 = .ok (.ifCond .eq 8, 3) := by decide +kernel
theorem dL_isPrimer_210 : decode cL_isPrimer 210 = .ok (.iload 16, 2) := by decide +kernel
theorem dL_isPrimer_212 : decode cL_isPrimer 212 = .ok (.goto 5, 3) := by decide +kernel
theorem dL_isPrimer_215 : decode cL_isPrimer 215 = .ok (.iload 11, 2) := by decide +kernel
theorem dL_isPrimer_217 : decode cL_isPrimer 217 = .ok (.istore 11, 2) := by decide +kernel
theorem dL_isPrimer_219 : decode cL_isPrimer 219 = .ok (.iload 17, 2) := by decide +kernel
theorem dL_isPrimer_221 : decode cL_isPrimer 221 = .ok (.ifCond .eq 8, 3) := by decide +kernel
theorem dL_isPrimer_224 : decode cL_isPrimer 224 = .ok (.iload 15, 2) := by decide +kernel
theorem dL_isPrimer_226 : decode cL_isPrimer 226 = .ok (.goto 5, 3) := by decide +kernel
theorem dL_isPrimer_229 : decode cL_isPrimer 229 = .ok (.iload 12, 2) := by decide +kernel
theorem dL_isPrimer_231 : decode cL_isPrimer 231 = .ok (.istore 12, 2) := by decide +kernel
theorem dL_isPrimer_233 : decode cL_isPrimer 233 = .ok (.iinc 13 (-1), 3) := by decide +kernel
theorem dL_isPrimer_236 : decode cL_isPrimer 236 = .ok (.goto (-199), 3) := by decide +kernel
theorem dL_isPrimer_239 : decode cL_isPrimer 239 = .ok (.aload_n 0, 1) := by decide +kernel
theorem dL_isPrimer_240 : decode cL_isPrimer 240 = .ok (.iload 4, 2) := by decide +kernel
theorem dL_isPrimer_242 : decode cL_isPrimer 242 = .ok (.iload 7, 2) := by decide +kernel
theorem dL_isPrimer_244 : decode cL_isPrimer 244 = .ok (.invokevirtual 56, 3) := by decide +kernel
theorem dL_isPrimer_247 : decode cL_isPrimer 247 = .ok (.iload 10, 2) := by decide +kernel
theorem dL_isPrimer_249 : decode cL_isPrimer 249 = .ok (.if_icmp .ne 7, 3) := by decide +kernel
theorem dL_isPrimer_252 : decode cL_isPrimer 252 = .ok (.iconst 1, 1) := by decide +kernel
theorem dL_isPrimer_253 : decode cL_isPrimer 253 = .ok (.goto 4, 3) := by decide +kernel
theorem dL_isPrimer_256 : decode cL_isPrimer 256 = .ok (.iconst 0, 1) := by decide +kernel
theorem dL_isPrimer_257 : decode cL_isPrimer 257 = .ok (.istore 9, 2) := by decide +kernel
theorem dL_isPrimer_259 : decode cL_isPrimer 259 = .ok (.iload 10, 2) := by decide +kernel
theorem dL_isPrimer_261 : decode cL_isPrimer 261 = .ok (.ifCond .ge 6, 3) := by decide +kernel
theorem dL_isPrimer_264 : decode cL_isPrimer 264 = .ok (.goto 37, 3) := by decide +kernel
theorem dL_isPrimer_267 : decode cL_isPrimer 267 = .ok (.iinc 7 1, 3) := by decide +kernel
theorem dL_isPrimer_270 : decode cL_isPrimer 270 = .ok (.iload 8, 2) := by decide +kernel
theorem dL_isPrimer_272 : decode cL_isPrimer 272 = .ok (.iload 7, 2) := by decide +kernel
theorem dL_isPrimer_274 : decode cL_isPrimer 274 = .ok (.iload 11, 2) := by decide +kernel
theorem dL_isPrimer_276 : decode cL_isPrimer 276 = .ok (.aload_n 1, 1) := by decide +kernel
theorem dL_isPrimer_277 : decode cL_isPrimer 277 = .ok (.aload_n 2, 1) := by decide +kernel
theorem dL_isPrimer_278 : decode cL_isPrimer 278 = .ok (.aload_n 3, 1) := by decide +kernel
theorem dL_isPrimer_279 : decode cL_isPrimer 279 = .ok (.lload 5, 2) := by decide +kernel
theorem dL_isPrimer_281 : decode cL_isPrimer 281 = .ok (.invokestatic 119, 3) := by decide +kernel
theorem dL_isPrimer_284 : decode cL_isPrimer 284 = .ok (.isub, 1) := by decide +kernel
theorem dL_isPrimer_285 : decode cL_isPrimer 285 = .ok (.imul, 1) := by decide +kernel
theorem dL_isPrimer_286 : decode cL_isPrimer 286 = .ok (.iadd, 1) := by decide +kernel
theorem dL_isPrimer_287 : decode cL_isPrimer 287 = .ok (.istore 8, 2) := by decide +kernel
theorem dL_isPrimer_289 : decode cL_isPrimer 289 = .ok (.lload 5, 2) := by decide +kernel
theorem dL_isPrimer_291 : decode cL_isPrimer 291 = .ok (.lconst 1, 1) := by decide +kernel
theorem dL_isPrimer_292 : decode cL_isPrimer 292 = .ok (.iload 10, 2) := by decide +kernel
theorem dL_isPrimer_294 : decode cL_isPrimer 294 = .ok (.lshl, 1) := by decide +kernel
theorem dL_isPrimer_295 : decode cL_isPrimer 295 = .ok (.lor, 1) := by decide +kernel
theorem dL_isPrimer_296 : decode cL_isPrimer 296 = .ok (.lstore 5, 2) := by decide +kernel
theorem dL_isPrimer_298 : decode cL_isPrimer 298 = .ok (.goto (-286), 3) := by decide +kernel
theorem dL_isPrimer_301 : decode cL_isPrimer 301 = .ok (.aload_n 0, 1) := by decide +kernel
theorem dL_isPrimer_302 : decode cL_isPrimer 302 = .ok (.bipush 10, 2) := by decide +kernel
theorem dL_isPrimer_304 : decode cL_isPrimer 304 = .ok (.iload 4, 2) := by decide +kernel
theorem dL_isPrimer_306 : decode cL_isPrimer 306 = .ok (.iconst 0, 1) := by decide +kernel
theorem dL_isPrimer_307 : decode cL_isPrimer 307 = .ok (.iconst 0, 1) := by decide +kernel
theorem dL_isPrimer_308 : decode cL_isPrimer 308 = .ok (.iconst 0, 1) := by decide +kernel
theorem dL_isPrimer_309 : decode cL_isPrimer 309 = .ok (.iconst 0, 1) := by decide +kernel
theorem dL_isPrimer_310 : decode cL_isPrimer 310 = .ok (.invokestatic 123, 3) := by decide +kernel
theorem dL_isPrimer_313 : decode cL_isPrimer 313 = .ok (.istore 10, 2) := by decide +kernel
theorem dL_isPrimer_315 : decode cL_isPrimer 315 = .ok (.iload 9, 2) := by decide +kernel
theorem dL_isPrimer_317 : decode cL_isPrimer 317 = .ok (.ifCond .eq 60, 3) := by decide +kernel
theorem dL_isPrimer_320 : decode cL_isPrimer 320 = .ok (.aload_n 0, 1) := by decide +kernel
theorem dL_isPrimer_321 : decode cL_isPrimer 321 = .ok (.iload 4, 2) := by decide +kernel
theorem dL_isPrimer_323 : decode cL_isPrimer 323 = .ok (.invokevirtual 127, 3) := by decide +kernel
theorem dL_isPrimer_326 : decode cL_isPrimer 326 = .ok (.iload 8, 2) := by decide +kernel
theorem dL_isPrimer_328 : decode cL_isPrimer 328 = .ok (.if_icmp .ne 49, 3) := by decide +kernel
theorem dL_isPrimer_331 : decode cL_isPrimer 331 = .ok (.iload 7, 2) := by decide +kernel
theorem dL_isPrimer_333 : decode cL_isPrimer 333 = .ok (.bipush 10, 2) := by decide +kernel
theorem dL_isPrimer_335 : decode cL_isPrimer 335 = .ok (.if_icmp .le 13, 3) := by decide +kernel
theorem dL_isPrimer_338 : decode cL_isPrimer 338 = .ok (.iload 10, 2) := by decide +kernel
theorem dL_isPrimer_340 : decode cL_isPrimer 340 = .ok (.ldc 67, 2) := by decide +kernel
theorem dL_isPrimer_342 : decode cL_isPrimer 342 = .ok (.if_icmp .ne 35, 3) := by decide +kernel
theorem dL_isPrimer_345 : decode cL_isPrimer 345 = .ok (.goto 28, 3) := by decide +kernel
theorem dL_isPrimer_348 : decode cL_isPrimer 348 = .ok (.iload 10, 2) := by decide +kernel
theorem dL_isPrimer_350 : decode cL_isPrimer 350 = .ok (.ifCond .lt 27, 3) := by decide +kernel
theorem dL_isPrimer_353 : decode cL_isPrimer 353 = .ok (.iload 10, 2) := by decide +kernel
theorem dL_isPrimer_355 : decode cL_isPrimer 355 = .ok (.iload 8, 2) := by decide +kernel
theorem dL_isPrimer_357 : decode cL_isPrimer 357 = .ok (.if_icmp .gt 20, 3) := by decide +kernel
theorem dL_isPrimer_360 : decode cL_isPrimer 360 = .ok (.iload 7, 2) := by decide +kernel
theorem dL_isPrimer_362 : decode cL_isPrimer 362 = .ok (.iconst 1, 1) := by decide +kernel
theorem dL_isPrimer_363 : decode cL_isPrimer 363 = .ok (.if_icmp .gt 10, 3) := by decide +kernel
theorem dL_isPrimer_366 : decode cL_isPrimer 366 = .ok (.iload 10, 2) := by decide +kernel
theorem dL_isPrimer_368 : decode cL_isPrimer 368 = .ok (.iload 8, 2) := by decide +kernel
theorem dL_isPrimer_370 : decode cL_isPrimer 370 = .ok (.if_icmp .ne 7, 3) := by decide +kernel
theorem dL_isPrimer_373 : decode cL_isPrimer 373 = .ok (.iconst 1, 1) := by decide +kernel
theorem dL_isPrimer_374 : decode cL_isPrimer 374 = .ok (.goto 4, 3) := by decide +kernel
theorem dL_isPrimer_377 : decode cL_isPrimer 377 = .ok (.iconst 0, 1) := by decide +kernel
theorem dL_isPrimer_378 : decode cL_isPrimer 378 = .ok (.ireturn, 1) := by decide +kernel
theorem dL_way_0 : decode cL_way 0 = .ok (.aload_n 3, 1) := by decide +kernel
theorem dL_way_1 : decode cL_way 1 = .ok (.iload 4, 2) := by decide +kernel
theorem dL_way_3 : decode cL_way 3 = .ok (.invokestatic 93, 3) := by decide +kernel
theorem dL_way_6 : decode cL_way 6 = .ok (.istore 5, 2) := by decide +kernel
theorem dL_way_8 : decode cL_way 8 = .ok (.iconst 0, 1) := by decide +kernel
theorem dL_way_9 : decode cL_way 9 = .ok (.istore 6, 2) := by decide +kernel
theorem dL_way_11 : decode cL_way 11 = .ok (.iload 6, 2) := by decide +kernel
theorem dL_way_13 : decode cL_way 13 = .ok (.iload 5, 2) := by decide +kernel
theorem dL_way_15 : decode cL_way 15 = .ok (.if_icmp .gt 18, 3) := by decide +kernel
theorem dL_way_18 : decode cL_way 18 = .ok (.aload_n 0, 1) := by decide +kernel
theorem dL_way_19 : decode cL_way 19 = .ok (.bipush 46, 2) := by decide +kernel
theorem dL_way_21 : decode cL_way 21 = .ok (.iload 6, 2) := by decide +kernel
theorem dL_way_23 : decode cL_way 23 = .ok (.iadd, 1) := by decide +kernel
theorem dL_way_24 : decode cL_way 24 = .ok (.iload 6, 2) := by decide +kernel
theorem dL_way_26 : decode cL_way 26 = .ok (.iastore, 1) := by decide +kernel
theorem dL_way_27 : decode cL_way 27 = .ok (.iinc 6 1, 3) := by decide +kernel
theorem dL_way_30 : decode cL_way 30 = .ok (.goto (-19), 3) := by decide +kernel
theorem dL_way_33 : decode cL_way 33 = .ok (.iconst 1, 1) := by decide +kernel
theorem dL_way_34 : decode cL_way 34 = .ok (.istore 6, 2) := by decide +kernel
theorem dL_way_36 : decode cL_way 36 = .ok (.iload 6, 2) := by decide +kernel
theorem dL_way_38 : decode cL_way 38 = .ok (.aload_n 1, 1) := by decide +kernel
theorem dL_way_39 : decode cL_way 39 = .ok (.iload_n 2, 1) := by decide +kernel
theorem dL_way_40 : decode cL_way 40 = .ok (.invokestatic 93, 3) := by decide +kernel
theorem dL_way_43 : decode cL_way 43 = .ok (.if_icmp .gt 135, 3) := by decide +kernel
theorem dL_way_46 : decode cL_way 46 = .ok (.aload_n 0, 1) := by decide +kernel
theorem dL_way_47 : decode cL_way 47 = .ok (.bipush 46, 2) := by decide +kernel
theorem dL_way_49 : decode cL_way 49 = .ok (.iaload, 1) := by decide +kernel
theorem dL_way_50 : decode cL_way 50 = .ok (.istore 7, 2) := by decide +kernel
theorem dL_way_52 : decode cL_way 52 = .ok (.aload_n 0, 1) := by decide +kernel
theorem dL_way_53 : decode cL_way 53 = .ok (.bipush 46, 2) := by decide +kernel
theorem dL_way_55 : decode cL_way 55 = .ok (.iload 6, 2) := by decide +kernel
theorem dL_way_57 : decode cL_way 57 = .ok (.iastore, 1) := by decide +kernel
theorem dL_way_58 : decode cL_way 58 = .ok (.bipush 47, 2) := by decide +kernel
theorem dL_way_60 : decode cL_way 60 = .ok (.istore 8, 2) := by decide +kernel
theorem dL_way_62 : decode cL_way 62 = .ok (.iload 8, 2) := by decide +kernel
theorem dL_way_64 : decode cL_way 64 = .ok (.bipush 46, 2) := by decide +kernel
theorem dL_way_66 : decode cL_way 66 = .ok (.iload 5, 2) := by decide +kernel
theorem dL_way_68 : decode cL_way 68 = .ok (.iadd, 1) := by decide +kernel
theorem dL_way_69 : decode cL_way 69 = .ok (.if_icmp .gt 103, 3) := by decide +kernel
theorem dL_way_72 : decode cL_way 72 = .ok (.aload_n 1, 1) := by decide +kernel
theorem dL_way_73 : decode cL_way 73 = .ok (.iload_n 2, 1) := by decide +kernel
theorem dL_way_74 : decode cL_way 74 = .ok (.iload 6, 2) := by decide +kernel
theorem dL_way_76 : decode cL_way 76 = .ok (.iconst 1, 1) := by decide +kernel
theorem dL_way_77 : decode cL_way 77 = .ok (.isub, 1) := by decide +kernel
theorem dL_way_78 : decode cL_way 78 = .ok (.invokestatic 85, 3) := by decide +kernel
theorem dL_way_81 : decode cL_way 81 = .ok (.aload_n 3, 1) := by decide +kernel
theorem dL_way_82 : decode cL_way 82 = .ok (.iload 4, 2) := by decide +kernel
theorem dL_way_84 : decode cL_way 84 = .ok (.iload 8, 2) := by decide +kernel
theorem dL_way_86 : decode cL_way 86 = .ok (.bipush 47, 2) := by decide +kernel
theorem dL_way_88 : decode cL_way 88 = .ok (.isub, 1) := by decide +kernel
theorem dL_way_89 : decode cL_way 89 = .ok (.invokestatic 85, 3) := by decide +kernel
theorem dL_way_92 : decode cL_way 92 = .ok (.if_icmp .ne 8, 3) := by decide +kernel
theorem dL_way_95 : decode cL_way 95 = .ok (.iload 7, 2) := by decide +kernel
theorem dL_way_97 : decode cL_way 97 = .ok (.goto 7, 3) := by decide +kernel
theorem dL_way_100 : decode cL_way 100 = .ok (.iload 7, 2) := by decide +kernel
theorem dL_way_102 : decode cL_way 102 = .ok (.iconst 1, 1) := by decide +kernel
theorem dL_way_103 : decode cL_way 103 = .ok (.iadd, 1) := by decide +kernel
theorem dL_way_104 : decode cL_way 104 = .ok (.istore 9, 2) := by decide +kernel
theorem dL_way_106 : decode cL_way 106 = .ok (.aload_n 0, 1) := by decide +kernel
theorem dL_way_107 : decode cL_way 107 = .ok (.iload 8, 2) := by decide +kernel
theorem dL_way_109 : decode cL_way 109 = .ok (.iaload, 1) := by decide +kernel
theorem dL_way_110 : decode cL_way 110 = .ok (.istore 7, 2) := by decide +kernel
theorem dL_way_112 : decode cL_way 112 = .ok (.aload_n 0, 1) := by decide +kernel
theorem dL_way_113 : decode cL_way 113 = .ok (.iload 8, 2) := by decide +kernel
theorem dL_way_115 : decode cL_way 115 = .ok (.iaload, 1) := by decide +kernel
theorem dL_way_116 : decode cL_way 116 = .ok (.iconst 1, 1) := by decide +kernel
theorem dL_way_117 : decode cL_way 117 = .ok (.iadd, 1) := by decide +kernel
theorem dL_way_118 : decode cL_way 118 = .ok (.iload 9, 2) := by decide +kernel
theorem dL_way_120 : decode cL_way 120 = .ok (.if_icmp .ge 12, 3) := by decide +kernel
theorem dL_way_123 : decode cL_way 123 = .ok (.aload_n 0, 1) := by decide +kernel
theorem dL_way_124 : decode cL_way 124 = .ok (.iload 8, 2) := by decide +kernel
theorem dL_way_126 : decode cL_way 126 = .ok (.iaload, 1) := by decide +kernel
theorem dL_way_127 : decode cL_way 127 = .ok (.iconst 1, 1) := by decide +kernel
theorem dL_way_128 : decode cL_way 128 = .ok (.iadd, 1) := by decide +kernel
theorem dL_way_129 : decode cL_way 129 = .ok (.goto 5, 3) := by decide +kernel
theorem dL_way_132 : decode cL_way 132 = .ok (.iload 9, 2) := by decide +kernel
theorem dL_way_134 : decode cL_way 134 = .ok (.istore 9, 2) := by decide +kernel
theorem dL_way_136 : decode cL_way 136 = .ok (.aload_n 0, 1) := by decide +kernel
theorem dL_way_137 : decode cL_way 137 = .ok (.iload 8, 2) := by decide +kernel
theorem dL_way_139 : decode cL_way 139 = .ok (.aload_n 0, 1) := by decide +kernel
theorem dL_way_140 : decode cL_way 140 = .ok (.iload 8, 2) := by decide +kernel
theorem dL_way_142 : decode cL_way 142 = .ok (.iconst 1, 1) := by decide +kernel
theorem dL_way_143 : decode cL_way 143 = .ok (.isub, 1) := by decide +kernel
theorem dL_way_144 : decode cL_way 144 = .ok (.iaload, 1) := by decide +kernel
theorem dL_way_145 : decode cL_way 145 = .ok (.iconst 1, 1) := by decide +kernel
theorem dL_way_146 : decode cL_way 146 = .ok (.iadd, 1) := by decide +kernel
theorem dL_way_147 : decode cL_way 147 = .ok (.iload 9, 2) := by decide +kernel
theorem dL_way_149 : decode cL_way 149 = .ok (.if_icmp .ge 14, 3) := by decide +kernel
theorem dL_way_152 : decode cL_way 152 = .ok (.aload_n 0, 1) := by decide +kernel
theorem dL_way_153 : decode cL_way 153 = .ok (.iload 8, 2) := by decide +kernel
theorem dL_way_155 : decode cL_way 155 = .ok (.iconst 1, 1) := by decide +kernel
theorem dL_way_156 : decode cL_way 156 = .ok (.isub, 1) := by decide +kernel
theorem dL_way_157 : decode cL_way 157 = .ok (.iaload, 1) := by decide +kernel
theorem dL_way_158 : decode cL_way 158 = .ok (.iconst 1, 1) := by decide +kernel
theorem dL_way_159 : decode cL_way 159 = .ok (.iadd, 1) := by decide +kernel
theorem dL_way_160 : decode cL_way 160 = .ok (.goto 5, 3) := by decide +kernel
theorem dL_way_163 : decode cL_way 163 = .ok (.iload 9, 2) := by decide +kernel
theorem dL_way_165 : decode cL_way 165 = .ok (.iastore, 1) := by decide +kernel
theorem dL_way_166 : decode cL_way 166 = .ok (.iinc 8 1, 3) := by decide +kernel
theorem dL_way_169 : decode cL_way 169 = .ok (.goto (-107), 3) := by decide +kernel
theorem dL_way_172 : decode cL_way 172 = .ok (.iinc 6 1, 3) := by decide +kernel
theorem dL_way_175 : decode cL_way 175 = .ok (.goto (-139), 3) := by decide +kernel
theorem dL_way_178 : decode cL_way 178 = .ok (.aload_n 0, 1) := by decide +kernel
theorem dL_way_179 : decode cL_way 179 = .ok (.bipush 46, 2) := by decide +kernel
theorem dL_way_181 : decode cL_way 181 = .ok (.iload 5, 2) := by decide +kernel
theorem dL_way_183 : decode cL_way 183 = .ok (.iadd, 1) := by decide +kernel
theorem dL_way_184 : decode cL_way 184 = .ok (.iaload, 1) := by decide +kernel
theorem dL_way_185 : decode cL_way 185 = .ok (.ireturn, 1) := by decide +kernel
theorem dL_score_0 : decode cL_score 0 = .ok (.aload_n 0, 1) := by decide +kernel
theorem dL_score_1 : decode cL_score 1 = .ok (.aload_n 1, 1) := by decide +kernel
theorem dL_score_2 : decode cL_score 2 = .ok (.aload_n 2, 1) := by decide +kernel
theorem dL_score_3 : decode cL_score 3 = .ok (.aload_n 3, 1) := by decide +kernel
theorem dL_score_4 : decode cL_score 4 = .ok (.aload 6, 2) := by decide +kernel
theorem dL_score_6 : decode cL_score 6 = .ok (.aload_n 3, 1) := by decide +kernel
theorem dL_score_7 : decode cL_score 7 = .ok (.bipush 48, 2) := by decide +kernel
theorem dL_score_9 : decode cL_score 9 = .ok (.iaload, 1) := by decide +kernel
theorem dL_score_10 : decode cL_score 10 = .ok (.ifCond .ne 7, 3) := by decide +kernel
theorem dL_score_13 : decode cL_score 13 = .ok (.iconst 3, 1) := by decide +kernel
theorem dL_score_14 : decode cL_score 14 = .ok (.goto 9, 3) := by decide +kernel
theorem dL_score_17 : decode cL_score 17 = .ok (.aload_n 3, 1) := by decide +kernel
theorem dL_score_18 : decode cL_score 18 = .ok (.bipush 48, 2) := by decide +kernel
theorem dL_score_20 : decode cL_score 20 = .ok (.iaload, 1) := by decide +kernel
theorem dL_score_21 : decode cL_score 21 = .ok (.iconst 1, 1) := by decide +kernel
theorem dL_score_22 : decode cL_score 22 = .ok (.isub, 1) := by decide +kernel
theorem dL_score_23 : decode cL_score 23 = .ok (.aload 8, 2) := by decide +kernel
theorem dL_score_25 : decode cL_score 25 = .ok (.invokestatic 130, 3) := by decide +kernel
theorem dL_score_28 : decode cL_score 28 = .ok (.aload_n 0, 1) := by decide +kernel
theorem dL_score_29 : decode cL_score 29 = .ok (.aload_n 1, 1) := by decide +kernel
theorem dL_score_30 : decode cL_score 30 = .ok (.aload_n 2, 1) := by decide +kernel
theorem dL_score_31 : decode cL_score 31 = .ok (.aload_n 3, 1) := by decide +kernel
theorem dL_score_32 : decode cL_score 32 = .ok (.aload 6, 2) := by decide +kernel
theorem dL_score_34 : decode cL_score 34 = .ok (.aload 5, 2) := by decide +kernel
theorem dL_score_36 : decode cL_score 36 = .ok (.iconst 3, 1) := by decide +kernel
theorem dL_score_37 : decode cL_score 37 = .ok (.iload 7, 2) := by decide +kernel
theorem dL_score_39 : decode cL_score 39 = .ok (.imul, 1) := by decide +kernel
theorem dL_score_40 : decode cL_score 40 = .ok (.iconst 2, 1) := by decide +kernel
theorem dL_score_41 : decode cL_score 41 = .ok (.iadd, 1) := by decide +kernel
theorem dL_score_42 : decode cL_score 42 = .ok (.iaload, 1) := by decide +kernel
theorem dL_score_43 : decode cL_score 43 = .ok (.aload 9, 2) := by decide +kernel
theorem dL_score_45 : decode cL_score 45 = .ok (.invokestatic 130, 3) := by decide +kernel
theorem dL_score_48 : decode cL_score 48 = .ok (.iconst 0, 1) := by decide +kernel
theorem dL_score_49 : decode cL_score 49 = .ok (.istore 10, 2) := by decide +kernel
theorem dL_score_51 : decode cL_score 51 = .ok (.iconst 0, 1) := by decide +kernel
theorem dL_score_52 : decode cL_score 52 = .ok (.istore 11, 2) := by decide +kernel
theorem dL_score_54 : decode cL_score 54 = .ok (.iconst 0, 1) := by decide +kernel
theorem dL_score_55 : decode cL_score 55 = .ok (.istore 12, 2) := by decide +kernel
theorem dL_score_57 : decode cL_score 57 = .ok (.iload 12, 2) := by decide +kernel
theorem dL_score_59 : decode cL_score 59 = .ok (.aload 6, 2) := by decide +kernel
theorem dL_score_61 : decode cL_score 61 = .ok (.iconst 0, 1) := by decide +kernel
theorem dL_score_62 : decode cL_score 62 = .ok (.iaload, 1) := by decide +kernel
theorem dL_score_63 : decode cL_score 63 = .ok (.if_icmp .ge 70, 3) := by decide +kernel
theorem dL_score_66 : decode cL_score 66 = .ok (.iload 11, 2) := by decide +kernel
theorem dL_score_68 : decode cL_score 68 = .ok (.aload_n 1, 1) := by decide +kernel
theorem dL_score_69 : decode cL_score 69 = .ok (.bipush 8, 2) := by decide +kernel
theorem dL_score_71 : decode cL_score 71 = .ok (.iload 12, 2) := by decide +kernel
theorem dL_score_73 : decode cL_score 73 = .ok (.iadd, 1) := by decide +kernel
theorem dL_score_74 : decode cL_score 74 = .ok (.iaload, 1) := by decide +kernel
theorem dL_score_75 : decode cL_score 75 = .ok (.iadd, 1) := by decide +kernel
theorem dL_score_76 : decode cL_score 76 = .ok (.istore 11, 2) := by decide +kernel
theorem dL_score_78 : decode cL_score 78 = .ok (.iconst 0, 1) := by decide +kernel
theorem dL_score_79 : decode cL_score 79 = .ok (.istore 13, 2) := by decide +kernel
theorem dL_score_81 : decode cL_score 81 = .ok (.iload 13, 2) := by decide +kernel
theorem dL_score_83 : decode cL_score 83 = .ok (.aload 8, 2) := by decide +kernel
theorem dL_score_85 : decode cL_score 85 = .ok (.iload 12, 2) := by decide +kernel
theorem dL_score_87 : decode cL_score 87 = .ok (.invokestatic 93, 3) := by decide +kernel
theorem dL_score_90 : decode cL_score 90 = .ok (.if_icmp .ge 37, 3) := by decide +kernel
theorem dL_score_93 : decode cL_score 93 = .ok (.iload 10, 2) := by decide +kernel
theorem dL_score_95 : decode cL_score 95 = .ok (.aload_n 1, 1) := by decide +kernel
theorem dL_score_96 : decode cL_score 96 = .ok (.bipush 8, 2) := by decide +kernel
theorem dL_score_98 : decode cL_score 98 = .ok (.iload 12, 2) := by decide +kernel
theorem dL_score_100 : decode cL_score 100 = .ok (.iadd, 1) := by decide +kernel
theorem dL_score_101 : decode cL_score 101 = .ok (.iaload, 1) := by decide +kernel
theorem dL_score_102 : decode cL_score 102 = .ok (.aload 4, 2) := by decide +kernel
theorem dL_score_104 : decode cL_score 104 = .ok (.aload 8, 2) := by decide +kernel
theorem dL_score_106 : decode cL_score 106 = .ok (.iload 12, 2) := by decide +kernel
theorem dL_score_108 : decode cL_score 108 = .ok (.iload 13, 2) := by decide +kernel
theorem dL_score_110 : decode cL_score 110 = .ok (.invokestatic 85, 3) := by decide +kernel
theorem dL_score_113 : decode cL_score 113 = .ok (.iaload, 1) := by decide +kernel
theorem dL_score_114 : decode cL_score 114 = .ok (.invokestatic 101, 3) := by decide +kernel
theorem dL_score_117 : decode cL_score 117 = .ok (.imul, 1) := by decide +kernel
theorem dL_score_118 : decode cL_score 118 = .ok (.iadd, 1) := by decide +kernel
theorem dL_score_119 : decode cL_score 119 = .ok (.istore 10, 2) := by decide +kernel
theorem dL_score_121 : decode cL_score 121 = .ok (.iinc 13 1, 3) := by decide +kernel
theorem dL_score_124 : decode cL_score 124 = .ok (.goto (-43), 3) := by decide +kernel
theorem dL_score_127 : decode cL_score 127 = .ok (.iinc 12 1, 3) := by decide +kernel
theorem dL_score_130 : decode cL_score 130 = .ok (.goto (-73), 3) := by decide +kernel
theorem dL_score_133 : decode cL_score 133 = .ok (.aload 5, 2) := by decide +kernel
theorem dL_score_135 : decode cL_score 135 = .ok (.iconst 3, 1) := by decide +kernel
theorem dL_score_136 : decode cL_score 136 = .ok (.iload 7, 2) := by decide +kernel
theorem dL_score_138 : decode cL_score 138 = .ok (.imul, 1) := by decide +kernel
theorem dL_score_139 : decode cL_score 139 = .ok (.iconst 1, 1) := by decide +kernel
theorem dL_score_140 : decode cL_score 140 = .ok (.iadd, 1) := by decide +kernel
theorem dL_score_141 : decode cL_score 141 = .ok (.iaload, 1) := by decide +kernel
theorem dL_score_142 : decode cL_score 142 = .ok (.istore 12, 2) := by decide +kernel
theorem dL_score_144 : decode cL_score 144 = .ok (.aload 8, 2) := by decide +kernel
theorem dL_score_146 : decode cL_score 146 = .ok (.aload_n 1, 1) := by decide +kernel
theorem dL_score_147 : decode cL_score 147 = .ok (.aload 6, 2) := by decide +kernel
theorem dL_score_149 : decode cL_score 149 = .ok (.invokestatic 134, 3) := by decide +kernel
theorem dL_score_152 : decode cL_score 152 = .ok (.iload 12, 2) := by decide +kernel
theorem dL_score_154 : decode cL_score 154 = .ok (.bipush 100, 2) := by decide +kernel
theorem dL_score_156 : decode cL_score 156 = .ok (.idiv, 1) := by decide +kernel
theorem dL_score_157 : decode cL_score 157 = .ok (.imul, 1) := by decide +kernel
theorem dL_score_158 : decode cL_score 158 = .ok (.iload 10, 2) := by decide +kernel
theorem dL_score_160 : decode cL_score 160 = .ok (.bipush 100, 2) := by decide +kernel
theorem dL_score_162 : decode cL_score 162 = .ok (.idiv, 1) := by decide +kernel
theorem dL_score_163 : decode cL_score 163 = .ok (.iload 12, 2) := by decide +kernel
theorem dL_score_165 : decode cL_score 165 = .ok (.bipush 100, 2) := by decide +kernel
theorem dL_score_167 : decode cL_score 167 = .ok (.irem, 1) := by decide +kernel
theorem dL_score_168 : decode cL_score 168 = .ok (.bipush 10, 2) := by decide +kernel
theorem dL_score_170 : decode cL_score 170 = .ok (.idiv, 1) := by decide +kernel
theorem dL_score_171 : decode cL_score 171 = .ok (.imul, 1) := by decide +kernel
theorem dL_score_172 : decode cL_score 172 = .ok (.iadd, 1) := by decide +kernel
theorem dL_score_173 : decode cL_score 173 = .ok (.iload 11, 2) := by decide +kernel
theorem dL_score_175 : decode cL_score 175 = .ok (.aload 8, 2) := by decide +kernel
theorem dL_score_177 : decode cL_score 177 = .ok (.aload 9, 2) := by decide +kernel
theorem dL_score_179 : decode cL_score 179 = .ok (.aload_n 1, 1) := by decide +kernel
theorem dL_score_180 : decode cL_score 180 = .ok (.aload 6, 2) := by decide +kernel
theorem dL_score_182 : decode cL_score 182 = .ok (.invokestatic 138, 3) := by decide +kernel
theorem dL_score_185 : decode cL_score 185 = .ok (.isub, 1) := by decide +kernel
theorem dL_score_186 : decode cL_score 186 = .ok (.iload 12, 2) := by decide +kernel
theorem dL_score_188 : decode cL_score 188 = .ok (.bipush 10, 2) := by decide +kernel
theorem dL_score_190 : decode cL_score 190 = .ok (.irem, 1) := by decide +kernel
theorem dL_score_191 : decode cL_score 191 = .ok (.imul, 1) := by decide +kernel
theorem dL_score_192 : decode cL_score 192 = .ok (.iadd, 1) := by decide +kernel
theorem dL_score_193 : decode cL_score 193 = .ok (.ireturn, 1) := by decide +kernel
theorem dL_isSo_0 : decode cL_isSo 0 = .ok (.aload 4, 2) := by decide +kernel
theorem dL_isSo_2 : decode cL_isSo 2 = .ok (.bipush 48, 2) := by decide +kernel
theorem dL_isSo_4 : decode cL_isSo 4 = .ok (.iaload, 1) := by decide +kernel
theorem dL_isSo_5 : decode cL_isSo 5 = .ok (.ifCond .ne 7, 3) := by decide +kernel
theorem dL_isSo_8 : decode cL_isSo 8 = .ok (.iconst 3, 1) := by decide +kernel
theorem dL_isSo_9 : decode cL_isSo 9 = .ok (.goto 10, 3) := by decide +kernel
theorem dL_isSo_12 : decode cL_isSo 12 = .ok (.aload 4, 2) := by decide +kernel
theorem dL_isSo_14 : decode cL_isSo 14 = .ok (.bipush 48, 2) := by decide +kernel
theorem dL_isSo_16 : decode cL_isSo 16 = .ok (.iaload, 1) := by decide +kernel
theorem dL_isSo_17 : decode cL_isSo 17 = .ok (.iconst 1, 1) := by decide +kernel
theorem dL_isSo_18 : decode cL_isSo 18 = .ok (.isub, 1) := by decide +kernel
theorem dL_isSo_19 : decode cL_isSo 19 = .ok (.istore 13, 2) := by decide +kernel
theorem dL_isSo_21 : decode cL_isSo 21 = .ok (.aload_n 1, 1) := by decide +kernel
theorem dL_isSo_22 : decode cL_isSo 22 = .ok (.aload_n 2, 1) := by decide +kernel
theorem dL_isSo_23 : decode cL_isSo 23 = .ok (.aload_n 3, 1) := by decide +kernel
theorem dL_isSo_24 : decode cL_isSo 24 = .ok (.aload 4, 2) := by decide +kernel
theorem dL_isSo_26 : decode cL_isSo 26 = .ok (.aload 7, 2) := by decide +kernel
theorem dL_isSo_28 : decode cL_isSo 28 = .ok (.iload 13, 2) := by decide +kernel
theorem dL_isSo_30 : decode cL_isSo 30 = .ok (.aload 11, 2) := by decide +kernel
theorem dL_isSo_32 : decode cL_isSo 32 = .ok (.invokestatic 130, 3) := by decide +kernel
theorem dL_isSo_35 : decode cL_isSo 35 = .ok (.iconst 1, 1) := by decide +kernel
theorem dL_isSo_36 : decode cL_isSo 36 = .ok (.istore 14, 2) := by decide +kernel
theorem dL_isSo_38 : decode cL_isSo 38 = .ok (.iconst 0, 1) := by decide +kernel
theorem dL_isSo_39 : decode cL_isSo 39 = .ok (.istore 15, 2) := by decide +kernel
theorem dL_isSo_41 : decode cL_isSo 41 = .ok (.iload 15, 2) := by decide +kernel
theorem dL_isSo_43 : decode cL_isSo 43 = .ok (.aload 7, 2) := by decide +kernel
theorem dL_isSo_45 : decode cL_isSo 45 = .ok (.iconst 0, 1) := by decide +kernel
theorem dL_isSo_46 : decode cL_isSo 46 = .ok (.iaload, 1) := by decide +kernel
theorem dL_isSo_47 : decode cL_isSo 47 = .ok (.if_icmp .ge 71, 3) := by decide +kernel
theorem dL_isSo_50 : decode cL_isSo 50 = .ok (.iload 14, 2) := by decide +kernel
theorem dL_isSo_52 : decode cL_isSo 52 = .ok (.ifCond .eq 66, 3) := by decide +kernel
theorem dL_isSo_55 : decode cL_isSo 55 = .ok (.iconst 0, 1) := by decide +kernel
theorem dL_isSo_56 : decode cL_isSo 56 = .ok (.istore 16, 2) := by decide +kernel
theorem dL_isSo_58 : decode cL_isSo 58 = .ok (.iload 16, 2) := by decide +kernel
theorem dL_isSo_60 : decode cL_isSo 60 = .ok (.aload 11, 2) := by decide +kernel
theorem dL_isSo_62 : decode cL_isSo 62 = .ok (.iload 15, 2) := by decide +kernel
theorem dL_isSo_64 : decode cL_isSo 64 = .ok (.invokestatic 93, 3) := by decide +kernel
theorem dL_isSo_67 : decode cL_isSo 67 = .ok (.iconst 1, 1) := by decide +kernel
theorem dL_isSo_68 : decode cL_isSo 68 = .ok (.iadd, 1) := by decide +kernel
theorem dL_isSo_69 : decode cL_isSo 69 = .ok (.if_icmp .ge 43, 3) := by decide +kernel
theorem dL_isSo_72 : decode cL_isSo 72 = .ok (.iload 14, 2) := by decide +kernel
theorem dL_isSo_74 : decode cL_isSo 74 = .ok (.ifCond .eq 38, 3) := by decide +kernel
theorem dL_isSo_77 : decode cL_isSo 77 = .ok (.aload_n 0, 1) := by decide +kernel
theorem dL_isSo_78 : decode cL_isSo 78 = .ok (.iload 8, 2) := by decide +kernel
theorem dL_isSo_80 : decode cL_isSo 80 = .ok (.iload 15, 2) := by decide +kernel
theorem dL_isSo_82 : decode cL_isSo 82 = .ok (.iload 16, 2) := by decide +kernel
theorem dL_isSo_84 : decode cL_isSo 84 = .ok (.invokevirtual 43, 3) := by decide +kernel
theorem dL_isSo_87 : decode cL_isSo 87 = .ok (.aload 11, 2) := by decide +kernel
theorem dL_isSo_89 : decode cL_isSo 89 = .ok (.iload 15, 2) := by decide +kernel
theorem dL_isSo_91 : decode cL_isSo 91 = .ok (.iload 16, 2) := by decide +kernel
theorem dL_isSo_93 : decode cL_isSo 93 = .ok (.invokestatic 85, 3) := by decide +kernel
theorem dL_isSo_96 : decode cL_isSo 96 = .ok (.if_icmp .ne 7, 3) := by decide +kernel
theorem dL_isSo_99 : decode cL_isSo 99 = .ok (.iconst 1, 1) := by decide +kernel
theorem dL_isSo_100 : decode cL_isSo 100 = .ok (.goto 4, 3) := by decide +kernel
theorem dL_isSo_103 : decode cL_isSo 103 = .ok (.iconst 0, 1) := by decide +kernel
theorem dL_isSo_104 : decode cL_isSo 104 = .ok (.istore 14, 2) := by decide +kernel
theorem dL_isSo_106 : decode cL_isSo 106 = .ok (.iinc 16 1, 3) := by decide +kernel
theorem dL_isSo_109 : decode cL_isSo 109 = .ok (.goto (-51), 3) := by decide +kernel
theorem dL_isSo_112 : decode cL_isSo 112 = .ok (.iinc 15 1, 3) := by decide +kernel
theorem dL_isSo_115 : decode cL_isSo 115 = .ok (.goto (-74), 3) := by decide +kernel
theorem dL_isSo_118 : decode cL_isSo 118 = .ok (.iload 14, 2) := by decide +kernel
theorem dL_isSo_120 : decode cL_isSo 120 = .ok (.ifCond .eq 59, 3) := by decide +kernel
theorem dL_isSo_123 : decode cL_isSo 123 = .ok (.aload_n 0, 1) := by decide +kernel
theorem dL_isSo_124 : decode cL_isSo 124 = .ok (.iload 8, 2) := by decide +kernel
theorem dL_isSo_126 : decode cL_isSo 126 = .ok (.invokevirtual 142, 3) := by decide +kernel
theorem dL_isSo_129 : decode cL_isSo 129 = .ok (.aload 11, 2) := by decide +kernel
theorem dL_isSo_131 : decode cL_isSo 131 = .ok (.aload 7, 2) := by decide +kernel
theorem dL_isSo_133 : decode cL_isSo 133 = .ok (.invokestatic 145, 3) := by decide +kernel
theorem dL_isSo_136 : decode cL_isSo 136 = .ok (.if_icmp .ne 43, 3) := by decide +kernel
theorem dL_isSo_139 : decode cL_isSo 139 = .ok (.aload_n 0, 1) := by decide +kernel
theorem dL_isSo_140 : decode cL_isSo 140 = .ok (.iload 8, 2) := by decide +kernel
theorem dL_isSo_142 : decode cL_isSo 142 = .ok (.invokevirtual 148, 3) := by decide +kernel
theorem dL_isSo_145 : decode cL_isSo 145 = .ok (.aload 11, 2) := by decide +kernel
theorem dL_isSo_147 : decode cL_isSo 147 = .ok (.aload_n 2, 1) := by decide +kernel
theorem dL_isSo_148 : decode cL_isSo 148 = .ok (.aload 7, 2) := by decide +kernel
theorem dL_isSo_150 : decode cL_isSo 150 = .ok (.invokestatic 134, 3) := by decide +kernel
theorem dL_isSo_153 : decode cL_isSo 153 = .ok (.if_icmp .ne 26, 3) := by decide +kernel
theorem dL_isSo_156 : decode cL_isSo 156 = .ok (.aload_n 0, 1) := by decide +kernel
theorem dL_isSo_157 : decode cL_isSo 157 = .ok (.iload 8, 2) := by decide +kernel
theorem dL_isSo_159 : decode cL_isSo 159 = .ok (.invokevirtual 150, 3) := by decide +kernel
theorem dL_isSo_162 : decode cL_isSo 162 = .ok (.aload 5, 2) := by decide +kernel
theorem dL_isSo_164 : decode cL_isSo 164 = .ok (.aload 11, 2) := by decide +kernel
theorem dL_isSo_166 : decode cL_isSo 166 = .ok (.aload_n 2, 1) := by decide +kernel
theorem dL_isSo_167 : decode cL_isSo 167 = .ok (.aload 7, 2) := by decide +kernel
theorem dL_isSo_169 : decode cL_isSo 169 = .ok (.invokestatic 153, 3) := by decide +kernel
theorem dL_isSo_172 : decode cL_isSo 172 = .ok (.if_icmp .ne 7, 3) := by decide +kernel
theorem dL_isSo_175 : decode cL_isSo 175 = .ok (.iconst 1, 1) := by decide +kernel
theorem dL_isSo_176 : decode cL_isSo 176 = .ok (.goto 4, 3) := by decide +kernel
theorem dL_isSo_179 : decode cL_isSo 179 = .ok (.iconst 0, 1) := by decide +kernel
theorem dL_isSo_180 : decode cL_isSo 180 = .ok (.istore 14, 2) := by decide +kernel
theorem dL_isSo_182 : decode cL_isSo 182 = .ok (.iload 14, 2) := by decide +kernel
theorem dL_isSo_184 : decode cL_isSo 184 = .ok (.ifCond .eq 62, 3) := by decide +kernel
theorem dL_isSo_187 : decode cL_isSo 187 = .ok (.iload 9, 2) := by decide +kernel
theorem dL_isSo_189 : decode cL_isSo 189 = .ok (.iconst 3, 1) := by decide +kernel
theorem dL_isSo_190 : decode cL_isSo 190 = .ok (.irem, 1) := by decide +kernel
theorem dL_isSo_191 : decode cL_isSo 191 = .ok (.ifCond .ne 55, 3) := by decide +kernel
theorem dL_isSo_194 : decode cL_isSo 194 = .ok (.iload 10, 2) := by decide +kernel
theorem dL_isSo_196 : decode cL_isSo 196 = .ok (.iconst 5, 1) := by decide +kernel
theorem dL_isSo_197 : decode cL_isSo 197 = .ok (.irem, 1) := by decide +kernel
theorem dL_isSo_198 : decode cL_isSo 198 = .ok (.istore 15, 2) := by decide +kernel
theorem dL_isSo_200 : decode cL_isSo 200 = .ok (.aload_n 0, 1) := by decide +kernel
theorem dL_isSo_201 : decode cL_isSo 201 = .ok (.iload 8, 2) := by decide +kernel
theorem dL_isSo_203 : decode cL_isSo 203 = .ok (.iload 15, 2) := by decide +kernel
theorem dL_isSo_205 : decode cL_isSo 205 = .ok (.invokevirtual 49, 3) := by decide +kernel
theorem dL_isSo_208 : decode cL_isSo 208 = .ok (.aload 4, 2) := by decide +kernel
theorem dL_isSo_210 : decode cL_isSo 210 = .ok (.aload 6, 2) := by decide +kernel
theorem dL_isSo_212 : decode cL_isSo 212 = .ok (.aload 11, 2) := by decide +kernel
theorem dL_isSo_214 : decode cL_isSo 214 = .ok (.aload_n 2, 1) := by decide +kernel
theorem dL_isSo_215 : decode cL_isSo 215 = .ok (.aload 7, 2) := by decide +kernel
theorem dL_isSo_217 : decode cL_isSo 217 = .ok (.iload 15, 2) := by decide +kernel
theorem dL_isSo_219 : decode cL_isSo 219 = .ok (.invokestatic 156, 3) := by decide +kernel
theorem dL_isSo_222 : decode cL_isSo 222 = .ok (.if_icmp .ne 21, 3) := by decide +kernel
theorem dL_isSo_225 : decode cL_isSo 225 = .ok (.aload_n 0, 1) := by decide +kernel
theorem dL_isSo_226 : decode cL_isSo 226 = .ok (.aload 11, 2) := by decide +kernel
theorem dL_isSo_228 : decode cL_isSo 228 = .ok (.aload_n 2, 1) := by decide +kernel
theorem dL_isSo_229 : decode cL_isSo 229 = .ok (.aload 7, 2) := by decide +kernel
theorem dL_isSo_231 : decode cL_isSo 231 = .ok (.iload 8, 2) := by decide +kernel
theorem dL_isSo_233 : decode cL_isSo 233 = .ok (.invokestatic 159, 3) := by decide +kernel
theorem dL_isSo_236 : decode cL_isSo 236 = .ok (.ifCond .eq 7, 3) := by decide +kernel
theorem dL_isSo_239 : decode cL_isSo 239 = .ok (.iconst 1, 1) := by decide +kernel
theorem dL_isSo_240 : decode cL_isSo 240 = .ok (.goto 4, 3) := by decide +kernel
theorem dL_isSo_243 : decode cL_isSo 243 = .ok (.iconst 0, 1) := by decide +kernel
theorem dL_isSo_244 : decode cL_isSo 244 = .ok (.istore 14, 2) := by decide +kernel
theorem dL_isSo_246 : decode cL_isSo 246 = .ok (.iload 14, 2) := by decide +kernel
theorem dL_isSo_248 : decode cL_isSo 248 = .ok (.ifCond .eq 86, 3) := by decide +kernel
theorem dL_isSo_251 : decode cL_isSo 251 = .ok (.iload 9, 2) := by decide +kernel
theorem dL_isSo_253 : decode cL_isSo 253 = .ok (.iconst 5, 1) := by decide +kernel
theorem dL_isSo_254 : decode cL_isSo 254 = .ok (.irem, 1) := by decide +kernel
theorem dL_isSo_255 : decode cL_isSo 255 = .ok (.ifCond .ne 79, 3) := by decide +kernel
theorem dL_isSo_258 : decode cL_isSo 258 = .ok (.aload 7, 2) := by decide +kernel
theorem dL_isSo_260 : decode cL_isSo 260 = .ok (.iconst 0, 1) := by decide +kernel
theorem dL_isSo_261 : decode cL_isSo 261 = .ok (.iaload, 1) := by decide +kernel
theorem dL_isSo_262 : decode cL_isSo 262 = .ok (.ifCond .le 72, 3) := by decide +kernel
theorem dL_isSo_265 : decode cL_isSo 265 = .ok (.iload 10, 2) := by decide +kernel
theorem dL_isSo_267 : decode cL_isSo 267 = .ok (.aload 7, 2) := by decide +kernel
theorem dL_isSo_269 : decode cL_isSo 269 = .ok (.iconst 0, 1) := by decide +kernel
theorem dL_isSo_270 : decode cL_isSo 270 = .ok (.iaload, 1) := by decide +kernel
theorem dL_isSo_271 : decode cL_isSo 271 = .ok (.irem, 1) := by decide +kernel
theorem dL_isSo_272 : decode cL_isSo 272 = .ok (.istore 15, 2) := by decide +kernel
theorem dL_isSo_274 : decode cL_isSo 274 = .ok (.aload 4, 2) := by decide +kernel
theorem dL_isSo_276 : decode cL_isSo 276 = .ok (.aload 11, 2) := by decide +kernel
theorem dL_isSo_278 : decode cL_isSo 278 = .ok (.iload 15, 2) := by decide +kernel
theorem dL_isSo_280 : decode cL_isSo 280 = .ok (.invokestatic 163, 3) := by decide +kernel
theorem dL_isSo_283 : decode cL_isSo 283 = .ok (.lstore 16, 2) := by decide +kernel
theorem dL_isSo_285 : decode cL_isSo 285 = .ok (.aload_n 0, 1) := by decide +kernel
theorem dL_isSo_286 : decode cL_isSo 286 = .ok (.iload 8, 2) := by decide +kernel
theorem dL_isSo_288 : decode cL_isSo 288 = .ok (.iload 15, 2) := by decide +kernel
theorem dL_isSo_290 : decode cL_isSo 290 = .ok (.invokevirtual 167, 3) := by decide +kernel
theorem dL_isSo_293 : decode cL_isSo 293 = .ok (.lload 16, 2) := by decide +kernel
theorem dL_isSo_295 : decode cL_isSo 295 = .ok (.lcmp, 1) := by decide +kernel
theorem dL_isSo_296 : decode cL_isSo 296 = .ok (.ifCond .ne 35, 3) := by decide +kernel
theorem dL_isSo_299 : decode cL_isSo 299 = .ok (.lload 16, 2) := by decide +kernel
theorem dL_isSo_301 : decode cL_isSo 301 = .ok (.lconst 0, 1) := by decide +kernel
theorem dL_isSo_302 : decode cL_isSo 302 = .ok (.lcmp, 1) := by decide +kernel
theorem dL_isSo_303 : decode cL_isSo 303 = .ok (.ifCond .le 28, 3) := by decide +kernel
theorem dL_isSo_306 : decode cL_isSo 306 = .ok (.iload 10, 2) := by decide +kernel
theorem dL_isSo_308 : decode cL_isSo 308 = .ok (.iconst 4, 1) := by decide +kernel
theorem dL_isSo_309 : decode cL_isSo 309 = .ok (.irem, 1) := by decide +kernel
theorem dL_isSo_310 : decode cL_isSo 310 = .ok (.ifCond .gt 17, 3) := by decide +kernel
theorem dL_isSo_313 : decode cL_isSo 313 = .ok (.aload_n 0, 1) := by decide +kernel
theorem dL_isSo_314 : decode cL_isSo 314 = .ok (.iload 8, 2) := by decide +kernel
theorem dL_isSo_316 : decode cL_isSo 316 = .ok (.iload 15, 2) := by decide +kernel
theorem dL_isSo_318 : decode cL_isSo 318 = .ok (.invokevirtual 170, 3) := by decide +kernel
theorem dL_isSo_321 : decode cL_isSo 321 = .ok (.lload 16, 2) := by decide +kernel
theorem dL_isSo_323 : decode cL_isSo 323 = .ok (.lcmp, 1) := by decide +kernel
theorem dL_isSo_324 : decode cL_isSo 324 = .ok (.ifCond .ne 7, 3) := by decide +kernel
theorem dL_isSo_327 : decode cL_isSo 327 = .ok (.iconst 1, 1) := by decide +kernel
theorem dL_isSo_328 : decode cL_isSo 328 = .ok (.goto 4, 3) := by decide +kernel
theorem dL_isSo_331 : decode cL_isSo 331 = .ok (.iconst 0, 1) := by decide +kernel
theorem dL_isSo_332 : decode cL_isSo 332 = .ok (.istore 14, 2) := by decide +kernel
theorem dL_isSo_334 : decode cL_isSo 334 = .ok (.aload_n 1, 1) := by decide +kernel
theorem dL_isSo_335 : decode cL_isSo 335 = .ok (.aload_n 2, 1) := by decide +kernel
theorem dL_isSo_336 : decode cL_isSo 336 = .ok (.aload_n 3, 1) := by decide +kernel
theorem dL_isSo_337 : decode cL_isSo 337 = .ok (.aload 4, 2) := by decide +kernel
theorem dL_isSo_339 : decode cL_isSo 339 = .ok (.aload 7, 2) := by decide +kernel
theorem dL_isSo_341 : decode cL_isSo 341 = .ok (.iload 9, 2) := by decide +kernel
theorem dL_isSo_343 : decode cL_isSo 343 = .ok (.iconst 3, 1) := by decide +kernel
theorem dL_isSo_344 : decode cL_isSo 344 = .ok (.irem, 1) := by decide +kernel
theorem dL_isSo_345 : decode cL_isSo 345 = .ok (.aload 12, 2) := by decide +kernel
theorem dL_isSo_347 : decode cL_isSo 347 = .ok (.invokestatic 130, 3) := by decide +kernel
theorem dL_isSo_350 : decode cL_isSo 350 = .ok (.iload 14, 2) := by decide +kernel
theorem dL_isSo_352 : decode cL_isSo 352 = .ok (.ifCond .eq 30, 3) := by decide +kernel
theorem dL_isSo_355 : decode cL_isSo 355 = .ok (.aload_n 0, 1) := by decide +kernel
theorem dL_isSo_356 : decode cL_isSo 356 = .ok (.iload 8, 2) := by decide +kernel
theorem dL_isSo_358 : decode cL_isSo 358 = .ok (.iload 9, 2) := by decide +kernel
theorem dL_isSo_360 : decode cL_isSo 360 = .ok (.iconst 3, 1) := by decide +kernel
theorem dL_isSo_361 : decode cL_isSo 361 = .ok (.irem, 1) := by decide +kernel
theorem dL_isSo_362 : decode cL_isSo 362 = .ok (.invokevirtual 173, 3) := by decide +kernel
theorem dL_isSo_365 : decode cL_isSo 365 = .ok (.aload 11, 2) := by decide +kernel
theorem dL_isSo_367 : decode cL_isSo 367 = .ok (.aload 12, 2) := by decide +kernel
theorem dL_isSo_369 : decode cL_isSo 369 = .ok (.aload_n 2, 1) := by decide +kernel
theorem dL_isSo_370 : decode cL_isSo 370 = .ok (.aload 7, 2) := by decide +kernel
theorem dL_isSo_372 : decode cL_isSo 372 = .ok (.invokestatic 138, 3) := by decide +kernel
theorem dL_isSo_375 : decode cL_isSo 375 = .ok (.if_icmp .ne 7, 3) := by decide +kernel
theorem dL_isSo_378 : decode cL_isSo 378 = .ok (.iconst 1, 1) := by decide +kernel
theorem dL_isSo_379 : decode cL_isSo 379 = .ok (.goto 4, 3) := by decide +kernel
theorem dL_isSo_382 : decode cL_isSo 382 = .ok (.iconst 0, 1) := by decide +kernel
theorem dL_isSo_383 : decode cL_isSo 383 = .ok (.istore 14, 2) := by decide +kernel
theorem dL_isSo_385 : decode cL_isSo 385 = .ok (.aload 4, 2) := by decide +kernel
theorem dL_isSo_387 : decode cL_isSo 387 = .ok (.bipush 49, 2) := by decide +kernel
theorem dL_isSo_389 : decode cL_isSo 389 = .ok (.dup2, 1) := by decide +kernel
theorem dL_isSo_390 : decode cL_isSo 390 = .ok (.iaload, 1) := by decide +kernel
theorem dL_isSo_391 : decode cL_isSo 391 = .ok (.iconst 1, 1) := by decide +kernel
theorem dL_isSo_392 : decode cL_isSo 392 = .ok (.iload 10, 2) := by decide +kernel
theorem dL_isSo_394 : decode cL_isSo 394 = .ok (.iconst 3, 1) := by decide +kernel
theorem dL_isSo_395 : decode cL_isSo 395 = .ok (.irem, 1) := by decide +kernel
theorem dL_isSo_396 : decode cL_isSo 396 = .ok (.ishl, 1) := by decide +kernel
theorem dL_isSo_397 : decode cL_isSo 397 = .ok (.ixor, 1) := by decide +kernel
theorem dL_isSo_398 : decode cL_isSo 398 = .ok (.iastore, 1) := by decide +kernel
theorem dL_isSo_399 : decode cL_isSo 399 = .ok (.aload_n 1, 1) := by decide +kernel
theorem dL_isSo_400 : decode cL_isSo 400 = .ok (.aload_n 2, 1) := by decide +kernel
theorem dL_isSo_401 : decode cL_isSo 401 = .ok (.aload_n 3, 1) := by decide +kernel
theorem dL_isSo_402 : decode cL_isSo 402 = .ok (.aload 4, 2) := by decide +kernel
theorem dL_isSo_404 : decode cL_isSo 404 = .ok (.aload 7, 2) := by decide +kernel
theorem dL_isSo_406 : decode cL_isSo 406 = .ok (.iload 13, 2) := by decide +kernel
theorem dL_isSo_408 : decode cL_isSo 408 = .ok (.aload 12, 2) := by decide +kernel
theorem dL_isSo_410 : decode cL_isSo 410 = .ok (.invokestatic 130, 3) := by decide +kernel
theorem dL_isSo_413 : decode cL_isSo 413 = .ok (.aload 4, 2) := by decide +kernel
theorem dL_isSo_415 : decode cL_isSo 415 = .ok (.bipush 49, 2) := by decide +kernel
theorem dL_isSo_417 : decode cL_isSo 417 = .ok (.dup2, 1) := by decide +kernel
theorem dL_isSo_418 : decode cL_isSo 418 = .ok (.iaload, 1) := by decide +kernel
theorem dL_isSo_419 : decode cL_isSo 419 = .ok (.iconst 1, 1) := by decide +kernel
theorem dL_isSo_420 : decode cL_isSo 420 = .ok (.iload 10, 2) := by decide +kernel
theorem dL_isSo_422 : decode cL_isSo 422 = .ok (.iconst 3, 1) := by decide +kernel
theorem dL_isSo_423 : decode cL_isSo 423 = .ok (.irem, 1) := by decide +kernel
theorem dL_isSo_424 : decode cL_isSo 424 = .ok (.ishl, 1) := by decide +kernel
theorem dL_isSo_425 : decode cL_isSo 425 = .ok (.ixor, 1) := by decide +kernel
theorem dL_isSo_426 : decode cL_isSo 426 = .ok (.iastore, 1) := by decide +kernel
theorem dL_isSo_427 : decode cL_isSo 427 = .ok (.iload 14, 2) := by decide +kernel
theorem dL_isSo_429 : decode cL_isSo 429 = .ok (.ifCond .eq 28, 3) := by decide +kernel
theorem dL_isSo_432 : decode cL_isSo 432 = .ok (.aload_n 0, 1) := by decide +kernel
theorem dL_isSo_433 : decode cL_isSo 433 = .ok (.iload 8, 2) := by decide +kernel
theorem dL_isSo_435 : decode cL_isSo 435 = .ok (.iload 10, 2) := by decide +kernel
theorem dL_isSo_437 : decode cL_isSo 437 = .ok (.iconst 3, 1) := by decide +kernel
theorem dL_isSo_438 : decode cL_isSo 438 = .ok (.irem, 1) := by decide +kernel
theorem dL_isSo_439 : decode cL_isSo 439 = .ok (.invokevirtual 175, 3) := by decide +kernel
theorem dL_isSo_442 : decode cL_isSo 442 = .ok (.aload 12, 2) := by decide +kernel
theorem dL_isSo_444 : decode cL_isSo 444 = .ok (.aload_n 2, 1) := by decide +kernel
theorem dL_isSo_445 : decode cL_isSo 445 = .ok (.aload 7, 2) := by decide +kernel
theorem dL_isSo_447 : decode cL_isSo 447 = .ok (.invokestatic 134, 3) := by decide +kernel
theorem dL_isSo_450 : decode cL_isSo 450 = .ok (.if_icmp .ne 7, 3) := by decide +kernel
theorem dL_isSo_453 : decode cL_isSo 453 = .ok (.iconst 1, 1) := by decide +kernel
theorem dL_isSo_454 : decode cL_isSo 454 = .ok (.goto 4, 3) := by decide +kernel
theorem dL_isSo_457 : decode cL_isSo 457 = .ok (.iconst 0, 1) := by decide +kernel
theorem dL_isSo_458 : decode cL_isSo 458 = .ok (.ireturn, 1) := by decide +kernel
theorem dL_areSo_0 : decode cL_areSo 0 = .ok (.aload_n 0, 1) := by decide +kernel
theorem dL_areSo_1 : decode cL_areSo 1 = .ok (.bipush 9, 2) := by decide +kernel
theorem dL_areSo_3 : decode cL_areSo 3 = .ok (.aload 8, 2) := by decide +kernel
theorem dL_areSo_5 : decode cL_areSo 5 = .ok (.iconst 1, 1) := by decide +kernel
theorem dL_areSo_6 : decode cL_areSo 6 = .ok (.iaload, 1) := by decide +kernel
theorem dL_areSo_7 : decode cL_areSo 7 = .ok (.iconst 0, 1) := by decide +kernel
theorem dL_areSo_8 : decode cL_areSo 8 = .ok (.iconst 0, 1) := by decide +kernel
theorem dL_areSo_9 : decode cL_areSo 9 = .ok (.iconst 0, 1) := by decide +kernel
theorem dL_areSo_10 : decode cL_areSo 10 = .ok (.iconst 0, 1) := by decide +kernel
theorem dL_areSo_11 : decode cL_areSo 11 = .ok (.invokestatic 123, 3) := by decide +kernel
theorem dL_areSo_14 : decode cL_areSo 14 = .ok (.ldc 61, 2) := by decide +kernel
theorem dL_areSo_16 : decode cL_areSo 16 = .ok (.if_icmp .ne 60, 3) := by decide +kernel
theorem dL_areSo_19 : decode cL_areSo 19 = .ok (.aload_n 0, 1) := by decide +kernel
theorem dL_areSo_20 : decode cL_areSo 20 = .ok (.bipush 8, 2) := by decide +kernel
theorem dL_areSo_22 : decode cL_areSo 22 = .ok (.iconst 3, 1) := by decide +kernel
theorem dL_areSo_23 : decode cL_areSo 23 = .ok (.iconst 0, 1) := by decide +kernel
theorem dL_areSo_24 : decode cL_areSo 24 = .ok (.iconst 0, 1) := by decide +kernel
theorem dL_areSo_25 : decode cL_areSo 25 = .ok (.iconst 0, 1) := by decide +kernel
theorem dL_areSo_26 : decode cL_areSo 26 = .ok (.iconst 0, 1) := by decide +kernel
theorem dL_areSo_27 : decode cL_areSo 27 = .ok (.invokestatic 123, 3) := by decide +kernel
theorem dL_areSo_30 : decode cL_areSo 30 = .ok (.ldc 61, 2) := by decide +kernel
theorem dL_areSo_32 : decode cL_areSo 32 = .ok (.if_icmp .ne 44, 3) := by decide +kernel
theorem dL_areSo_35 : decode cL_areSo 35 = .ok (.aload_n 0, 1) := by decide +kernel
theorem dL_areSo_36 : decode cL_areSo 36 = .ok (.iload 9, 2) := by decide +kernel
theorem dL_areSo_38 : decode cL_areSo 38 = .ok (.bipush 50, 2) := by decide +kernel
theorem dL_areSo_40 : decode cL_areSo 40 = .ok (.irem, 1) := by decide +kernel
theorem dL_areSo_41 : decode cL_areSo 41 = .ok (.iload 10, 2) := by decide +kernel
theorem dL_areSo_43 : decode cL_areSo 43 = .ok (.bipush 50, 2) := by decide +kernel
theorem dL_areSo_45 : decode cL_areSo 45 = .ok (.irem, 1) := by decide +kernel
theorem dL_areSo_46 : decode cL_areSo 46 = .ok (.invokevirtual 178, 3) := by decide +kernel
theorem dL_areSo_49 : decode cL_areSo 49 = .ok (.aload_n 2, 1) := by decide +kernel
theorem dL_areSo_50 : decode cL_areSo 50 = .ok (.aload 6, 2) := by decide +kernel
theorem dL_areSo_52 : decode cL_areSo 52 = .ok (.iload 9, 2) := by decide +kernel
theorem dL_areSo_54 : decode cL_areSo 54 = .ok (.bipush 50, 2) := by decide +kernel
theorem dL_areSo_56 : decode cL_areSo 56 = .ok (.irem, 1) := by decide +kernel
theorem dL_areSo_57 : decode cL_areSo 57 = .ok (.iaload, 1) := by decide +kernel
theorem dL_areSo_58 : decode cL_areSo 58 = .ok (.aload 6, 2) := by decide +kernel
theorem dL_areSo_60 : decode cL_areSo 60 = .ok (.iload 10, 2) := by decide +kernel
theorem dL_areSo_62 : decode cL_areSo 62 = .ok (.bipush 50, 2) := by decide +kernel
theorem dL_areSo_64 : decode cL_areSo 64 = .ok (.irem, 1) := by decide +kernel
theorem dL_areSo_65 : decode cL_areSo 65 = .ok (.iaload, 1) := by decide +kernel
theorem dL_areSo_66 : decode cL_areSo 66 = .ok (.invokestatic 111, 3) := by decide +kernel
theorem dL_areSo_69 : decode cL_areSo 69 = .ok (.if_icmp .ne 7, 3) := by decide +kernel
theorem dL_areSo_72 : decode cL_areSo 72 = .ok (.iconst 1, 1) := by decide +kernel
theorem dL_areSo_73 : decode cL_areSo 73 = .ok (.goto 4, 3) := by decide +kernel
theorem dL_areSo_76 : decode cL_areSo 76 = .ok (.iconst 0, 1) := by decide +kernel
theorem dL_areSo_77 : decode cL_areSo 77 = .ok (.istore 13, 2) := by decide +kernel
theorem dL_areSo_79 : decode cL_areSo 79 = .ok (.aload 8, 2) := by decide +kernel
theorem dL_areSo_81 : decode cL_areSo 81 = .ok (.iconst 0, 1) := by decide +kernel
theorem dL_areSo_82 : decode cL_areSo 82 = .ok (.iaload, 1) := by decide +kernel
theorem dL_areSo_83 : decode cL_areSo 83 = .ok (.ifCond .le 98, 3) := by decide +kernel
theorem dL_areSo_86 : decode cL_areSo 86 = .ok (.iload 13, 2) := by decide +kernel
theorem dL_areSo_88 : decode cL_areSo 88 = .ok (.ifCond .eq 93, 3) := by decide +kernel
theorem dL_areSo_91 : decode cL_areSo 91 = .ok (.iload 9, 2) := by decide +kernel
theorem dL_areSo_93 : decode cL_areSo 93 = .ok (.aload 8, 2) := by decide +kernel
theorem dL_areSo_95 : decode cL_areSo 95 = .ok (.iconst 0, 1) := by decide +kernel
theorem dL_areSo_96 : decode cL_areSo 96 = .ok (.iaload, 1) := by decide +kernel
theorem dL_areSo_97 : decode cL_areSo 97 = .ok (.irem, 1) := by decide +kernel
theorem dL_areSo_98 : decode cL_areSo 98 = .ok (.istore 14, 2) := by decide +kernel
theorem dL_areSo_100 : decode cL_areSo 100 = .ok (.iload 10, 2) := by decide +kernel
theorem dL_areSo_102 : decode cL_areSo 102 = .ok (.iconst 4, 1) := by decide +kernel
theorem dL_areSo_103 : decode cL_areSo 103 = .ok (.irem, 1) := by decide +kernel
theorem dL_areSo_104 : decode cL_areSo 104 = .ok (.istore 15, 2) := by decide +kernel
theorem dL_areSo_106 : decode cL_areSo 106 = .ok (.iconst 0, 1) := by decide +kernel
theorem dL_areSo_107 : decode cL_areSo 107 = .ok (.istore 16, 2) := by decide +kernel
theorem dL_areSo_109 : decode cL_areSo 109 = .ok (.iload 16, 2) := by decide +kernel
theorem dL_areSo_111 : decode cL_areSo 111 = .ok (.iconst 5, 1) := by decide +kernel
theorem dL_areSo_112 : decode cL_areSo 112 = .ok (.if_icmp .ge 69, 3) := by decide +kernel
theorem dL_areSo_115 : decode cL_areSo 115 = .ok (.iload 13, 2) := by decide +kernel
theorem dL_areSo_117 : decode cL_areSo 117 = .ok (.ifCond .eq 64, 3) := by decide +kernel
theorem dL_areSo_120 : decode cL_areSo 120 = .ok (.aload_n 0, 1) := by decide +kernel
theorem dL_areSo_121 : decode cL_areSo 121 = .ok (.iload 15, 2) := by decide +kernel
theorem dL_areSo_123 : decode cL_areSo 123 = .ok (.iconst 3, 1) := by decide +kernel
theorem dL_areSo_124 : decode cL_areSo 124 = .ok (.if_icmp .ne 7, 3) := by decide +kernel
theorem dL_areSo_127 : decode cL_areSo 127 = .ok (.iconst (-1), 1) := by decide +kernel
theorem dL_areSo_128 : decode cL_areSo 128 = .ok (.goto 5, 3) := by decide +kernel
theorem dL_areSo_131 : decode cL_areSo 131 = .ok (.iload 15, 2) := by decide +kernel
theorem dL_areSo_133 : decode cL_areSo 133 = .ok (.iload 14, 2) := by decide +kernel
theorem dL_areSo_135 : decode cL_areSo 135 = .ok (.iload 16, 2) := by decide +kernel
theorem dL_areSo_137 : decode cL_areSo 137 = .ok (.invokevirtual 40, 3) := by decide +kernel
theorem dL_areSo_140 : decode cL_areSo 140 = .ok (.iload 16, 2) := by decide +kernel
theorem dL_areSo_142 : decode cL_areSo 142 = .ok (.aload_n 2, 1) := by decide +kernel
theorem dL_areSo_143 : decode cL_areSo 143 = .ok (.iload 14, 2) := by decide +kernel
theorem dL_areSo_145 : decode cL_areSo 145 = .ok (.iaload, 1) := by decide +kernel
theorem dL_areSo_146 : decode cL_areSo 146 = .ok (.if_icmp .ge 18, 3) := by decide +kernel
theorem dL_areSo_149 : decode cL_areSo 149 = .ok (.aload_n 1, 1) := by decide +kernel
theorem dL_areSo_150 : decode cL_areSo 150 = .ok (.aload_n 2, 1) := by decide +kernel
theorem dL_areSo_151 : decode cL_areSo 151 = .ok (.aload_n 3, 1) := by decide +kernel
theorem dL_areSo_152 : decode cL_areSo 152 = .ok (.iload 15, 2) := by decide +kernel
theorem dL_areSo_154 : decode cL_areSo 154 = .ok (.iload 14, 2) := by decide +kernel
theorem dL_areSo_156 : decode cL_areSo 156 = .ok (.iload 16, 2) := by decide +kernel
theorem dL_areSo_158 : decode cL_areSo 158 = .ok (.invokestatic 75, 3) := by decide +kernel
theorem dL_areSo_161 : decode cL_areSo 161 = .ok (.goto 4, 3) := by decide +kernel
theorem dL_areSo_164 : decode cL_areSo 164 = .ok (.iconst (-1), 1) := by decide +kernel
theorem dL_areSo_165 : decode cL_areSo 165 = .ok (.if_icmp .ne 7, 3) := by decide +kernel
theorem dL_areSo_168 : decode cL_areSo 168 = .ok (.iconst 1, 1) := by decide +kernel
theorem dL_areSo_169 : decode cL_areSo 169 = .ok (.goto 4, 3) := by decide +kernel
theorem dL_areSo_172 : decode cL_areSo 172 = .ok (.iconst 0, 1) := by decide +kernel
theorem dL_areSo_173 : decode cL_areSo 173 = .ok (.istore 13, 2) := by decide +kernel
theorem dL_areSo_175 : decode cL_areSo 175 = .ok (.iinc 16 1, 3) := by decide +kernel
theorem dL_areSo_178 : decode cL_areSo 178 = .ok (.goto (-69), 3) := by decide +kernel
theorem dL_areSo_181 : decode cL_areSo 181 = .ok (.aload 8, 2) := by decide +kernel
theorem dL_areSo_183 : decode cL_areSo 183 = .ok (.iconst 1, 1) := by decide +kernel
theorem dL_areSo_184 : decode cL_areSo 184 = .ok (.iaload, 1) := by decide +kernel
theorem dL_areSo_185 : decode cL_areSo 185 = .ok (.iconst 2, 1) := by decide +kernel
theorem dL_areSo_186 : decode cL_areSo 186 = .ok (.if_icmp .lt 8, 3) := by decide +kernel
theorem dL_areSo_189 : decode cL_areSo 189 = .ok (.iload 13, 2) := by decide +kernel
theorem dL_areSo_191 : decode cL_areSo 191 = .ok (.ifCond .ne 6, 3) := by decide +kernel
theorem dL_areSo_194 : decode cL_areSo 194 = .ok (.iload 13, 2) := by decide +kernel
theorem dL_areSo_196 : decode cL_areSo 196 = .ok (.ireturn, 1) := by decide +kernel
theorem dL_areSo_197 : decode cL_areSo 197 = .ok (.iconst 0, 1) := by decide +kernel
theorem dL_areSo_198 : decode cL_areSo 198 = .ok (.istore 14, 2) := by decide +kernel
theorem dL_areSo_200 : decode cL_areSo 200 = .ok (.iconst 0, 1) := by decide +kernel
theorem dL_areSo_201 : decode cL_areSo 201 = .ok (.istore 15, 2) := by decide +kernel
theorem dL_areSo_203 : decode cL_areSo 203 = .ok (.iconst 0, 1) := by decide +kernel
theorem dL_areSo_204 : decode cL_areSo 204 = .ok (.istore 16, 2) := by decide +kernel
theorem dL_areSo_206 : decode cL_areSo 206 = .ok (.iload 16, 2) := by decide +kernel
theorem dL_areSo_208 : decode cL_areSo 208 = .ok (.iconst 4, 1) := by decide +kernel
theorem dL_areSo_209 : decode cL_areSo 209 = .ok (.if_icmp .ge 124, 3) := by decide +kernel
theorem dL_areSo_212 : decode cL_areSo 212 = .ok (.iload 13, 2) := by decide +kernel
theorem dL_areSo_214 : decode cL_areSo 214 = .ok (.ifCond .eq 119, 3) := by decide +kernel
theorem dL_areSo_217 : decode cL_areSo 217 = .ok (.aload_n 1, 1) := by decide +kernel
theorem dL_areSo_218 : decode cL_areSo 218 = .ok (.aload_n 2, 1) := by decide +kernel
theorem dL_areSo_219 : decode cL_areSo 219 = .ok (.aload_n 3, 1) := by decide +kernel
theorem dL_areSo_220 : decode cL_areSo 220 = .ok (.aload 4, 2) := by decide +kernel
theorem dL_areSo_222 : decode cL_areSo 222 = .ok (.aload 6, 2) := by decide +kernel
theorem dL_areSo_224 : decode cL_areSo 224 = .ok (.aload 7, 2) := by decide +kernel
theorem dL_areSo_226 : decode cL_areSo 226 = .ok (.aload 8, 2) := by decide +kernel
theorem dL_areSo_228 : decode cL_areSo 228 = .ok (.iload 16, 2) := by decide +kernel
theorem dL_areSo_230 : decode cL_areSo 230 = .ok (.aload 11, 2) := by decide +kernel
theorem dL_areSo_232 : decode cL_areSo 232 = .ok (.aload 12, 2) := by decide +kernel
theorem dL_areSo_234 : decode cL_areSo 234 = .ok (.invokestatic 180, 3) := by decide +kernel
theorem dL_areSo_237 : decode cL_areSo 237 = .ok (.istore 17, 2) := by decide +kernel
theorem dL_areSo_239 : decode cL_areSo 239 = .ok (.aload_n 1, 1) := by decide +kernel
theorem dL_areSo_240 : decode cL_areSo 240 = .ok (.aload_n 2, 1) := by decide +kernel
theorem dL_areSo_241 : decode cL_areSo 241 = .ok (.aload_n 3, 1) := by decide +kernel
theorem dL_areSo_242 : decode cL_areSo 242 = .ok (.aload 5, 2) := by decide +kernel
theorem dL_areSo_244 : decode cL_areSo 244 = .ok (.aload 6, 2) := by decide +kernel
theorem dL_areSo_246 : decode cL_areSo 246 = .ok (.aload 7, 2) := by decide +kernel
theorem dL_areSo_248 : decode cL_areSo 248 = .ok (.aload 8, 2) := by decide +kernel
theorem dL_areSo_250 : decode cL_areSo 250 = .ok (.iload 16, 2) := by decide +kernel
theorem dL_areSo_252 : decode cL_areSo 252 = .ok (.aload 11, 2) := by decide +kernel
theorem dL_areSo_254 : decode cL_areSo 254 = .ok (.aload 12, 2) := by decide +kernel
theorem dL_areSo_256 : decode cL_areSo 256 = .ok (.invokestatic 180, 3) := by decide +kernel
theorem dL_areSo_259 : decode cL_areSo 259 = .ok (.istore 18, 2) := by decide +kernel
theorem dL_areSo_261 : decode cL_areSo 261 = .ok (.aload_n 0, 1) := by decide +kernel
theorem dL_areSo_262 : decode cL_areSo 262 = .ok (.iload 16, 2) := by decide +kernel
theorem dL_areSo_264 : decode cL_areSo 264 = .ok (.iconst 0, 1) := by decide +kernel
theorem dL_areSo_265 : decode cL_areSo 265 = .ok (.invokevirtual 184, 3) := by decide +kernel
theorem dL_areSo_268 : decode cL_areSo 268 = .ok (.iload 17, 2) := by decide +kernel
theorem dL_areSo_270 : decode cL_areSo 270 = .ok (.if_icmp .ne 19, 3) := by decide +kernel
theorem dL_areSo_273 : decode cL_areSo 273 = .ok (.aload_n 0, 1) := by decide +kernel
theorem dL_areSo_274 : decode cL_areSo 274 = .ok (.iload 16, 2) := by decide +kernel
theorem dL_areSo_276 : decode cL_areSo 276 = .ok (.iconst 1, 1) := by decide +kernel
theorem dL_areSo_277 : decode cL_areSo 277 = .ok (.invokevirtual 184, 3) := by decide +kernel
theorem dL_areSo_280 : decode cL_areSo 280 = .ok (.iload 18, 2) := by decide +kernel
theorem dL_areSo_282 : decode cL_areSo 282 = .ok (.if_icmp .ne 7, 3) := by decide +kernel
theorem dL_areSo_285 : decode cL_areSo 285 = .ok (.iconst 1, 1) := by decide +kernel
theorem dL_areSo_286 : decode cL_areSo 286 = .ok (.goto 4, 3) := by decide +kernel
theorem dL_areSo_289 : decode cL_areSo 289 = .ok (.iconst 0, 1) := by decide +kernel
theorem dL_areSo_290 : decode cL_areSo 290 = .ok (.istore 13, 2) := by decide +kernel
theorem dL_areSo_292 : decode cL_areSo 292 = .ok (.iload 14, 2) := by decide +kernel
theorem dL_areSo_294 : decode cL_areSo 294 = .ok (.iload 17, 2) := by decide +kernel
theorem dL_areSo_296 : decode cL_areSo 296 = .ok (.iload 18, 2) := by decide +kernel
theorem dL_areSo_298 : decode cL_areSo 298 = .ok (.if_icmp .gt 13, 3) := by decide +kernel
theorem dL_areSo_301 : decode cL_areSo 301 = .ok (.aload 7, 2) := by decide +kernel
theorem dL_areSo_303 : decode cL_areSo 303 = .ok (.iconst 3, 1) := by decide +kernel
theorem dL_areSo_304 : decode cL_areSo 304 = .ok (.iload 16, 2) := by decide +kernel
theorem dL_areSo_306 : decode cL_areSo 306 = .ok (.imul, 1) := by decide +kernel
theorem dL_areSo_307 : decode cL_areSo 307 = .ok (.iaload, 1) := by decide +kernel
theorem dL_areSo_308 : decode cL_areSo 308 = .ok (.goto 4, 3) := by decide +kernel
theorem dL_areSo_311 : decode cL_areSo 311 = .ok (.iconst 0, 1) := by decide +kernel
theorem dL_areSo_312 : decode cL_areSo 312 = .ok (.iadd, 1) := by decide +kernel
theorem dL_areSo_313 : decode cL_areSo 313 = .ok (.istore 14, 2) := by decide +kernel
theorem dL_areSo_315 : decode cL_areSo 315 = .ok (.iload 15, 2) := by decide +kernel
theorem dL_areSo_317 : decode cL_areSo 317 = .ok (.aload 7, 2) := by decide +kernel
theorem dL_areSo_319 : decode cL_areSo 319 = .ok (.iconst 3, 1) := by decide +kernel
theorem dL_areSo_320 : decode cL_areSo 320 = .ok (.iload 16, 2) := by decide +kernel
theorem dL_areSo_322 : decode cL_areSo 322 = .ok (.imul, 1) := by decide +kernel
theorem dL_areSo_323 : decode cL_areSo 323 = .ok (.iaload, 1) := by decide +kernel
theorem dL_areSo_324 : decode cL_areSo 324 = .ok (.iadd, 1) := by decide +kernel
theorem dL_areSo_325 : decode cL_areSo 325 = .ok (.istore 15, 2) := by decide +kernel
theorem dL_areSo_327 : decode cL_areSo 327 = .ok (.iinc 16 1, 3) := by decide +kernel
theorem dL_areSo_330 : decode cL_areSo 330 = .ok (.goto (-124), 3) := by decide +kernel
theorem dL_areSo_333 : decode cL_areSo 333 = .ok (.iload 13, 2) := by decide +kernel
theorem dL_areSo_335 : decode cL_areSo 335 = .ok (.ifCond .eq 68, 3) := by decide +kernel
theorem dL_areSo_338 : decode cL_areSo 338 = .ok (.aload_n 0, 1) := by decide +kernel
theorem dL_areSo_339 : decode cL_areSo 339 = .ok (.iconst 0, 1) := by decide +kernel
theorem dL_areSo_340 : decode cL_areSo 340 = .ok (.invokevirtual 186, 3) := by decide +kernel
theorem dL_areSo_343 : decode cL_areSo 343 = .ok (.iload 14, 2) := by decide +kernel
theorem dL_areSo_345 : decode cL_areSo 345 = .ok (.if_icmp .ne 58, 3) := by decide +kernel
theorem dL_areSo_348 : decode cL_areSo 348 = .ok (.aload_n 0, 1) := by decide +kernel
theorem dL_areSo_349 : decode cL_areSo 349 = .ok (.iconst 1, 1) := by decide +kernel
theorem dL_areSo_350 : decode cL_areSo 350 = .ok (.invokevirtual 186, 3) := by decide +kernel
theorem dL_areSo_353 : decode cL_areSo 353 = .ok (.iload 15, 2) := by decide +kernel
theorem dL_areSo_355 : decode cL_areSo 355 = .ok (.iload 14, 2) := by decide +kernel
theorem dL_areSo_357 : decode cL_areSo 357 = .ok (.isub, 1) := by decide +kernel
theorem dL_areSo_358 : decode cL_areSo 358 = .ok (.if_icmp .ne 45, 3) := by decide +kernel
theorem dL_areSo_361 : decode cL_areSo 361 = .ok (.aload_n 0, 1) := by decide +kernel
theorem dL_areSo_362 : decode cL_areSo 362 = .ok (.bipush 12, 2) := by decide +kernel
theorem dL_areSo_364 : decode cL_areSo 364 = .ok (.iconst 0, 1) := by decide +kernel
theorem dL_areSo_365 : decode cL_areSo 365 = .ok (.iconst 0, 1) := by decide +kernel
theorem dL_areSo_366 : decode cL_areSo 366 = .ok (.iconst 0, 1) := by decide +kernel
theorem dL_areSo_367 : decode cL_areSo 367 = .ok (.iconst 0, 1) := by decide +kernel
theorem dL_areSo_368 : decode cL_areSo 368 = .ok (.iconst 0, 1) := by decide +kernel
theorem dL_areSo_369 : decode cL_areSo 369 = .ok (.invokestatic 123, 3) := by decide +kernel
theorem dL_areSo_372 : decode cL_areSo 372 = .ok (.iload 15, 2) := by decide +kernel
theorem dL_areSo_374 : decode cL_areSo 374 = .ok (.ifCond .ne 7, 3) := by decide +kernel
theorem dL_areSo_377 : decode cL_areSo 377 = .ok (.iconst (-1), 1) := by decide +kernel
theorem dL_areSo_378 : decode cL_areSo 378 = .ok (.goto 18, 3) := by decide +kernel
theorem dL_areSo_381 : decode cL_areSo 381 = .ok (.iload 14, 2) := by decide +kernel
theorem dL_areSo_383 : decode cL_areSo 383 = .ok (.iload 15, 2) := by decide +kernel
theorem dL_areSo_385 : decode cL_areSo 385 = .ok (.iload 14, 2) := by decide +kernel
theorem dL_areSo_387 : decode cL_areSo 387 = .ok (.isub, 1) := by decide +kernel
theorem dL_areSo_388 : decode cL_areSo 388 = .ok (.if_icmp .lt 7, 3) := by decide +kernel
theorem dL_areSo_391 : decode cL_areSo 391 = .ok (.iconst 0, 1) := by decide +kernel
theorem dL_areSo_392 : decode cL_areSo 392 = .ok (.goto 4, 3) := by decide +kernel
theorem dL_areSo_395 : decode cL_areSo 395 = .ok (.iconst 1, 1) := by decide +kernel
theorem dL_areSo_396 : decode cL_areSo 396 = .ok (.if_icmp .ne 7, 3) := by decide +kernel
theorem dL_areSo_399 : decode cL_areSo 399 = .ok (.iconst 1, 1) := by decide +kernel
theorem dL_areSo_400 : decode cL_areSo 400 = .ok (.goto 4, 3) := by decide +kernel
theorem dL_areSo_403 : decode cL_areSo 403 = .ok (.iconst 0, 1) := by decide +kernel
theorem dL_areSo_404 : decode cL_areSo 404 = .ok (.istore 13, 2) := by decide +kernel
theorem dL_areSo_406 : decode cL_areSo 406 = .ok (.aload_n 1, 1) := by decide +kernel
theorem dL_areSo_407 : decode cL_areSo 407 = .ok (.aload_n 2, 1) := by decide +kernel
theorem dL_areSo_408 : decode cL_areSo 408 = .ok (.aload_n 3, 1) := by decide +kernel
theorem dL_areSo_409 : decode cL_areSo 409 = .ok (.aload 4, 2) := by decide +kernel
theorem dL_areSo_411 : decode cL_areSo 411 = .ok (.aload 8, 2) := by decide +kernel
theorem dL_areSo_413 : decode cL_areSo 413 = .ok (.aload 4, 2) := by decide +kernel
theorem dL_areSo_415 : decode cL_areSo 415 = .ok (.bipush 48, 2) := by decide +kernel
theorem dL_areSo_417 : decode cL_areSo 417 = .ok (.iaload, 1) := by decide +kernel
theorem dL_areSo_418 : decode cL_areSo 418 = .ok (.ifCond .ne 7, 3) := by decide +kernel
theorem dL_areSo_421 : decode cL_areSo 421 = .ok (.iconst 3, 1) := by decide +kernel
theorem dL_areSo_422 : decode cL_areSo 422 = .ok (.goto 10, 3) := by decide +kernel
theorem dL_areSo_425 : decode cL_areSo 425 = .ok (.aload 4, 2) := by decide +kernel
theorem dL_areSo_427 : decode cL_areSo 427 = .ok (.bipush 48, 2) := by decide +kernel
theorem dL_areSo_429 : decode cL_areSo 429 = .ok (.iaload, 1) := by decide +kernel
theorem dL_areSo_430 : decode cL_areSo 430 = .ok (.iconst 1, 1) := by decide +kernel
theorem dL_areSo_431 : decode cL_areSo 431 = .ok (.isub, 1) := by decide +kernel
theorem dL_areSo_432 : decode cL_areSo 432 = .ok (.aload 11, 2) := by decide +kernel
theorem dL_areSo_434 : decode cL_areSo 434 = .ok (.invokestatic 130, 3) := by decide +kernel
theorem dL_areSo_437 : decode cL_areSo 437 = .ok (.aload_n 1, 1) := by decide +kernel
theorem dL_areSo_438 : decode cL_areSo 438 = .ok (.aload_n 2, 1) := by decide +kernel
theorem dL_areSo_439 : decode cL_areSo 439 = .ok (.aload_n 3, 1) := by decide +kernel
theorem dL_areSo_440 : decode cL_areSo 440 = .ok (.aload 5, 2) := by decide +kernel
theorem dL_areSo_442 : decode cL_areSo 442 = .ok (.aload 8, 2) := by decide +kernel
theorem dL_areSo_444 : decode cL_areSo 444 = .ok (.aload 5, 2) := by decide +kernel
theorem dL_areSo_446 : decode cL_areSo 446 = .ok (.bipush 48, 2) := by decide +kernel
theorem dL_areSo_448 : decode cL_areSo 448 = .ok (.iaload, 1) := by decide +kernel
theorem dL_areSo_449 : decode cL_areSo 449 = .ok (.ifCond .ne 7, 3) := by decide +kernel
theorem dL_areSo_452 : decode cL_areSo 452 = .ok (.iconst 3, 1) := by decide +kernel
theorem dL_areSo_453 : decode cL_areSo 453 = .ok (.goto 10, 3) := by decide +kernel
theorem dL_areSo_456 : decode cL_areSo 456 = .ok (.aload 5, 2) := by decide +kernel
theorem dL_areSo_458 : decode cL_areSo 458 = .ok (.bipush 48, 2) := by decide +kernel
theorem dL_areSo_460 : decode cL_areSo 460 = .ok (.iaload, 1) := by decide +kernel
theorem dL_areSo_461 : decode cL_areSo 461 = .ok (.iconst 1, 1) := by decide +kernel
theorem dL_areSo_462 : decode cL_areSo 462 = .ok (.isub, 1) := by decide +kernel
theorem dL_areSo_463 : decode cL_areSo 463 = .ok (.aload 12, 2) := by decide +kernel
theorem dL_areSo_465 : decode cL_areSo 465 = .ok (.invokestatic 130, 3) := by decide +kernel
theorem dL_areSo_468 : decode cL_areSo 468 = .ok (.iconst 0, 1) := by decide +kernel
theorem dL_areSo_469 : decode cL_areSo 469 = .ok (.istore 16, 2) := by decide +kernel
theorem dL_areSo_471 : decode cL_areSo 471 = .ok (.iconst 0, 1) := by decide +kernel
theorem dL_areSo_472 : decode cL_areSo 472 = .ok (.istore 17, 2) := by decide +kernel
theorem dL_areSo_474 : decode cL_areSo 474 = .ok (.iconst 0, 1) := by decide +kernel
theorem dL_areSo_475 : decode cL_areSo 475 = .ok (.istore 18, 2) := by decide +kernel
theorem dL_areSo_477 : decode cL_areSo 477 = .ok (.iconst 0, 1) := by decide +kernel
theorem dL_areSo_478 : decode cL_areSo 478 = .ok (.istore 19, 2) := by decide +kernel
theorem dL_areSo_480 : decode cL_areSo 480 = .ok (.iload 19, 2) := by decide +kernel
theorem dL_areSo_482 : decode cL_areSo 482 = .ok (.aload 8, 2) := by decide +kernel
theorem dL_areSo_484 : decode cL_areSo 484 = .ok (.iconst 0, 1) := by decide +kernel
theorem dL_areSo_485 : decode cL_areSo 485 = .ok (.iaload, 1) := by decide +kernel
theorem dL_areSo_486 : decode cL_areSo 486 = .ok (.if_icmp .ge 180, 3) := by decide +kernel
theorem dL_areSo_489 : decode cL_areSo 489 = .ok (.iconst 0, 1) := by decide +kernel
theorem dL_areSo_490 : decode cL_areSo 490 = .ok (.istore 20, 2) := by decide +kernel
theorem dL_areSo_492 : decode cL_areSo 492 = .ok (.iconst 0, 1) := by decide +kernel
theorem dL_areSo_493 : decode cL_areSo 493 = .ok (.istore 21, 2) := by decide +kernel
theorem dL_areSo_495 : decode cL_areSo 495 = .ok (.iconst 0, 1) := by decide +kernel
theorem dL_areSo_496 : decode cL_areSo 496 = .ok (.istore 22, 2) := by decide +kernel
theorem dL_areSo_498 : decode cL_areSo 498 = .ok (.iload 22, 2) := by decide +kernel
theorem dL_areSo_500 : decode cL_areSo 500 = .ok (.aload 8, 2) := by decide +kernel
theorem dL_areSo_502 : decode cL_areSo 502 = .ok (.iconst 0, 1) := by decide +kernel
theorem dL_areSo_503 : decode cL_areSo 503 = .ok (.iaload, 1) := by decide +kernel
theorem dL_areSo_504 : decode cL_areSo 504 = .ok (.if_icmp .ge 89, 3) := by decide +kernel
theorem dL_areSo_507 : decode cL_areSo 507 = .ok (.iload 20, 2) := by decide +kernel
theorem dL_areSo_509 : decode cL_areSo 509 = .ok (.ifCond .ne 31, 3) := by decide +kernel
theorem dL_areSo_512 : decode cL_areSo 512 = .ok (.aload 11, 2) := by decide +kernel
theorem dL_areSo_514 : decode cL_areSo 514 = .ok (.iload 19, 2) := by decide +kernel
theorem dL_areSo_516 : decode cL_areSo 516 = .ok (.aload 11, 2) := by decide +kernel
theorem dL_areSo_518 : decode cL_areSo 518 = .ok (.iload 22, 2) := by decide +kernel
theorem dL_areSo_520 : decode cL_areSo 520 = .ok (.invokestatic 89, 3) := by decide +kernel
theorem dL_areSo_523 : decode cL_areSo 523 = .ok (.ifCond .eq 21, 3) := by decide +kernel
theorem dL_areSo_526 : decode cL_areSo 526 = .ok (.aload 12, 2) := by decide +kernel
theorem dL_areSo_528 : decode cL_areSo 528 = .ok (.iload 19, 2) := by decide +kernel
theorem dL_areSo_530 : decode cL_areSo 530 = .ok (.aload 12, 2) := by decide +kernel
theorem dL_areSo_532 : decode cL_areSo 532 = .ok (.iload 22, 2) := by decide +kernel
theorem dL_areSo_534 : decode cL_areSo 534 = .ok (.invokestatic 89, 3) := by decide +kernel
theorem dL_areSo_537 : decode cL_areSo 537 = .ok (.ifCond .ne 7, 3) := by decide +kernel
theorem dL_areSo_540 : decode cL_areSo 540 = .ok (.iconst 1, 1) := by decide +kernel
theorem dL_areSo_541 : decode cL_areSo 541 = .ok (.goto 4, 3) := by decide +kernel
theorem dL_areSo_544 : decode cL_areSo 544 = .ok (.iconst 0, 1) := by decide +kernel
theorem dL_areSo_545 : decode cL_areSo 545 = .ok (.istore 20, 2) := by decide +kernel
theorem dL_areSo_547 : decode cL_areSo 547 = .ok (.iload 21, 2) := by decide +kernel
theorem dL_areSo_549 : decode cL_areSo 549 = .ok (.ifCond .ne 31, 3) := by decide +kernel
theorem dL_areSo_552 : decode cL_areSo 552 = .ok (.aload 12, 2) := by decide +kernel
theorem dL_areSo_554 : decode cL_areSo 554 = .ok (.iload 19, 2) := by decide +kernel
theorem dL_areSo_556 : decode cL_areSo 556 = .ok (.aload 12, 2) := by decide +kernel
theorem dL_areSo_558 : decode cL_areSo 558 = .ok (.iload 22, 2) := by decide +kernel
theorem dL_areSo_560 : decode cL_areSo 560 = .ok (.invokestatic 89, 3) := by decide +kernel
theorem dL_areSo_563 : decode cL_areSo 563 = .ok (.ifCond .eq 21, 3) := by decide +kernel
theorem dL_areSo_566 : decode cL_areSo 566 = .ok (.aload 11, 2) := by decide +kernel
theorem dL_areSo_568 : decode cL_areSo 568 = .ok (.iload 19, 2) := by decide +kernel
theorem dL_areSo_570 : decode cL_areSo 570 = .ok (.aload 11, 2) := by decide +kernel
theorem dL_areSo_572 : decode cL_areSo 572 = .ok (.iload 22, 2) := by decide +kernel
theorem dL_areSo_574 : decode cL_areSo 574 = .ok (.invokestatic 89, 3) := by decide +kernel
theorem dL_areSo_577 : decode cL_areSo 577 = .ok (.ifCond .ne 7, 3) := by decide +kernel
theorem dL_areSo_580 : decode cL_areSo 580 = .ok (.iconst 1, 1) := by decide +kernel
theorem dL_areSo_581 : decode cL_areSo 581 = .ok (.goto 4, 3) := by decide +kernel
theorem dL_areSo_584 : decode cL_areSo 584 = .ok (.iconst 0, 1) := by decide +kernel
theorem dL_areSo_585 : decode cL_areSo 585 = .ok (.istore 21, 2) := by decide +kernel
theorem dL_areSo_587 : decode cL_areSo 587 = .ok (.iinc 22 1, 3) := by decide +kernel
theorem dL_areSo_590 : decode cL_areSo 590 = .ok (.goto (-92), 3) := by decide +kernel
theorem dL_areSo_593 : decode cL_areSo 593 = .ok (.iload 17, 2) := by decide +kernel
theorem dL_areSo_595 : decode cL_areSo 595 = .ok (.iload 20, 2) := by decide +kernel
theorem dL_areSo_597 : decode cL_areSo 597 = .ok (.ifCond .eq 13, 3) := by decide +kernel
theorem dL_areSo_600 : decode cL_areSo 600 = .ok (.aload_n 2, 1) := by decide +kernel
theorem dL_areSo_601 : decode cL_areSo 601 = .ok (.bipush 8, 2) := by decide +kernel
theorem dL_areSo_603 : decode cL_areSo 603 = .ok (.iload 19, 2) := by decide +kernel
theorem dL_areSo_605 : decode cL_areSo 605 = .ok (.iadd, 1) := by decide +kernel
theorem dL_areSo_606 : decode cL_areSo 606 = .ok (.iaload, 1) := by decide +kernel
theorem dL_areSo_607 : decode cL_areSo 607 = .ok (.goto 4, 3) := by decide +kernel
theorem dL_areSo_610 : decode cL_areSo 610 = .ok (.iconst 0, 1) := by decide +kernel
theorem dL_areSo_611 : decode cL_areSo 611 = .ok (.iadd, 1) := by decide +kernel
theorem dL_areSo_612 : decode cL_areSo 612 = .ok (.istore 17, 2) := by decide +kernel
theorem dL_areSo_614 : decode cL_areSo 614 = .ok (.iload 18, 2) := by decide +kernel
theorem dL_areSo_616 : decode cL_areSo 616 = .ok (.iload 21, 2) := by decide +kernel
theorem dL_areSo_618 : decode cL_areSo 618 = .ok (.ifCond .eq 13, 3) := by decide +kernel
theorem dL_areSo_621 : decode cL_areSo 621 = .ok (.aload_n 2, 1) := by decide +kernel
theorem dL_areSo_622 : decode cL_areSo 622 = .ok (.bipush 8, 2) := by decide +kernel
theorem dL_areSo_624 : decode cL_areSo 624 = .ok (.iload 19, 2) := by decide +kernel
theorem dL_areSo_626 : decode cL_areSo 626 = .ok (.iadd, 1) := by decide +kernel
theorem dL_areSo_627 : decode cL_areSo 627 = .ok (.iaload, 1) := by decide +kernel
theorem dL_areSo_628 : decode cL_areSo 628 = .ok (.goto 4, 3) := by decide +kernel
theorem dL_areSo_631 : decode cL_areSo 631 = .ok (.iconst 0, 1) := by decide +kernel
theorem dL_areSo_632 : decode cL_areSo 632 = .ok (.iadd, 1) := by decide +kernel
theorem dL_areSo_633 : decode cL_areSo 633 = .ok (.istore 18, 2) := by decide +kernel
theorem dL_areSo_635 : decode cL_areSo 635 = .ok (.iload 16, 2) := by decide +kernel
theorem dL_areSo_637 : decode cL_areSo 637 = .ok (.aload_n 2, 1) := by decide +kernel
theorem dL_areSo_638 : decode cL_areSo 638 = .ok (.bipush 8, 2) := by decide +kernel
theorem dL_areSo_640 : decode cL_areSo 640 = .ok (.iload 19, 2) := by decide +kernel
theorem dL_areSo_642 : decode cL_areSo 642 = .ok (.iadd, 1) := by decide +kernel
theorem dL_areSo_643 : decode cL_areSo 643 = .ok (.iaload, 1) := by decide +kernel
theorem dL_areSo_644 : decode cL_areSo 644 = .ok (.aload_n 2, 1) := by decide +kernel
theorem dL_areSo_645 : decode cL_areSo 645 = .ok (.aload 11, 2) := by decide +kernel
theorem dL_areSo_647 : decode cL_areSo 647 = .ok (.iload 19, 2) := by decide +kernel
theorem dL_areSo_649 : decode cL_areSo 649 = .ok (.aload 12, 2) := by decide +kernel
theorem dL_areSo_651 : decode cL_areSo 651 = .ok (.iload 19, 2) := by decide +kernel
theorem dL_areSo_653 : decode cL_areSo 653 = .ok (.invokestatic 189, 3) := by decide +kernel
theorem dL_areSo_656 : decode cL_areSo 656 = .ok (.imul, 1) := by decide +kernel
theorem dL_areSo_657 : decode cL_areSo 657 = .ok (.iadd, 1) := by decide +kernel
theorem dL_areSo_658 : decode cL_areSo 658 = .ok (.istore 16, 2) := by decide +kernel
theorem dL_areSo_660 : decode cL_areSo 660 = .ok (.iinc 19 1, 3) := by decide +kernel
theorem dL_areSo_663 : decode cL_areSo 663 = .ok (.goto (-183), 3) := by decide +kernel
theorem dL_areSo_666 : decode cL_areSo 666 = .ok (.iload 13, 2) := by decide +kernel
theorem dL_areSo_668 : decode cL_areSo 668 = .ok (.ifCond .eq 60, 3) := by decide +kernel
theorem dL_areSo_671 : decode cL_areSo 671 = .ok (.aload_n 0, 1) := by decide +kernel
theorem dL_areSo_672 : decode cL_areSo 672 = .ok (.iconst 0, 1) := by decide +kernel
theorem dL_areSo_673 : decode cL_areSo 673 = .ok (.iconst 1, 1) := by decide +kernel
theorem dL_areSo_674 : decode cL_areSo 674 = .ok (.invokevirtual 193, 3) := by decide +kernel
theorem dL_areSo_677 : decode cL_areSo 677 = .ok (.iload 16, 2) := by decide +kernel
theorem dL_areSo_679 : decode cL_areSo 679 = .ok (.if_icmp .ne 49, 3) := by decide +kernel
theorem dL_areSo_682 : decode cL_areSo 682 = .ok (.aload_n 0, 1) := by decide +kernel
theorem dL_areSo_683 : decode cL_areSo 683 = .ok (.iconst 1, 1) := by decide +kernel
theorem dL_areSo_684 : decode cL_areSo 684 = .ok (.iconst 0, 1) := by decide +kernel
theorem dL_areSo_685 : decode cL_areSo 685 = .ok (.invokevirtual 193, 3) := by decide +kernel
theorem dL_areSo_688 : decode cL_areSo 688 = .ok (.iload 16, 2) := by decide +kernel
theorem dL_areSo_690 : decode cL_areSo 690 = .ok (.if_icmp .ne 38, 3) := by decide +kernel
theorem dL_areSo_693 : decode cL_areSo 693 = .ok (.aload_n 0, 1) := by decide +kernel
theorem dL_areSo_694 : decode cL_areSo 694 = .ok (.iconst 0, 1) := by decide +kernel
theorem dL_areSo_695 : decode cL_areSo 695 = .ok (.iconst 1, 1) := by decide +kernel
theorem dL_areSo_696 : decode cL_areSo 696 = .ok (.invokevirtual 196, 3) := by decide +kernel
theorem dL_areSo_699 : decode cL_areSo 699 = .ok (.iload 17, 2) := by decide +kernel
theorem dL_areSo_701 : decode cL_areSo 701 = .ok (.if_icmp .ne 27, 3) := by decide +kernel
theorem dL_areSo_704 : decode cL_areSo 704 = .ok (.aload_n 0, 1) := by decide +kernel
theorem dL_areSo_705 : decode cL_areSo 705 = .ok (.iconst 1, 1) := by decide +kernel
theorem dL_areSo_706 : decode cL_areSo 706 = .ok (.iconst 0, 1) := by decide +kernel
theorem dL_areSo_707 : decode cL_areSo 707 = .ok (.invokevirtual 196, 3) := by decide +kernel
theorem dL_areSo_710 : decode cL_areSo 710 = .ok (.iload 18, 2) := by decide +kernel
theorem dL_areSo_712 : decode cL_areSo 712 = .ok (.if_icmp .ne 16, 3) := by decide +kernel
theorem dL_areSo_715 : decode cL_areSo 715 = .ok (.aload_n 0, 1) := by decide +kernel
theorem dL_areSo_716 : decode cL_areSo 716 = .ok (.iconst 1, 1) := by decide +kernel
theorem dL_areSo_717 : decode cL_areSo 717 = .ok (.iconst 1, 1) := by decide +kernel
theorem dL_areSo_718 : decode cL_areSo 718 = .ok (.invokevirtual 193, 3) := by decide +kernel
theorem dL_areSo_721 : decode cL_areSo 721 = .ok (.ifCond .ne 7, 3) := by decide +kernel
theorem dL_areSo_724 : decode cL_areSo 724 = .ok (.iconst 1, 1) := by decide +kernel
theorem dL_areSo_725 : decode cL_areSo 725 = .ok (.goto 4, 3) := by decide +kernel
theorem dL_areSo_728 : decode cL_areSo 728 = .ok (.iconst 0, 1) := by decide +kernel
theorem dL_areSo_729 : decode cL_areSo 729 = .ok (.ireturn, 1) := by decide +kernel
theorem dL_isWord_0 : decode cL_isWord 0 = .ok (.iload 5, 2) := by decide +kernel
theorem dL_isWord_2 : decode cL_isWord 2 = .ok (.ifCond .ne 171, 3) := by decide +kernel
theorem dL_isWord_5 : decode cL_isWord 5 = .ok (.iload 6, 2) := by decide +kernel
theorem dL_isWord_7 : decode cL_isWord 7 = .ok (.bipush 23, 2) := by decide +kernel
theorem dL_isWord_9 : decode cL_isWord 9 = .ok (.irem, 1) := by decide +kernel
theorem dL_isWord_10 : decode cL_isWord 10 = .ok (.bipush 22, 2) := by decide +kernel
theorem dL_isWord_12 : decode cL_isWord 12 = .ok (.if_icmp .ne 9, 3) := by decide +kernel
theorem dL_isWord_15 : decode cL_isWord 15 = .ok (.sipush 972, 3) := by decide +kernel
theorem dL_isWord_18 : decode cL_isWord 18 = .ok (.goto 59, 3) := by decide +kernel
theorem dL_isWord_21 : decode cL_isWord 21 = .ok (.iload 6, 2) := by decide +kernel
theorem dL_isWord_23 : decode cL_isWord 23 = .ok (.iconst 3, 1) := by decide +kernel
theorem dL_isWord_24 : decode cL_isWord 24 = .ok (.irem, 1) := by decide +kernel
theorem dL_isWord_25 : decode cL_isWord 25 = .ok (.ifCond .ne 12, 3) := by decide +kernel
theorem dL_isWord_28 : decode cL_isWord 28 = .ok (.iload 6, 2) := by decide +kernel
theorem dL_isWord_30 : decode cL_isWord 30 = .ok (.sipush 972, 3) := by decide +kernel
theorem dL_isWord_33 : decode cL_isWord 33 = .ok (.irem, 1) := by decide +kernel
theorem dL_isWord_34 : decode cL_isWord 34 = .ok (.goto 43, 3) := by decide +kernel
theorem dL_isWord_37 : decode cL_isWord 37 = .ok (.bipush 108, 2) := by decide +kernel
theorem dL_isWord_39 : decode cL_isWord 39 = .ok (.iload 6, 2) := by decide +kernel
theorem dL_isWord_41 : decode cL_isWord 41 = .ok (.iconst 2, 1) := by decide +kernel
theorem dL_isWord_42 : decode cL_isWord 42 = .ok (.irem, 1) := by decide +kernel
theorem dL_isWord_43 : decode cL_isWord 43 = .ok (.bipush 8, 2) := by decide +kernel
theorem dL_isWord_45 : decode cL_isWord 45 = .ok (.imul, 1) := by decide +kernel
theorem dL_isWord_46 : decode cL_isWord 46 = .ok (.imul, 1) := by decide +kernel
theorem dL_isWord_47 : decode cL_isWord 47 = .ok (.bipush 27, 2) := by decide +kernel
theorem dL_isWord_49 : decode cL_isWord 49 = .ok (.iload 6, 2) := by decide +kernel
theorem dL_isWord_51 : decode cL_isWord 51 = .ok (.iconst 2, 1) := by decide +kernel
theorem dL_isWord_52 : decode cL_isWord 52 = .ok (.idiv, 1) := by decide +kernel
theorem dL_isWord_53 : decode cL_isWord 53 = .ok (.iconst 2, 1) := by decide +kernel
theorem dL_isWord_54 : decode cL_isWord 54 = .ok (.irem, 1) := by decide +kernel
theorem dL_isWord_55 : decode cL_isWord 55 = .ok (.imul, 1) := by decide +kernel
theorem dL_isWord_56 : decode cL_isWord 56 = .ok (.iadd, 1) := by decide +kernel
theorem dL_isWord_57 : decode cL_isWord 57 = .ok (.iconst 3, 1) := by decide +kernel
theorem dL_isWord_58 : decode cL_isWord 58 = .ok (.iload 6, 2) := by decide +kernel
theorem dL_isWord_60 : decode cL_isWord 60 = .ok (.iconst 4, 1) := by decide +kernel
theorem dL_isWord_61 : decode cL_isWord 61 = .ok (.idiv, 1) := by decide +kernel
theorem dL_isWord_62 : decode cL_isWord 62 = .ok (.iconst 2, 1) := by decide +kernel
theorem dL_isWord_63 : decode cL_isWord 63 = .ok (.irem, 1) := by decide +kernel
theorem dL_isWord_64 : decode cL_isWord 64 = .ok (.bipush 8, 2) := by decide +kernel
theorem dL_isWord_66 : decode cL_isWord 66 = .ok (.imul, 1) := by decide +kernel
theorem dL_isWord_67 : decode cL_isWord 67 = .ok (.imul, 1) := by decide +kernel
theorem dL_isWord_68 : decode cL_isWord 68 = .ok (.iadd, 1) := by decide +kernel
theorem dL_isWord_69 : decode cL_isWord 69 = .ok (.iload 6, 2) := by decide +kernel
theorem dL_isWord_71 : decode cL_isWord 71 = .ok (.bipush 8, 2) := by decide +kernel
theorem dL_isWord_73 : decode cL_isWord 73 = .ok (.idiv, 1) := by decide +kernel
theorem dL_isWord_74 : decode cL_isWord 74 = .ok (.iconst 2, 1) := by decide +kernel
theorem dL_isWord_75 : decode cL_isWord 75 = .ok (.irem, 1) := by decide +kernel
theorem dL_isWord_76 : decode cL_isWord 76 = .ok (.iadd, 1) := by decide +kernel
theorem dL_isWord_77 : decode cL_isWord 77 = .ok (.istore 8, 2) := by decide +kernel
theorem dL_isWord_79 : decode cL_isWord 79 = .ok (.iload 8, 2) := by decide +kernel
theorem dL_isWord_81 : decode cL_isWord 81 = .ok (.sipush 972, 3) := by decide +kernel
theorem dL_isWord_84 : decode cL_isWord 84 = .ok (.if_icmp .ge 15, 3) := by decide +kernel
theorem dL_isWord_87 : decode cL_isWord 87 = .ok (.aload_n 2, 1) := by decide +kernel
theorem dL_isWord_88 : decode cL_isWord 88 = .ok (.bipush 6, 2) := by decide +kernel
theorem dL_isWord_90 : decode cL_isWord 90 = .ok (.iaload, 1) := by decide +kernel
theorem dL_isWord_91 : decode cL_isWord 91 = .ok (.iconst 4, 1) := by decide +kernel
theorem dL_isWord_92 : decode cL_isWord 92 = .ok (.if_icmp .ge 7, 3) := by decide +kernel
theorem dL_isWord_95 : decode cL_isWord 95 = .ok (.iconst 1, 1) := by decide +kernel
theorem dL_isWord_96 : decode cL_isWord 96 = .ok (.goto 4, 3) := by decide +kernel
theorem dL_isWord_99 : decode cL_isWord 99 = .ok (.iconst 0, 1) := by decide +kernel
theorem dL_isWord_100 : decode cL_isWord 100 = .ok (.istore 9, 2) := by decide +kernel
theorem dL_isWord_102 : decode cL_isWord 102 = .ok (.iload 9, 2) := by decide +kernel
theorem dL_isWord_104 : decode cL_isWord 104 = .ok (.ifCond .eq 22, 3) := by decide +kernel
theorem dL_isWord_107 : decode cL_isWord 107 = .ok (.aload_n 1, 1) := by decide +kernel
theorem dL_isWord_108 : decode cL_isWord 108 = .ok (.bipush 24, 2) := by decide +kernel
theorem dL_isWord_110 : decode cL_isWord 110 = .ok (.aload_n 2, 1) := by decide +kernel
theorem dL_isWord_111 : decode cL_isWord 111 = .ok (.bipush 6, 2) := by decide +kernel
theorem dL_isWord_113 : decode cL_isWord 113 = .ok (.iaload, 1) := by decide +kernel
theorem dL_isWord_114 : decode cL_isWord 114 = .ok (.iadd, 1) := by decide +kernel
theorem dL_isWord_115 : decode cL_isWord 115 = .ok (.iload 8, 2) := by decide +kernel
theorem dL_isWord_117 : decode cL_isWord 117 = .ok (.iastore, 1) := by decide +kernel
theorem dL_isWord_118 : decode cL_isWord 118 = .ok (.aload_n 2, 1) := by decide +kernel
theorem dL_isWord_119 : decode cL_isWord 119 = .ok (.bipush 6, 2) := by decide +kernel
theorem dL_isWord_121 : decode cL_isWord 121 = .ok (.dup2, 1) := by decide +kernel
theorem dL_isWord_122 : decode cL_isWord 122 = .ok (.iaload, 1) := by decide +kernel
theorem dL_isWord_123 : decode cL_isWord 123 = .ok (.iconst 1, 1) := by decide +kernel
theorem dL_isWord_124 : decode cL_isWord 124 = .ok (.iadd, 1) := by decide +kernel
theorem dL_isWord_125 : decode cL_isWord 125 = .ok (.iastore, 1) := by decide +kernel
theorem dL_isWord_126 : decode cL_isWord 126 = .ok (.aload_n 0, 1) := by decide +kernel
theorem dL_isWord_127 : decode cL_isWord 127 = .ok (.iconst 0, 1) := by decide +kernel
theorem dL_isWord_128 : decode cL_isWord 128 = .ok (.iload 8, 2) := by decide +kernel
theorem dL_isWord_130 : decode cL_isWord 130 = .ok (.iconst 0, 1) := by decide +kernel
theorem dL_isWord_131 : decode cL_isWord 131 = .ok (.iconst 0, 1) := by decide +kernel
theorem dL_isWord_132 : decode cL_isWord 132 = .ok (.iconst 0, 1) := by decide +kernel
theorem dL_isWord_133 : decode cL_isWord 133 = .ok (.iconst 0, 1) := by decide +kernel
theorem dL_isWord_134 : decode cL_isWord 134 = .ok (.invokestatic 123, 3) := by decide +kernel
theorem dL_isWord_137 : decode cL_isWord 137 = .ok (.iload 8, 2) := by decide +kernel
theorem dL_isWord_139 : decode cL_isWord 139 = .ok (.sipush 971, 3) := by decide +kernel
theorem dL_isWord_142 : decode cL_isWord 142 = .ok (.if_icmp .le 8, 3) := by decide +kernel
theorem dL_isWord_145 : decode cL_isWord 145 = .ok (.ldc 64, 2) := by decide +kernel
theorem dL_isWord_147 : decode cL_isWord 147 = .ok (.goto 17, 3) := by decide +kernel
theorem dL_isWord_150 : decode cL_isWord 150 = .ok (.iload 9, 2) := by decide +kernel
theorem dL_isWord_152 : decode cL_isWord 152 = .ok (.ifCond .eq 10, 3) := by decide +kernel
theorem dL_isWord_155 : decode cL_isWord 155 = .ok (.aload_n 2, 1) := by decide +kernel
theorem dL_isWord_156 : decode cL_isWord 156 = .ok (.bipush 6, 2) := by decide +kernel
theorem dL_isWord_158 : decode cL_isWord 158 = .ok (.iaload, 1) := by decide +kernel
theorem dL_isWord_159 : decode cL_isWord 159 = .ok (.goto 5, 3) := by decide +kernel
theorem dL_isWord_162 : decode cL_isWord 162 = .ok (.ldc 67, 2) := by decide +kernel
theorem dL_isWord_164 : decode cL_isWord 164 = .ok (.if_icmp .ne 7, 3) := by decide +kernel
theorem dL_isWord_167 : decode cL_isWord 167 = .ok (.iconst 1, 1) := by decide +kernel
theorem dL_isWord_168 : decode cL_isWord 168 = .ok (.goto 4, 3) := by decide +kernel
theorem dL_isWord_171 : decode cL_isWord 171 = .ok (.iconst 0, 1) := by decide +kernel
theorem dL_isWord_172 : decode cL_isWord 172 = .ok (.ireturn, 1) := by decide +kernel
theorem dL_isWord_173 : decode cL_isWord 173 = .ok (.iload 5, 2) := by decide +kernel
theorem dL_isWord_175 : decode cL_isWord 175 = .ok (.iconst 1, 1) := by decide +kernel
theorem dL_isWord_176 : decode cL_isWord 176 = .ok (.if_icmp .ne 207, 3) := by decide +kernel
theorem dL_isWord_179 : decode cL_isWord 179 = .ok (.aload 4, 2) := by decide +kernel
theorem dL_isWord_181 : decode cL_isWord 181 = .ok (.iconst 0, 1) := by decide +kernel
theorem dL_isWord_182 : decode cL_isWord 182 = .ok (.iaload, 1) := by decide +kernel
theorem dL_isWord_183 : decode cL_isWord 183 = .ok (.bipush 6, 2) := by decide +kernel
theorem dL_isWord_185 : decode cL_isWord 185 = .ok (.if_icmp .ne 5, 3) := by decide +kernel
theorem dL_isWord_188 : decode cL_isWord 188 = .ok (.iconst 1, 1) := by decide +kernel
theorem dL_isWord_189 : decode cL_isWord 189 = .ok (.ireturn, 1) := by decide +kernel
theorem dL_isWord_190 : decode cL_isWord 190 = .ok (.iload 6, 2) := by decide +kernel
theorem dL_isWord_192 : decode cL_isWord 192 = .ok (.bipush 13, 2) := by decide +kernel
theorem dL_isWord_194 : decode cL_isWord 194 = .ok (.irem, 1) := by decide +kernel
theorem dL_isWord_195 : decode cL_isWord 195 = .ok (.bipush 12, 2) := by decide +kernel
theorem dL_isWord_197 : decode cL_isWord 197 = .ok (.if_icmp .ne 17, 3) := by decide +kernel
theorem dL_isWord_200 : decode cL_isWord 200 = .ok (.iload 6, 2) := by decide +kernel
theorem dL_isWord_202 : decode cL_isWord 202 = .ok (.bipush 13, 2) := by decide +kernel
theorem dL_isWord_204 : decode cL_isWord 204 = .ok (.idiv, 1) := by decide +kernel
theorem dL_isWord_205 : decode cL_isWord 205 = .ok (.iconst 2, 1) := by decide +kernel
theorem dL_isWord_206 : decode cL_isWord 206 = .ok (.irem, 1) := by decide +kernel
theorem dL_isWord_207 : decode cL_isWord 207 = .ok (.sipush 1000, 3) := by decide +kernel
theorem dL_isWord_210 : decode cL_isWord 210 = .ok (.imul, 1) := by decide +kernel
theorem dL_isWord_211 : decode cL_isWord 211 = .ok (.goto 10, 3) := by decide +kernel
theorem dL_isWord_214 : decode cL_isWord 214 = .ok (.iconst 1, 1) := by decide +kernel
theorem dL_isWord_215 : decode cL_isWord 215 = .ok (.iload 6, 2) := by decide +kernel
theorem dL_isWord_217 : decode cL_isWord 217 = .ok (.bipush 40, 2) := by decide +kernel
theorem dL_isWord_219 : decode cL_isWord 219 = .ok (.irem, 1) := by decide +kernel
theorem dL_isWord_220 : decode cL_isWord 220 = .ok (.iadd, 1) := by decide +kernel
theorem dL_isWord_221 : decode cL_isWord 221 = .ok (.istore 8, 2) := by decide +kernel
theorem dL_isWord_223 : decode cL_isWord 223 = .ok (.iload 8, 2) := by decide +kernel
theorem dL_isWord_225 : decode cL_isWord 225 = .ok (.ifCond .le 15, 3) := by decide +kernel
theorem dL_isWord_228 : decode cL_isWord 228 = .ok (.iload 8, 2) := by decide +kernel
theorem dL_isWord_230 : decode cL_isWord 230 = .ok (.sipush 1000, 3) := by decide +kernel
theorem dL_isWord_233 : decode cL_isWord 233 = .ok (.if_icmp .ge 7, 3) := by decide +kernel
theorem dL_isWord_236 : decode cL_isWord 236 = .ok (.iconst 1, 1) := by decide +kernel
theorem dL_isWord_237 : decode cL_isWord 237 = .ok (.goto 4, 3) := by decide +kernel
theorem dL_isWord_240 : decode cL_isWord 240 = .ok (.iconst 0, 1) := by decide +kernel
theorem dL_isWord_241 : decode cL_isWord 241 = .ok (.istore 9, 2) := by decide +kernel
theorem dL_isWord_243 : decode cL_isWord 243 = .ok (.iload 9, 2) := by decide +kernel
theorem dL_isWord_245 : decode cL_isWord 245 = .ok (.ifCond .eq 14, 3) := by decide +kernel
theorem dL_isWord_248 : decode cL_isWord 248 = .ok (.aload_n 2, 1) := by decide +kernel
theorem dL_isWord_249 : decode cL_isWord 249 = .ok (.bipush 6, 2) := by decide +kernel
theorem dL_isWord_251 : decode cL_isWord 251 = .ok (.iaload, 1) := by decide +kernel
theorem dL_isWord_252 : decode cL_isWord 252 = .ok (.ifCond .le 7, 3) := by decide +kernel
theorem dL_isWord_255 : decode cL_isWord 255 = .ok (.iconst 1, 1) := by decide +kernel
theorem dL_isWord_256 : decode cL_isWord 256 = .ok (.goto 4, 3) := by decide +kernel
theorem dL_isWord_259 : decode cL_isWord 259 = .ok (.iconst 0, 1) := by decide +kernel
theorem dL_isWord_260 : decode cL_isWord 260 = .ok (.istore 10, 2) := by decide +kernel
theorem dL_isWord_262 : decode cL_isWord 262 = .ok (.iload 10, 2) := by decide +kernel
theorem dL_isWord_264 : decode cL_isWord 264 = .ok (.ifCond .eq 73, 3) := by decide +kernel
theorem dL_isWord_267 : decode cL_isWord 267 = .ok (.iconst 0, 1) := by decide +kernel
theorem dL_isWord_268 : decode cL_isWord 268 = .ok (.istore 11, 2) := by decide +kernel
theorem dL_isWord_270 : decode cL_isWord 270 = .ok (.iload 11, 2) := by decide +kernel
theorem dL_isWord_272 : decode cL_isWord 272 = .ok (.aload_n 2, 1) := by decide +kernel
theorem dL_isWord_273 : decode cL_isWord 273 = .ok (.bipush 6, 2) := by decide +kernel
theorem dL_isWord_275 : decode cL_isWord 275 = .ok (.iaload, 1) := by decide +kernel
theorem dL_isWord_276 : decode cL_isWord 276 = .ok (.if_icmp .ge 27, 3) := by decide +kernel
theorem dL_isWord_279 : decode cL_isWord 279 = .ok (.aload_n 1, 1) := by decide +kernel
theorem dL_isWord_280 : decode cL_isWord 280 = .ok (.iconst 4, 1) := by decide +kernel
theorem dL_isWord_281 : decode cL_isWord 281 = .ok (.aload 4, 2) := by decide +kernel
theorem dL_isWord_283 : decode cL_isWord 283 = .ok (.iconst 0, 1) := by decide +kernel
theorem dL_isWord_284 : decode cL_isWord 284 = .ok (.iaload, 1) := by decide +kernel
theorem dL_isWord_285 : decode cL_isWord 285 = .ok (.imul, 1) := by decide +kernel
theorem dL_isWord_286 : decode cL_isWord 286 = .ok (.iload 11, 2) := by decide +kernel
theorem dL_isWord_288 : decode cL_isWord 288 = .ok (.iadd, 1) := by decide +kernel
theorem dL_isWord_289 : decode cL_isWord 289 = .ok (.aload_n 1, 1) := by decide +kernel
theorem dL_isWord_290 : decode cL_isWord 290 = .ok (.bipush 24, 2) := by decide +kernel
theorem dL_isWord_292 : decode cL_isWord 292 = .ok (.iload 11, 2) := by decide +kernel
theorem dL_isWord_294 : decode cL_isWord 294 = .ok (.iadd, 1) := by decide +kernel
theorem dL_isWord_295 : decode cL_isWord 295 = .ok (.iaload, 1) := by decide +kernel
theorem dL_isWord_296 : decode cL_isWord 296 = .ok (.iastore, 1) := by decide +kernel
theorem dL_isWord_297 : decode cL_isWord 297 = .ok (.iinc 11 1, 3) := by decide +kernel
theorem dL_isWord_300 : decode cL_isWord 300 = .ok (.goto (-30), 3) := by decide +kernel
theorem dL_isWord_303 : decode cL_isWord 303 = .ok (.aload_n 2, 1) := by decide +kernel
theorem dL_isWord_304 : decode cL_isWord 304 = .ok (.aload 4, 2) := by decide +kernel
theorem dL_isWord_306 : decode cL_isWord 306 = .ok (.iconst 0, 1) := by decide +kernel
theorem dL_isWord_307 : decode cL_isWord 307 = .ok (.iaload, 1) := by decide +kernel
theorem dL_isWord_308 : decode cL_isWord 308 = .ok (.aload_n 2, 1) := by decide +kernel
theorem dL_isWord_309 : decode cL_isWord 309 = .ok (.bipush 6, 2) := by decide +kernel
theorem dL_isWord_311 : decode cL_isWord 311 = .ok (.iaload, 1) := by decide +kernel
theorem dL_isWord_312 : decode cL_isWord 312 = .ok (.iastore, 1) := by decide +kernel
theorem dL_isWord_313 : decode cL_isWord 313 = .ok (.aload_n 2, 1) := by decide +kernel
theorem dL_isWord_314 : decode cL_isWord 314 = .ok (.bipush 8, 2) := by decide +kernel
theorem dL_isWord_316 : decode cL_isWord 316 = .ok (.aload 4, 2) := by decide +kernel
theorem dL_isWord_318 : decode cL_isWord 318 = .ok (.iconst 0, 1) := by decide +kernel
theorem dL_isWord_319 : decode cL_isWord 319 = .ok (.iaload, 1) := by decide +kernel
theorem dL_isWord_320 : decode cL_isWord 320 = .ok (.iadd, 1) := by decide +kernel
theorem dL_isWord_321 : decode cL_isWord 321 = .ok (.iload 8, 2) := by decide +kernel
theorem dL_isWord_323 : decode cL_isWord 323 = .ok (.iastore, 1) := by decide +kernel
theorem dL_isWord_324 : decode cL_isWord 324 = .ok (.aload_n 2, 1) := by decide +kernel
theorem dL_isWord_325 : decode cL_isWord 325 = .ok (.bipush 6, 2) := by decide +kernel
theorem dL_isWord_327 : decode cL_isWord 327 = .ok (.iconst 0, 1) := by decide +kernel
theorem dL_isWord_328 : decode cL_isWord 328 = .ok (.iastore, 1) := by decide +kernel
theorem dL_isWord_329 : decode cL_isWord 329 = .ok (.aload 4, 2) := by decide +kernel
theorem dL_isWord_331 : decode cL_isWord 331 = .ok (.iconst 0, 1) := by decide +kernel
theorem dL_isWord_332 : decode cL_isWord 332 = .ok (.dup2, 1) := by decide +kernel
theorem dL_isWord_333 : decode cL_isWord 333 = .ok (.iaload, 1) := by decide +kernel
theorem dL_isWord_334 : decode cL_isWord 334 = .ok (.iconst 1, 1) := by decide +kernel
theorem dL_isWord_335 : decode cL_isWord 335 = .ok (.iadd, 1) := by decide +kernel
theorem dL_isWord_336 : decode cL_isWord 336 = .ok (.iastore, 1) := by decide +kernel
theorem dL_isWord_337 : decode cL_isWord 337 = .ok (.aload_n 0, 1) := by decide +kernel
theorem dL_isWord_338 : decode cL_isWord 338 = .ok (.iconst 1, 1) := by decide +kernel
theorem dL_isWord_339 : decode cL_isWord 339 = .ok (.iload 8, 2) := by decide +kernel
theorem dL_isWord_341 : decode cL_isWord 341 = .ok (.iconst 0, 1) := by decide +kernel
theorem dL_isWord_342 : decode cL_isWord 342 = .ok (.iconst 0, 1) := by decide +kernel
theorem dL_isWord_343 : decode cL_isWord 343 = .ok (.iconst 0, 1) := by decide +kernel
theorem dL_isWord_344 : decode cL_isWord 344 = .ok (.iconst 0, 1) := by decide +kernel
theorem dL_isWord_345 : decode cL_isWord 345 = .ok (.invokestatic 123, 3) := by decide +kernel
theorem dL_isWord_348 : decode cL_isWord 348 = .ok (.iload 9, 2) := by decide +kernel
theorem dL_isWord_350 : decode cL_isWord 350 = .ok (.ifCond .ne 8, 3) := by decide +kernel
theorem dL_isWord_353 : decode cL_isWord 353 = .ok (.ldc 64, 2) := by decide +kernel
theorem dL_isWord_355 : decode cL_isWord 355 = .ok (.goto 19, 3) := by decide +kernel
theorem dL_isWord_358 : decode cL_isWord 358 = .ok (.iload 10, 2) := by decide +kernel
theorem dL_isWord_360 : decode cL_isWord 360 = .ok (.ifCond .eq 12, 3) := by decide +kernel
theorem dL_isWord_363 : decode cL_isWord 363 = .ok (.aload 4, 2) := by decide +kernel
theorem dL_isWord_365 : decode cL_isWord 365 = .ok (.iconst 0, 1) := by decide +kernel
theorem dL_isWord_366 : decode cL_isWord 366 = .ok (.iaload, 1) := by decide +kernel
theorem dL_isWord_367 : decode cL_isWord 367 = .ok (.iconst 1, 1) := by decide +kernel
theorem dL_isWord_368 : decode cL_isWord 368 = .ok (.isub, 1) := by decide +kernel
theorem dL_isWord_369 : decode cL_isWord 369 = .ok (.goto 5, 3) := by decide +kernel
theorem dL_isWord_372 : decode cL_isWord 372 = .ok (.ldc 67, 2) := by decide +kernel
theorem dL_isWord_374 : decode cL_isWord 374 = .ok (.if_icmp .ne 7, 3) := by decide +kernel
theorem dL_isWord_377 : decode cL_isWord 377 = .ok (.iconst 1, 1) := by decide +kernel
theorem dL_isWord_378 : decode cL_isWord 378 = .ok (.goto 4, 3) := by decide +kernel
theorem dL_isWord_381 : decode cL_isWord 381 = .ok (.iconst 0, 1) := by decide +kernel
theorem dL_isWord_382 : decode cL_isWord 382 = .ok (.ireturn, 1) := by decide +kernel
theorem dL_isWord_383 : decode cL_isWord 383 = .ok (.iload 6, 2) := by decide +kernel
theorem dL_isWord_385 : decode cL_isWord 385 = .ok (.bipush 13, 2) := by decide +kernel
theorem dL_isWord_387 : decode cL_isWord 387 = .ok (.irem, 1) := by decide +kernel
theorem dL_isWord_388 : decode cL_isWord 388 = .ok (.bipush 12, 2) := by decide +kernel
theorem dL_isWord_390 : decode cL_isWord 390 = .ok (.if_icmp .ne 7, 3) := by decide +kernel
theorem dL_isWord_393 : decode cL_isWord 393 = .ok (.iconst 3, 1) := by decide +kernel
theorem dL_isWord_394 : decode cL_isWord 394 = .ok (.goto 7, 3) := by decide +kernel
theorem dL_isWord_397 : decode cL_isWord 397 = .ok (.iload 6, 2) := by decide +kernel
theorem dL_isWord_399 : decode cL_isWord 399 = .ok (.iconst 3, 1) := by decide +kernel
theorem dL_isWord_400 : decode cL_isWord 400 = .ok (.irem, 1) := by decide +kernel
theorem dL_isWord_401 : decode cL_isWord 401 = .ok (.istore 8, 2) := by decide +kernel
theorem dL_isWord_403 : decode cL_isWord 403 = .ok (.iload 7, 2) := by decide +kernel
theorem dL_isWord_405 : decode cL_isWord 405 = .ok (.bipush 13, 2) := by decide +kernel
theorem dL_isWord_407 : decode cL_isWord 407 = .ok (.irem, 1) := by decide +kernel
theorem dL_isWord_408 : decode cL_isWord 408 = .ok (.bipush 12, 2) := by decide +kernel
theorem dL_isWord_410 : decode cL_isWord 410 = .ok (.if_icmp .ne 7, 3) := by decide +kernel
theorem dL_isWord_413 : decode cL_isWord 413 = .ok (.iconst 4, 1) := by decide +kernel
theorem dL_isWord_414 : decode cL_isWord 414 = .ok (.goto 7, 3) := by decide +kernel
theorem dL_isWord_417 : decode cL_isWord 417 = .ok (.iload 7, 2) := by decide +kernel
theorem dL_isWord_419 : decode cL_isWord 419 = .ok (.iconst 4, 1) := by decide +kernel
theorem dL_isWord_420 : decode cL_isWord 420 = .ok (.irem, 1) := by decide +kernel
theorem dL_isWord_421 : decode cL_isWord 421 = .ok (.istore 9, 2) := by decide +kernel
theorem dL_isWord_423 : decode cL_isWord 423 = .ok (.iload 9, 2) := by decide +kernel
theorem dL_isWord_425 : decode cL_isWord 425 = .ok (.iconst 1, 1) := by decide +kernel
theorem dL_isWord_426 : decode cL_isWord 426 = .ok (.if_icmp .ne 7, 3) := by decide +kernel
theorem dL_isWord_429 : decode cL_isWord 429 = .ok (.iconst 4, 1) := by decide +kernel
theorem dL_isWord_430 : decode cL_isWord 430 = .ok (.goto 15, 3) := by decide +kernel
theorem dL_isWord_433 : decode cL_isWord 433 = .ok (.iload 9, 2) := by decide +kernel
theorem dL_isWord_435 : decode cL_isWord 435 = .ok (.iconst 3, 1) := by decide +kernel
theorem dL_isWord_436 : decode cL_isWord 436 = .ok (.if_icmp .ne 7, 3) := by decide +kernel
theorem dL_isWord_439 : decode cL_isWord 439 = .ok (.iconst 3, 1) := by decide +kernel
theorem dL_isWord_440 : decode cL_isWord 440 = .ok (.goto 5, 3) := by decide +kernel
theorem dL_isWord_443 : decode cL_isWord 443 = .ok (.bipush 9, 2) := by decide +kernel
theorem dL_isWord_445 : decode cL_isWord 445 = .ok (.istore 10, 2) := by decide +kernel
theorem dL_isWord_447 : decode cL_isWord 447 = .ok (.iload 6, 2) := by decide +kernel
theorem dL_isWord_449 : decode cL_isWord 449 = .ok (.bipush 13, 2) := by decide +kernel
theorem dL_isWord_451 : decode cL_isWord 451 = .ok (.idiv, 1) := by decide +kernel
theorem dL_isWord_452 : decode cL_isWord 452 = .ok (.iload 10, 2) := by decide +kernel
theorem dL_isWord_454 : decode cL_isWord 454 = .ok (.iload 7, 2) := by decide +kernel
theorem dL_isWord_456 : decode cL_isWord 456 = .ok (.bipush 13, 2) := by decide +kernel
theorem dL_isWord_458 : decode cL_isWord 458 = .ok (.idiv, 1) := by decide +kernel
theorem dL_isWord_459 : decode cL_isWord 459 = .ok (.bipush 11, 2) := by decide +kernel
theorem dL_isWord_461 : decode cL_isWord 461 = .ok (.irem, 1) := by decide +kernel
theorem dL_isWord_462 : decode cL_isWord 462 = .ok (.ifCond .ne 7, 3) := by decide +kernel
theorem dL_isWord_465 : decode cL_isWord 465 = .ok (.iconst 1, 1) := by decide +kernel
theorem dL_isWord_466 : decode cL_isWord 466 = .ok (.goto 4, 3) := by decide +kernel
theorem dL_isWord_469 : decode cL_isWord 469 = .ok (.iconst 0, 1) := by decide +kernel
theorem dL_isWord_470 : decode cL_isWord 470 = .ok (.iadd, 1) := by decide +kernel
theorem dL_isWord_471 : decode cL_isWord 471 = .ok (.irem, 1) := by decide +kernel
theorem dL_isWord_472 : decode cL_isWord 472 = .ok (.istore 11, 2) := by decide +kernel
theorem dL_isWord_474 : decode cL_isWord 474 = .ok (.iload 7, 2) := by decide +kernel
theorem dL_isWord_476 : decode cL_isWord 476 = .ok (.bipush 13, 2) := by decide +kernel
theorem dL_isWord_478 : decode cL_isWord 478 = .ok (.idiv, 1) := by decide +kernel
theorem dL_isWord_479 : decode cL_isWord 479 = .ok (.iload 10, 2) := by decide +kernel
theorem dL_isWord_481 : decode cL_isWord 481 = .ok (.irem, 1) := by decide +kernel
theorem dL_isWord_482 : decode cL_isWord 482 = .ok (.istore 12, 2) := by decide +kernel
theorem dL_isWord_484 : decode cL_isWord 484 = .ok (.iload 7, 2) := by decide +kernel
theorem dL_isWord_486 : decode cL_isWord 486 = .ok (.iconst 5, 1) := by decide +kernel
theorem dL_isWord_487 : decode cL_isWord 487 = .ok (.idiv, 1) := by decide +kernel
theorem dL_isWord_488 : decode cL_isWord 488 = .ok (.iconst 3, 1) := by decide +kernel
theorem dL_isWord_489 : decode cL_isWord 489 = .ok (.irem, 1) := by decide +kernel
theorem dL_isWord_490 : decode cL_isWord 490 = .ok (.ifCond .ne 7, 3) := by decide +kernel
theorem dL_isWord_493 : decode cL_isWord 493 = .ok (.iconst 1, 1) := by decide +kernel
theorem dL_isWord_494 : decode cL_isWord 494 = .ok (.goto 4, 3) := by decide +kernel
theorem dL_isWord_497 : decode cL_isWord 497 = .ok (.iconst 0, 1) := by decide +kernel
theorem dL_isWord_498 : decode cL_isWord 498 = .ok (.istore 13, 2) := by decide +kernel
theorem dL_isWord_500 : decode cL_isWord 500 = .ok (.iload 8, 2) := by decide +kernel
theorem dL_isWord_502 : decode cL_isWord 502 = .ok (.iconst 3, 1) := by decide +kernel
theorem dL_isWord_503 : decode cL_isWord 503 = .ok (.if_icmp .ge 13, 3) := by decide +kernel
theorem dL_isWord_506 : decode cL_isWord 506 = .ok (.iload 9, 2) := by decide +kernel
theorem dL_isWord_508 : decode cL_isWord 508 = .ok (.iconst 4, 1) := by decide +kernel
theorem dL_isWord_509 : decode cL_isWord 509 = .ok (.if_icmp .ge 7, 3) := by decide +kernel
theorem dL_isWord_512 : decode cL_isWord 512 = .ok (.iconst 1, 1) := by decide +kernel
theorem dL_isWord_513 : decode cL_isWord 513 = .ok (.goto 4, 3) := by decide +kernel
theorem dL_isWord_516 : decode cL_isWord 516 = .ok (.iconst 0, 1) := by decide +kernel
theorem dL_isWord_517 : decode cL_isWord 517 = .ok (.istore 14, 2) := by decide +kernel
theorem dL_isWord_519 : decode cL_isWord 519 = .ok (.iload 14, 2) := by decide +kernel
theorem dL_isWord_521 : decode cL_isWord 521 = .ok (.ifCond .eq 26, 3) := by decide +kernel
theorem dL_isWord_524 : decode cL_isWord 524 = .ok (.iload 11, 2) := by decide +kernel
theorem dL_isWord_526 : decode cL_isWord 526 = .ok (.iload 10, 2) := by decide +kernel
theorem dL_isWord_528 : decode cL_isWord 528 = .ok (.if_icmp .ge 19, 3) := by decide +kernel
theorem dL_isWord_531 : decode cL_isWord 531 = .ok (.aload_n 3, 1) := by decide +kernel
theorem dL_isWord_532 : decode cL_isWord 532 = .ok (.bipush 18, 2) := by decide +kernel
theorem dL_isWord_534 : decode cL_isWord 534 = .ok (.iload 8, 2) := by decide +kernel
theorem dL_isWord_536 : decode cL_isWord 536 = .ok (.iadd, 1) := by decide +kernel
theorem dL_isWord_537 : decode cL_isWord 537 = .ok (.iaload, 1) := by decide +kernel
theorem dL_isWord_538 : decode cL_isWord 538 = .ok (.bipush 6, 2) := by decide +kernel
theorem dL_isWord_540 : decode cL_isWord 540 = .ok (.if_icmp .ge 7, 3) := by decide +kernel
theorem dL_isWord_543 : decode cL_isWord 543 = .ok (.iconst 1, 1) := by decide +kernel
theorem dL_isWord_544 : decode cL_isWord 544 = .ok (.goto 4, 3) := by decide +kernel
theorem dL_isWord_547 : decode cL_isWord 547 = .ok (.iconst 0, 1) := by decide +kernel
theorem dL_isWord_548 : decode cL_isWord 548 = .ok (.istore 15, 2) := by decide +kernel
theorem dL_isWord_550 : decode cL_isWord 550 = .ok (.iload 15, 2) := by decide +kernel
theorem dL_isWord_552 : decode cL_isWord 552 = .ok (.ifCond .eq 55, 3) := by decide +kernel
theorem dL_isWord_555 : decode cL_isWord 555 = .ok (.aload_n 3, 1) := by decide +kernel
theorem dL_isWord_556 : decode cL_isWord 556 = .ok (.bipush 6, 2) := by decide +kernel
theorem dL_isWord_558 : decode cL_isWord 558 = .ok (.iload 8, 2) := by decide +kernel
theorem dL_isWord_560 : decode cL_isWord 560 = .ok (.imul, 1) := by decide +kernel
theorem dL_isWord_561 : decode cL_isWord 561 = .ok (.aload_n 3, 1) := by decide +kernel
theorem dL_isWord_562 : decode cL_isWord 562 = .ok (.bipush 18, 2) := by decide +kernel
theorem dL_isWord_564 : decode cL_isWord 564 = .ok (.iload 8, 2) := by decide +kernel
theorem dL_isWord_566 : decode cL_isWord 566 = .ok (.iadd, 1) := by decide +kernel
theorem dL_isWord_567 : decode cL_isWord 567 = .ok (.iaload, 1) := by decide +kernel
theorem dL_isWord_568 : decode cL_isWord 568 = .ok (.iadd, 1) := by decide +kernel
theorem dL_isWord_569 : decode cL_isWord 569 = .ok (.iload 9, 2) := by decide +kernel
theorem dL_isWord_571 : decode cL_isWord 571 = .ok (.iconst 4, 1) := by decide +kernel
theorem dL_isWord_572 : decode cL_isWord 572 = .ok (.iload 11, 2) := by decide +kernel
theorem dL_isWord_574 : decode cL_isWord 574 = .ok (.imul, 1) := by decide +kernel
theorem dL_isWord_575 : decode cL_isWord 575 = .ok (.iadd, 1) := by decide +kernel
theorem dL_isWord_576 : decode cL_isWord 576 = .ok (.bipush 64, 2) := by decide +kernel
theorem dL_isWord_578 : decode cL_isWord 578 = .ok (.iload 12, 2) := by decide +kernel
theorem dL_isWord_580 : decode cL_isWord 580 = .ok (.imul, 1) := by decide +kernel
theorem dL_isWord_581 : decode cL_isWord 581 = .ok (.iadd, 1) := by decide +kernel
theorem dL_isWord_582 : decode cL_isWord 582 = .ok (.iload 13, 2) := by decide +kernel
theorem dL_isWord_584 : decode cL_isWord 584 = .ok (.ifCond .eq 9, 3) := by decide +kernel
theorem dL_isWord_587 : decode cL_isWord 587 = .ok (.sipush 1024, 3) := by decide +kernel
theorem dL_isWord_590 : decode cL_isWord 590 = .ok (.goto 4, 3) := by decide +kernel
theorem dL_isWord_593 : decode cL_isWord 593 = .ok (.iconst 0, 1) := by decide +kernel
theorem dL_isWord_594 : decode cL_isWord 594 = .ok (.iadd, 1) := by decide +kernel
theorem dL_isWord_595 : decode cL_isWord 595 = .ok (.iastore, 1) := by decide +kernel
theorem dL_isWord_596 : decode cL_isWord 596 = .ok (.aload_n 3, 1) := by decide +kernel
theorem dL_isWord_597 : decode cL_isWord 597 = .ok (.bipush 18, 2) := by decide +kernel
theorem dL_isWord_599 : decode cL_isWord 599 = .ok (.iload 8, 2) := by decide +kernel
theorem dL_isWord_601 : decode cL_isWord 601 = .ok (.iadd, 1) := by decide +kernel
theorem dL_isWord_602 : decode cL_isWord 602 = .ok (.dup2, 1) := by decide +kernel
theorem dL_isWord_603 : decode cL_isWord 603 = .ok (.iaload, 1) := by decide +kernel
theorem dL_isWord_604 : decode cL_isWord 604 = .ok (.iconst 1, 1) := by decide +kernel
theorem dL_isWord_605 : decode cL_isWord 605 = .ok (.iadd, 1) := by decide +kernel
theorem dL_isWord_606 : decode cL_isWord 606 = .ok (.iastore, 1) := by decide +kernel
theorem dL_isWord_607 : decode cL_isWord 607 = .ok (.aload_n 0, 1) := by decide +kernel
theorem dL_isWord_608 : decode cL_isWord 608 = .ok (.iconst 2, 1) := by decide +kernel
theorem dL_isWord_609 : decode cL_isWord 609 = .ok (.iload 8, 2) := by decide +kernel
theorem dL_isWord_611 : decode cL_isWord 611 = .ok (.iload 9, 2) := by decide +kernel
theorem dL_isWord_613 : decode cL_isWord 613 = .ok (.iload 11, 2) := by decide +kernel
theorem dL_isWord_615 : decode cL_isWord 615 = .ok (.iload 12, 2) := by decide +kernel
theorem dL_isWord_617 : decode cL_isWord 617 = .ok (.iload 13, 2) := by decide +kernel
theorem dL_isWord_619 : decode cL_isWord 619 = .ok (.ifCond .eq 7, 3) := by decide +kernel
theorem dL_isWord_622 : decode cL_isWord 622 = .ok (.iconst 1, 1) := by decide +kernel
theorem dL_isWord_623 : decode cL_isWord 623 = .ok (.goto 4, 3) := by decide +kernel
theorem dL_isWord_626 : decode cL_isWord 626 = .ok (.iconst 0, 1) := by decide +kernel
theorem dL_isWord_627 : decode cL_isWord 627 = .ok (.invokestatic 123, 3) := by decide +kernel
theorem dL_isWord_630 : decode cL_isWord 630 = .ok (.iload 14, 2) := by decide +kernel
theorem dL_isWord_632 : decode cL_isWord 632 = .ok (.ifCond .ne 8, 3) := by decide +kernel
theorem dL_isWord_635 : decode cL_isWord 635 = .ok (.ldc 61, 2) := by decide +kernel
theorem dL_isWord_637 : decode cL_isWord 637 = .ok (.goto 32, 3) := by decide +kernel
theorem dL_isWord_640 : decode cL_isWord 640 = .ok (.iload 11, 2) := by decide +kernel
theorem dL_isWord_642 : decode cL_isWord 642 = .ok (.iload 10, 2) := by decide +kernel
theorem dL_isWord_644 : decode cL_isWord 644 = .ok (.if_icmp .ne 8, 3) := by decide +kernel
theorem dL_isWord_647 : decode cL_isWord 647 = .ok (.ldc 64, 2) := by decide +kernel
theorem dL_isWord_649 : decode cL_isWord 649 = .ok (.goto 20, 3) := by decide +kernel
theorem dL_isWord_652 : decode cL_isWord 652 = .ok (.iload 15, 2) := by decide +kernel
theorem dL_isWord_654 : decode cL_isWord 654 = .ok (.ifCond .eq 13, 3) := by decide +kernel
theorem dL_isWord_657 : decode cL_isWord 657 = .ok (.aload_n 3, 1) := by decide +kernel
theorem dL_isWord_658 : decode cL_isWord 658 = .ok (.bipush 18, 2) := by decide +kernel
theorem dL_isWord_660 : decode cL_isWord 660 = .ok (.iload 8, 2) := by decide +kernel
theorem dL_isWord_662 : decode cL_isWord 662 = .ok (.iadd, 1) := by decide +kernel
theorem dL_isWord_663 : decode cL_isWord 663 = .ok (.iaload, 1) := by decide +kernel
theorem dL_isWord_664 : decode cL_isWord 664 = .ok (.goto 5, 3) := by decide +kernel
theorem dL_isWord_667 : decode cL_isWord 667 = .ok (.ldc 67, 2) := by decide +kernel
theorem dL_isWord_669 : decode cL_isWord 669 = .ok (.if_icmp .ne 7, 3) := by decide +kernel
theorem dL_isWord_672 : decode cL_isWord 672 = .ok (.iconst 1, 1) := by decide +kernel
theorem dL_isWord_673 : decode cL_isWord 673 = .ok (.goto 4, 3) := by decide +kernel
theorem dL_isWord_676 : decode cL_isWord 676 = .ok (.iconst 0, 1) := by decide +kernel
theorem dL_isWord_677 : decode cL_isWord 677 = .ok (.ireturn, 1) := by decide +kernel
theorem dL_isDesign_0 : decode cL_isDesign 0 = .ok (.iload 4, 2) := by decide +kernel
theorem dL_isDesign_2 : decode cL_isDesign 2 = .ok (.aload_n 3, 1) := by decide +kernel
theorem dL_isDesign_3 : decode cL_isDesign 3 = .ok (.iconst 1, 1) := by decide +kernel
theorem dL_isDesign_4 : decode cL_isDesign 4 = .ok (.iaload, 1) := by decide +kernel
theorem dL_isDesign_5 : decode cL_isDesign 5 = .ok (.if_icmp .ge 7, 3) := by decide +kernel
theorem dL_isDesign_8 : decode cL_isDesign 8 = .ok (.iconst 1, 1) := by decide +kernel
theorem dL_isDesign_9 : decode cL_isDesign 9 = .ok (.goto 4, 3) := by decide +kernel
theorem dL_isDesign_12 : decode cL_isDesign 12 = .ok (.iconst 0, 1) := by decide +kernel
theorem dL_isDesign_13 : decode cL_isDesign 13 = .ok (.istore 8, 2) := by decide +kernel
theorem dL_isDesign_15 : decode cL_isDesign 15 = .ok (.iload 5, 2) := by decide +kernel
theorem dL_isDesign_17 : decode cL_isDesign 17 = .ok (.ifCond .ne 299, 3) := by decide +kernel
theorem dL_isDesign_20 : decode cL_isDesign 20 = .ok (.iload 6, 2) := by decide +kernel
theorem dL_isDesign_22 : decode cL_isDesign 22 = .ok (.bipush 17, 2) := by decide +kernel
theorem dL_isDesign_24 : decode cL_isDesign 24 = .ok (.irem, 1) := by decide +kernel
theorem dL_isDesign_25 : decode cL_isDesign 25 = .ok (.bipush 16, 2) := by decide +kernel
theorem dL_isDesign_27 : decode cL_isDesign 27 = .ok (.if_icmp .ne 8, 3) := by decide +kernel
theorem dL_isDesign_30 : decode cL_isDesign 30 = .ok (.bipush 47, 2) := by decide +kernel
theorem dL_isDesign_32 : decode cL_isDesign 32 = .ok (.goto 27, 3) := by decide +kernel
theorem dL_isDesign_35 : decode cL_isDesign 35 = .ok (.iload 6, 2) := by decide +kernel
theorem dL_isDesign_37 : decode cL_isDesign 37 = .ok (.iconst 3, 1) := by decide +kernel
theorem dL_isDesign_38 : decode cL_isDesign 38 = .ok (.irem, 1) := by decide +kernel
theorem dL_isDesign_39 : decode cL_isDesign 39 = .ok (.ifCond .ne 15, 3) := by decide +kernel
theorem dL_isDesign_42 : decode cL_isDesign 42 = .ok (.bipush 44, 2) := by decide +kernel
theorem dL_isDesign_44 : decode cL_isDesign 44 = .ok (.iload 6, 2) := by decide +kernel
theorem dL_isDesign_46 : decode cL_isDesign 46 = .ok (.iconst 3, 1) := by decide +kernel
theorem dL_isDesign_47 : decode cL_isDesign 47 = .ok (.idiv, 1) := by decide +kernel
theorem dL_isDesign_48 : decode cL_isDesign 48 = .ok (.iconst 3, 1) := by decide +kernel
theorem dL_isDesign_49 : decode cL_isDesign 49 = .ok (.irem, 1) := by decide +kernel
theorem dL_isDesign_50 : decode cL_isDesign 50 = .ok (.iadd, 1) := by decide +kernel
theorem dL_isDesign_51 : decode cL_isDesign 51 = .ok (.goto 8, 3) := by decide +kernel
theorem dL_isDesign_54 : decode cL_isDesign 54 = .ok (.iload 6, 2) := by decide +kernel
theorem dL_isDesign_56 : decode cL_isDesign 56 = .ok (.bipush 12, 2) := by decide +kernel
theorem dL_isDesign_58 : decode cL_isDesign 58 = .ok (.irem, 1) := by decide +kernel
theorem dL_isDesign_59 : decode cL_isDesign 59 = .ok (.istore 9, 2) := by decide +kernel
theorem dL_isDesign_61 : decode cL_isDesign 61 = .ok (.iload 7, 2) := by decide +kernel
theorem dL_isDesign_63 : decode cL_isDesign 63 = .ok (.bipush 19, 2) := by decide +kernel
theorem dL_isDesign_65 : decode cL_isDesign 65 = .ok (.irem, 1) := by decide +kernel
theorem dL_isDesign_66 : decode cL_isDesign 66 = .ok (.bipush 18, 2) := by decide +kernel
theorem dL_isDesign_68 : decode cL_isDesign 68 = .ok (.if_icmp .ne 8, 3) := by decide +kernel
theorem dL_isDesign_71 : decode cL_isDesign 71 = .ok (.bipush 50, 2) := by decide +kernel
theorem dL_isDesign_73 : decode cL_isDesign 73 = .ok (.goto 27, 3) := by decide +kernel
theorem dL_isDesign_76 : decode cL_isDesign 76 = .ok (.iload 7, 2) := by decide +kernel
theorem dL_isDesign_78 : decode cL_isDesign 78 = .ok (.iconst 3, 1) := by decide +kernel
theorem dL_isDesign_79 : decode cL_isDesign 79 = .ok (.irem, 1) := by decide +kernel
theorem dL_isDesign_80 : decode cL_isDesign 80 = .ok (.ifCond .ne 13, 3) := by decide +kernel
theorem dL_isDesign_83 : decode cL_isDesign 83 = .ok (.iload 7, 2) := by decide +kernel
theorem dL_isDesign_85 : decode cL_isDesign 85 = .ok (.iconst 3, 1) := by decide +kernel
theorem dL_isDesign_86 : decode cL_isDesign 86 = .ok (.idiv, 1) := by decide +kernel
theorem dL_isDesign_87 : decode cL_isDesign 87 = .ok (.bipush 50, 2) := by decide +kernel
theorem dL_isDesign_89 : decode cL_isDesign 89 = .ok (.irem, 1) := by decide +kernel
theorem dL_isDesign_90 : decode cL_isDesign 90 = .ok (.goto 10, 3) := by decide +kernel
theorem dL_isDesign_93 : decode cL_isDesign 93 = .ok (.iload 7, 2) := by decide +kernel
theorem dL_isDesign_95 : decode cL_isDesign 95 = .ok (.iconst 3, 1) := by decide +kernel
theorem dL_isDesign_96 : decode cL_isDesign 96 = .ok (.idiv, 1) := by decide +kernel
theorem dL_isDesign_97 : decode cL_isDesign 97 = .ok (.bipush 6, 2) := by decide +kernel
theorem dL_isDesign_99 : decode cL_isDesign 99 = .ok (.irem, 1) := by decide +kernel
theorem dL_isDesign_100 : decode cL_isDesign 100 = .ok (.istore 10, 2) := by decide +kernel
theorem dL_isDesign_102 : decode cL_isDesign 102 = .ok (.iload 7, 2) := by decide +kernel
theorem dL_isDesign_104 : decode cL_isDesign 104 = .ok (.bipush 7, 2) := by decide +kernel
theorem dL_isDesign_106 : decode cL_isDesign 106 = .ok (.idiv, 1) := by decide +kernel
theorem dL_isDesign_107 : decode cL_isDesign 107 = .ok (.iconst 3, 1) := by decide +kernel
theorem dL_isDesign_108 : decode cL_isDesign 108 = .ok (.irem, 1) := by decide +kernel
theorem dL_isDesign_109 : decode cL_isDesign 109 = .ok (.ifCond .le 7, 3) := by decide +kernel
theorem dL_isDesign_112 : decode cL_isDesign 112 = .ok (.iconst 1, 1) := by decide +kernel
theorem dL_isDesign_113 : decode cL_isDesign 113 = .ok (.goto 4, 3) := by decide +kernel
theorem dL_isDesign_116 : decode cL_isDesign 116 = .ok (.iconst 0, 1) := by decide +kernel
theorem dL_isDesign_117 : decode cL_isDesign 117 = .ok (.istore 11, 2) := by decide +kernel
theorem dL_isDesign_119 : decode cL_isDesign 119 = .ok (.iload 8, 2) := by decide +kernel
theorem dL_isDesign_121 : decode cL_isDesign 121 = .ok (.ifCond .eq 16, 3) := by decide +kernel
theorem dL_isDesign_124 : decode cL_isDesign 124 = .ok (.aload_n 1, 1) := by decide +kernel
theorem dL_isDesign_125 : decode cL_isDesign 125 = .ok (.iload 9, 2) := by decide +kernel
theorem dL_isDesign_127 : decode cL_isDesign 127 = .ok (.invokestatic 104, 3) := by decide +kernel
theorem dL_isDesign_130 : decode cL_isDesign 130 = .ok (.ifCond .eq 7, 3) := by decide +kernel
theorem dL_isDesign_133 : decode cL_isDesign 133 = .ok (.iconst 1, 1) := by decide +kernel
theorem dL_isDesign_134 : decode cL_isDesign 134 = .ok (.goto 4, 3) := by decide +kernel
theorem dL_isDesign_137 : decode cL_isDesign 137 = .ok (.iconst 0, 1) := by decide +kernel
theorem dL_isDesign_138 : decode cL_isDesign 138 = .ok (.istore 12, 2) := by decide +kernel
theorem dL_isDesign_140 : decode cL_isDesign 140 = .ok (.iconst 0, 1) := by decide +kernel
theorem dL_isDesign_141 : decode cL_isDesign 141 = .ok (.istore 13, 2) := by decide +kernel
theorem dL_isDesign_143 : decode cL_isDesign 143 = .ok (.iconst 0, 1) := by decide +kernel
theorem dL_isDesign_144 : decode cL_isDesign 144 = .ok (.istore 14, 2) := by decide +kernel
theorem dL_isDesign_146 : decode cL_isDesign 146 = .ok (.iload 14, 2) := by decide +kernel
theorem dL_isDesign_148 : decode cL_isDesign 148 = .ok (.bipush 47, 2) := by decide +kernel
theorem dL_isDesign_150 : decode cL_isDesign 150 = .ok (.if_icmp .ge 46, 3) := by decide +kernel
theorem dL_isDesign_153 : decode cL_isDesign 153 = .ok (.iload 13, 2) := by decide +kernel
theorem dL_isDesign_155 : decode cL_isDesign 155 = .ok (.ifCond .ne 28, 3) := by decide +kernel
theorem dL_isDesign_158 : decode cL_isDesign 158 = .ok (.iload 14, 2) := by decide +kernel
theorem dL_isDesign_160 : decode cL_isDesign 160 = .ok (.iload 9, 2) := by decide +kernel
theorem dL_isDesign_162 : decode cL_isDesign 162 = .ok (.if_icmp .eq 25, 3) := by decide +kernel
theorem dL_isDesign_165 : decode cL_isDesign 165 = .ok (.aload_n 1, 1) := by decide +kernel
theorem dL_isDesign_166 : decode cL_isDesign 166 = .ok (.iload 14, 2) := by decide +kernel
theorem dL_isDesign_168 : decode cL_isDesign 168 = .ok (.invokestatic 104, 3) := by decide +kernel
theorem dL_isDesign_171 : decode cL_isDesign 171 = .ok (.ifCond .eq 16, 3) := by decide +kernel
theorem dL_isDesign_174 : decode cL_isDesign 174 = .ok (.aload_n 1, 1) := by decide +kernel
theorem dL_isDesign_175 : decode cL_isDesign 175 = .ok (.iload 14, 2) := by decide +kernel
theorem dL_isDesign_177 : decode cL_isDesign 177 = .ok (.iaload, 1) := by decide +kernel
theorem dL_isDesign_178 : decode cL_isDesign 178 = .ok (.iload 10, 2) := by decide +kernel
theorem dL_isDesign_180 : decode cL_isDesign 180 = .ok (.if_icmp .ne 7, 3) := by decide +kernel
theorem dL_isDesign_183 : decode cL_isDesign 183 = .ok (.iconst 1, 1) := by decide +kernel
theorem dL_isDesign_184 : decode cL_isDesign 184 = .ok (.goto 4, 3) := by decide +kernel
theorem dL_isDesign_187 : decode cL_isDesign 187 = .ok (.iconst 0, 1) := by decide +kernel
theorem dL_isDesign_188 : decode cL_isDesign 188 = .ok (.istore 13, 2) := by decide +kernel
theorem dL_isDesign_190 : decode cL_isDesign 190 = .ok (.iinc 14 1, 3) := by decide +kernel
theorem dL_isDesign_193 : decode cL_isDesign 193 = .ok (.goto (-47), 3) := by decide +kernel
theorem dL_isDesign_196 : decode cL_isDesign 196 = .ok (.iload 12, 2) := by decide +kernel
theorem dL_isDesign_198 : decode cL_isDesign 198 = .ok (.ifCond .eq 24, 3) := by decide +kernel
theorem dL_isDesign_201 : decode cL_isDesign 201 = .ok (.iload 10, 2) := by decide +kernel
theorem dL_isDesign_203 : decode cL_isDesign 203 = .ok (.bipush 50, 2) := by decide +kernel
theorem dL_isDesign_205 : decode cL_isDesign 205 = .ok (.if_icmp .ge 17, 3) := by decide +kernel
theorem dL_isDesign_208 : decode cL_isDesign 208 = .ok (.iload 11, 2) := by decide +kernel
theorem dL_isDesign_210 : decode cL_isDesign 210 = .ok (.ifCond .ne 8, 3) := by decide +kernel
theorem dL_isDesign_213 : decode cL_isDesign 213 = .ok (.iload 13, 2) := by decide +kernel
theorem dL_isDesign_215 : decode cL_isDesign 215 = .ok (.ifCond .ne 7, 3) := by decide +kernel
theorem dL_isDesign_218 : decode cL_isDesign 218 = .ok (.iconst 1, 1) := by decide +kernel
theorem dL_isDesign_219 : decode cL_isDesign 219 = .ok (.goto 4, 3) := by decide +kernel
theorem dL_isDesign_222 : decode cL_isDesign 222 = .ok (.iconst 0, 1) := by decide +kernel
theorem dL_isDesign_223 : decode cL_isDesign 223 = .ok (.istore 14, 2) := by decide +kernel
theorem dL_isDesign_225 : decode cL_isDesign 225 = .ok (.iload 12, 2) := by decide +kernel
theorem dL_isDesign_227 : decode cL_isDesign 227 = .ok (.ifCond .eq 10, 3) := by decide +kernel
theorem dL_isDesign_230 : decode cL_isDesign 230 = .ok (.aload_n 1, 1) := by decide +kernel
theorem dL_isDesign_231 : decode cL_isDesign 231 = .ok (.iload 9, 2) := by decide +kernel
theorem dL_isDesign_233 : decode cL_isDesign 233 = .ok (.iaload, 1) := by decide +kernel
theorem dL_isDesign_234 : decode cL_isDesign 234 = .ok (.goto 4, 3) := by decide +kernel
theorem dL_isDesign_237 : decode cL_isDesign 237 = .ok (.iconst 0, 1) := by decide +kernel
theorem dL_isDesign_238 : decode cL_isDesign 238 = .ok (.istore 15, 2) := by decide +kernel
theorem dL_isDesign_240 : decode cL_isDesign 240 = .ok (.iload 14, 2) := by decide +kernel
theorem dL_isDesign_242 : decode cL_isDesign 242 = .ok (.ifCond .eq 9, 3) := by decide +kernel
theorem dL_isDesign_245 : decode cL_isDesign 245 = .ok (.aload_n 1, 1) := by decide +kernel
theorem dL_isDesign_246 : decode cL_isDesign 246 = .ok (.iload 9, 2) := by decide +kernel
theorem dL_isDesign_248 : decode cL_isDesign 248 = .ok (.iload 10, 2) := by decide +kernel
theorem dL_isDesign_250 : decode cL_isDesign 250 = .ok (.iastore, 1) := by decide +kernel
theorem dL_isDesign_251 : decode cL_isDesign 251 = .ok (.aload_n 0, 1) := by decide +kernel
theorem dL_isDesign_252 : decode cL_isDesign 252 = .ok (.iconst 4, 1) := by decide +kernel
theorem dL_isDesign_253 : decode cL_isDesign 253 = .ok (.iload 4, 2) := by decide +kernel
theorem dL_isDesign_255 : decode cL_isDesign 255 = .ok (.iload 9, 2) := by decide +kernel
theorem dL_isDesign_257 : decode cL_isDesign 257 = .ok (.iload 10, 2) := by decide +kernel
theorem dL_isDesign_259 : decode cL_isDesign 259 = .ok (.iload 11, 2) := by decide +kernel
theorem dL_isDesign_261 : decode cL_isDesign 261 = .ok (.ifCond .eq 7, 3) := by decide +kernel
theorem dL_isDesign_264 : decode cL_isDesign 264 = .ok (.iconst 1, 1) := by decide +kernel
theorem dL_isDesign_265 : decode cL_isDesign 265 = .ok (.goto 4, 3) := by decide +kernel
theorem dL_isDesign_268 : decode cL_isDesign 268 = .ok (.iconst 0, 1) := by decide +kernel
theorem dL_isDesign_269 : decode cL_isDesign 269 = .ok (.iconst 0, 1) := by decide +kernel
theorem dL_isDesign_270 : decode cL_isDesign 270 = .ok (.invokestatic 123, 3) := by decide +kernel
theorem dL_isDesign_273 : decode cL_isDesign 273 = .ok (.iload 12, 2) := by decide +kernel
theorem dL_isDesign_275 : decode cL_isDesign 275 = .ok (.ifCond .ne 8, 3) := by decide +kernel
theorem dL_isDesign_278 : decode cL_isDesign 278 = .ok (.ldc 61, 2) := by decide +kernel
theorem dL_isDesign_280 : decode cL_isDesign 280 = .ok (.goto 27, 3) := by decide +kernel
theorem dL_isDesign_283 : decode cL_isDesign 283 = .ok (.iload 10, 2) := by decide +kernel
theorem dL_isDesign_285 : decode cL_isDesign 285 = .ok (.bipush 50, 2) := by decide +kernel
theorem dL_isDesign_287 : decode cL_isDesign 287 = .ok (.if_icmp .ne 8, 3) := by decide +kernel
theorem dL_isDesign_290 : decode cL_isDesign 290 = .ok (.ldc 64, 2) := by decide +kernel
theorem dL_isDesign_292 : decode cL_isDesign 292 = .ok (.goto 15, 3) := by decide +kernel
theorem dL_isDesign_295 : decode cL_isDesign 295 = .ok (.iload 14, 2) := by decide +kernel
theorem dL_isDesign_297 : decode cL_isDesign 297 = .ok (.ifCond .eq 8, 3) := by decide +kernel
theorem dL_isDesign_300 : decode cL_isDesign 300 = .ok (.iload 15, 2) := by decide +kernel
theorem dL_isDesign_302 : decode cL_isDesign 302 = .ok (.goto 5, 3) := by decide +kernel
theorem dL_isDesign_305 : decode cL_isDesign 305 = .ok (.ldc 67, 2) := by decide +kernel
theorem dL_isDesign_307 : decode cL_isDesign 307 = .ok (.if_icmp .ne 7, 3) := by decide +kernel
theorem dL_isDesign_310 : decode cL_isDesign 310 = .ok (.iconst 1, 1) := by decide +kernel
theorem dL_isDesign_311 : decode cL_isDesign 311 = .ok (.goto 4, 3) := by decide +kernel
theorem dL_isDesign_314 : decode cL_isDesign 314 = .ok (.iconst 0, 1) := by decide +kernel
theorem dL_isDesign_315 : decode cL_isDesign 315 = .ok (.ireturn, 1) := by decide +kernel
theorem dL_isDesign_316 : decode cL_isDesign 316 = .ok (.iload 5, 2) := by decide +kernel
theorem dL_isDesign_318 : decode cL_isDesign 318 = .ok (.iconst 1, 1) := by decide +kernel
theorem dL_isDesign_319 : decode cL_isDesign 319 = .ok (.if_icmp .ne 93, 3) := by decide +kernel
theorem dL_isDesign_322 : decode cL_isDesign 322 = .ok (.iload 8, 2) := by decide +kernel
theorem dL_isDesign_324 : decode cL_isDesign 324 = .ok (.ifCond .ne 5, 3) := by decide +kernel
theorem dL_isDesign_327 : decode cL_isDesign 327 = .ok (.iconst 1, 1) := by decide +kernel
theorem dL_isDesign_328 : decode cL_isDesign 328 = .ok (.ireturn, 1) := by decide +kernel
theorem dL_isDesign_329 : decode cL_isDesign 329 = .ok (.iload 6, 2) := by decide +kernel
theorem dL_isDesign_331 : decode cL_isDesign 331 = .ok (.iconst 3, 1) := by decide +kernel
theorem dL_isDesign_332 : decode cL_isDesign 332 = .ok (.irem, 1) := by decide +kernel
theorem dL_isDesign_333 : decode cL_isDesign 333 = .ok (.istore 9, 2) := by decide +kernel
theorem dL_isDesign_335 : decode cL_isDesign 335 = .ok (.aload_n 1, 1) := by decide +kernel
theorem dL_isDesign_336 : decode cL_isDesign 336 = .ok (.bipush 49, 2) := by decide +kernel
theorem dL_isDesign_338 : decode cL_isDesign 338 = .ok (.iaload, 1) := by decide +kernel
theorem dL_isDesign_339 : decode cL_isDesign 339 = .ok (.iload 9, 2) := by decide +kernel
theorem dL_isDesign_341 : decode cL_isDesign 341 = .ok (.ishr, 1) := by decide +kernel
theorem dL_isDesign_342 : decode cL_isDesign 342 = .ok (.iconst 1, 1) := by decide +kernel
theorem dL_isDesign_343 : decode cL_isDesign 343 = .ok (.iand, 1) := by decide +kernel
theorem dL_isDesign_344 : decode cL_isDesign 344 = .ok (.iconst 1, 1) := by decide +kernel
theorem dL_isDesign_345 : decode cL_isDesign 345 = .ok (.if_icmp .ne 7, 3) := by decide +kernel
theorem dL_isDesign_348 : decode cL_isDesign 348 = .ok (.iconst 1, 1) := by decide +kernel
theorem dL_isDesign_349 : decode cL_isDesign 349 = .ok (.goto 4, 3) := by decide +kernel
theorem dL_isDesign_352 : decode cL_isDesign 352 = .ok (.iconst 0, 1) := by decide +kernel
theorem dL_isDesign_353 : decode cL_isDesign 353 = .ok (.istore 10, 2) := by decide +kernel
theorem dL_isDesign_355 : decode cL_isDesign 355 = .ok (.iload 7, 2) := by decide +kernel
theorem dL_isDesign_357 : decode cL_isDesign 357 = .ok (.iconst 2, 1) := by decide +kernel
theorem dL_isDesign_358 : decode cL_isDesign 358 = .ok (.irem, 1) := by decide +kernel
theorem dL_isDesign_359 : decode cL_isDesign 359 = .ok (.ifCond .ne 7, 3) := by decide +kernel
theorem dL_isDesign_362 : decode cL_isDesign 362 = .ok (.iconst 1, 1) := by decide +kernel
theorem dL_isDesign_363 : decode cL_isDesign 363 = .ok (.goto 4, 3) := by decide +kernel
theorem dL_isDesign_366 : decode cL_isDesign 366 = .ok (.iconst 0, 1) := by decide +kernel
theorem dL_isDesign_367 : decode cL_isDesign 367 = .ok (.istore 11, 2) := by decide +kernel
theorem dL_isDesign_369 : decode cL_isDesign 369 = .ok (.aload_n 1, 1) := by decide +kernel
theorem dL_isDesign_370 : decode cL_isDesign 370 = .ok (.bipush 49, 2) := by decide +kernel
theorem dL_isDesign_372 : decode cL_isDesign 372 = .ok (.dup2, 1) := by decide +kernel
theorem dL_isDesign_373 : decode cL_isDesign 373 = .ok (.iaload, 1) := by decide +kernel
theorem dL_isDesign_374 : decode cL_isDesign 374 = .ok (.iload 10, 2) := by decide +kernel
theorem dL_isDesign_376 : decode cL_isDesign 376 = .ok (.iload 11, 2) := by decide +kernel
theorem dL_isDesign_378 : decode cL_isDesign 378 = .ok (.if_icmp .ne 7, 3) := by decide +kernel
theorem dL_isDesign_381 : decode cL_isDesign 381 = .ok (.iconst 0, 1) := by decide +kernel
theorem dL_isDesign_382 : decode cL_isDesign 382 = .ok (.goto 7, 3) := by decide +kernel
theorem dL_isDesign_385 : decode cL_isDesign 385 = .ok (.iconst 1, 1) := by decide +kernel
theorem dL_isDesign_386 : decode cL_isDesign 386 = .ok (.iload 9, 2) := by decide +kernel
theorem dL_isDesign_388 : decode cL_isDesign 388 = .ok (.ishl, 1) := by decide +kernel
theorem dL_isDesign_389 : decode cL_isDesign 389 = .ok (.ixor, 1) := by decide +kernel
theorem dL_isDesign_390 : decode cL_isDesign 390 = .ok (.iastore, 1) := by decide +kernel
theorem dL_isDesign_391 : decode cL_isDesign 391 = .ok (.aload_n 0, 1) := by decide +kernel
theorem dL_isDesign_392 : decode cL_isDesign 392 = .ok (.iload 4, 2) := by decide +kernel
theorem dL_isDesign_394 : decode cL_isDesign 394 = .ok (.iload 9, 2) := by decide +kernel
theorem dL_isDesign_396 : decode cL_isDesign 396 = .ok (.iload 11, 2) := by decide +kernel
theorem dL_isDesign_398 : decode cL_isDesign 398 = .ok (.invokevirtual 199, 3) := by decide +kernel
theorem dL_isDesign_401 : decode cL_isDesign 401 = .ok (.iload 10, 2) := by decide +kernel
theorem dL_isDesign_403 : decode cL_isDesign 403 = .ok (.if_icmp .ne 7, 3) := by decide +kernel
theorem dL_isDesign_406 : decode cL_isDesign 406 = .ok (.iconst 1, 1) := by decide +kernel
theorem dL_isDesign_407 : decode cL_isDesign 407 = .ok (.goto 4, 3) := by decide +kernel
theorem dL_isDesign_410 : decode cL_isDesign 410 = .ok (.iconst 0, 1) := by decide +kernel
theorem dL_isDesign_411 : decode cL_isDesign 411 = .ok (.ireturn, 1) := by decide +kernel
theorem dL_isDesign_412 : decode cL_isDesign 412 = .ok (.iload 6, 2) := by decide +kernel
theorem dL_isDesign_414 : decode cL_isDesign 414 = .ok (.bipush 23, 2) := by decide +kernel
theorem dL_isDesign_416 : decode cL_isDesign 416 = .ok (.irem, 1) := by decide +kernel
theorem dL_isDesign_417 : decode cL_isDesign 417 = .ok (.bipush 22, 2) := by decide +kernel
theorem dL_isDesign_419 : decode cL_isDesign 419 = .ok (.if_icmp .ne 8, 3) := by decide +kernel
theorem dL_isDesign_422 : decode cL_isDesign 422 = .ok (.bipush 50, 2) := by decide +kernel
theorem dL_isDesign_424 : decode cL_isDesign 424 = .ok (.goto 8, 3) := by decide +kernel
theorem dL_isDesign_427 : decode cL_isDesign 427 = .ok (.iload 6, 2) := by decide +kernel
theorem dL_isDesign_429 : decode cL_isDesign 429 = .ok (.bipush 50, 2) := by decide +kernel
theorem dL_isDesign_431 : decode cL_isDesign 431 = .ok (.irem, 1) := by decide +kernel
theorem dL_isDesign_432 : decode cL_isDesign 432 = .ok (.istore 9, 2) := by decide +kernel
theorem dL_isDesign_434 : decode cL_isDesign 434 = .ok (.iload 7, 2) := by decide +kernel
theorem dL_isDesign_436 : decode cL_isDesign 436 = .ok (.bipush 50, 2) := by decide +kernel
theorem dL_isDesign_438 : decode cL_isDesign 438 = .ok (.irem, 1) := by decide +kernel
theorem dL_isDesign_439 : decode cL_isDesign 439 = .ok (.istore 10, 2) := by decide +kernel
theorem dL_isDesign_441 : decode cL_isDesign 441 = .ok (.iload 8, 2) := by decide +kernel
theorem dL_isDesign_443 : decode cL_isDesign 443 = .ok (.ifCond .eq 17, 3) := by decide +kernel
theorem dL_isDesign_446 : decode cL_isDesign 446 = .ok (.iload 9, 2) := by decide +kernel
theorem dL_isDesign_448 : decode cL_isDesign 448 = .ok (.bipush 50, 2) := by decide +kernel
theorem dL_isDesign_450 : decode cL_isDesign 450 = .ok (.if_icmp .ge 10, 3) := by decide +kernel
theorem dL_isDesign_453 : decode cL_isDesign 453 = .ok (.aload_n 2, 1) := by decide +kernel
theorem dL_isDesign_454 : decode cL_isDesign 454 = .ok (.iload 9, 2) := by decide +kernel
theorem dL_isDesign_456 : decode cL_isDesign 456 = .ok (.iaload, 1) := by decide +kernel
theorem dL_isDesign_457 : decode cL_isDesign 457 = .ok (.goto 4, 3) := by decide +kernel
theorem dL_isDesign_460 : decode cL_isDesign 460 = .ok (.iconst 0, 1) := by decide +kernel
theorem dL_isDesign_461 : decode cL_isDesign 461 = .ok (.istore 11, 2) := by decide +kernel
theorem dL_isDesign_463 : decode cL_isDesign 463 = .ok (.iconst 0, 1) := by decide +kernel
theorem dL_isDesign_464 : decode cL_isDesign 464 = .ok (.istore 12, 2) := by decide +kernel
theorem dL_isDesign_466 : decode cL_isDesign 466 = .ok (.iload 12, 2) := by decide +kernel
theorem dL_isDesign_468 : decode cL_isDesign 468 = .ok (.bipush 50, 2) := by decide +kernel
theorem dL_isDesign_470 : decode cL_isDesign 470 = .ok (.if_icmp .ge 43, 3) := by decide +kernel
theorem dL_isDesign_473 : decode cL_isDesign 473 = .ok (.iload 8, 2) := by decide +kernel
theorem dL_isDesign_475 : decode cL_isDesign 475 = .ok (.ifCond .eq 38, 3) := by decide +kernel
theorem dL_isDesign_478 : decode cL_isDesign 478 = .ok (.iload 9, 2) := by decide +kernel
theorem dL_isDesign_480 : decode cL_isDesign 480 = .ok (.bipush 50, 2) := by decide +kernel
theorem dL_isDesign_482 : decode cL_isDesign 482 = .ok (.if_icmp .ge 31, 3) := by decide +kernel
theorem dL_isDesign_485 : decode cL_isDesign 485 = .ok (.aload_n 2, 1) := by decide +kernel
theorem dL_isDesign_486 : decode cL_isDesign 486 = .ok (.iload 12, 2) := by decide +kernel
theorem dL_isDesign_488 : decode cL_isDesign 488 = .ok (.aload_n 2, 1) := by decide +kernel
theorem dL_isDesign_489 : decode cL_isDesign 489 = .ok (.iload 12, 2) := by decide +kernel
theorem dL_isDesign_491 : decode cL_isDesign 491 = .ok (.iaload, 1) := by decide +kernel
theorem dL_isDesign_492 : decode cL_isDesign 492 = .ok (.iload 10, 2) := by decide +kernel
theorem dL_isDesign_494 : decode cL_isDesign 494 = .ok (.if_icmp .ne 8, 3) := by decide +kernel
theorem dL_isDesign_497 : decode cL_isDesign 497 = .ok (.iload 11, 2) := by decide +kernel
theorem dL_isDesign_499 : decode cL_isDesign 499 = .ok (.goto 7, 3) := by decide +kernel
theorem dL_isDesign_502 : decode cL_isDesign 502 = .ok (.aload_n 2, 1) := by decide +kernel
theorem dL_isDesign_503 : decode cL_isDesign 503 = .ok (.iload 12, 2) := by decide +kernel
theorem dL_isDesign_505 : decode cL_isDesign 505 = .ok (.iaload, 1) := by decide +kernel
theorem dL_isDesign_506 : decode cL_isDesign 506 = .ok (.iastore, 1) := by decide +kernel
theorem dL_isDesign_507 : decode cL_isDesign 507 = .ok (.iinc 12 1, 3) := by decide +kernel
theorem dL_isDesign_510 : decode cL_isDesign 510 = .ok (.goto (-44), 3) := by decide +kernel
theorem dL_isDesign_513 : decode cL_isDesign 513 = .ok (.iload 8, 2) := by decide +kernel
theorem dL_isDesign_515 : decode cL_isDesign 515 = .ok (.ifCond .eq 16, 3) := by decide +kernel
theorem dL_isDesign_518 : decode cL_isDesign 518 = .ok (.iload 9, 2) := by decide +kernel
theorem dL_isDesign_520 : decode cL_isDesign 520 = .ok (.bipush 50, 2) := by decide +kernel
theorem dL_isDesign_522 : decode cL_isDesign 522 = .ok (.if_icmp .ge 9, 3) := by decide +kernel
theorem dL_isDesign_525 : decode cL_isDesign 525 = .ok (.aload_n 2, 1) := by decide +kernel
theorem dL_isDesign_526 : decode cL_isDesign 526 = .ok (.iload 9, 2) := by decide +kernel
theorem dL_isDesign_528 : decode cL_isDesign 528 = .ok (.iload 10, 2) := by decide +kernel
theorem dL_isDesign_530 : decode cL_isDesign 530 = .ok (.iastore, 1) := by decide +kernel
theorem dL_isDesign_531 : decode cL_isDesign 531 = .ok (.aload_n 0, 1) := by decide +kernel
theorem dL_isDesign_532 : decode cL_isDesign 532 = .ok (.bipush 6, 2) := by decide +kernel
theorem dL_isDesign_534 : decode cL_isDesign 534 = .ok (.iload 4, 2) := by decide +kernel
theorem dL_isDesign_536 : decode cL_isDesign 536 = .ok (.iload 9, 2) := by decide +kernel
theorem dL_isDesign_538 : decode cL_isDesign 538 = .ok (.iload 10, 2) := by decide +kernel
theorem dL_isDesign_540 : decode cL_isDesign 540 = .ok (.iconst 0, 1) := by decide +kernel
theorem dL_isDesign_541 : decode cL_isDesign 541 = .ok (.iconst 0, 1) := by decide +kernel
theorem dL_isDesign_542 : decode cL_isDesign 542 = .ok (.invokestatic 123, 3) := by decide +kernel
theorem dL_isDesign_545 : decode cL_isDesign 545 = .ok (.iload 8, 2) := by decide +kernel
theorem dL_isDesign_547 : decode cL_isDesign 547 = .ok (.ifCond .eq 15, 3) := by decide +kernel
theorem dL_isDesign_550 : decode cL_isDesign 550 = .ok (.iload 9, 2) := by decide +kernel
theorem dL_isDesign_552 : decode cL_isDesign 552 = .ok (.bipush 50, 2) := by decide +kernel
theorem dL_isDesign_554 : decode cL_isDesign 554 = .ok (.if_icmp .ge 8, 3) := by decide +kernel
theorem dL_isDesign_557 : decode cL_isDesign 557 = .ok (.iload 11, 2) := by decide +kernel
theorem dL_isDesign_559 : decode cL_isDesign 559 = .ok (.goto 5, 3) := by decide +kernel
theorem dL_isDesign_562 : decode cL_isDesign 562 = .ok (.ldc 61, 2) := by decide +kernel
theorem dL_isDesign_564 : decode cL_isDesign 564 = .ok (.if_icmp .ne 7, 3) := by decide +kernel
theorem dL_isDesign_567 : decode cL_isDesign 567 = .ok (.iconst 1, 1) := by decide +kernel
theorem dL_isDesign_568 : decode cL_isDesign 568 = .ok (.goto 4, 3) := by decide +kernel
theorem dL_isDesign_571 : decode cL_isDesign 571 = .ok (.iconst 0, 1) := by decide +kernel
theorem dL_isDesign_572 : decode cL_isDesign 572 = .ok (.ireturn, 1) := by decide +kernel
theorem dL_isTold_0 : decode cL_isTold 0 = .ok (.iload 6, 2) := by decide +kernel
theorem dL_isTold_2 : decode cL_isTold 2 = .ok (.ifCond .ne 184, 3) := by decide +kernel
theorem dL_isTold_5 : decode cL_isTold 5 = .ok (.aload 5, 2) := by decide +kernel
theorem dL_isTold_7 : decode cL_isTold 7 = .ok (.iconst 1, 1) := by decide +kernel
theorem dL_isTold_8 : decode cL_isTold 8 = .ok (.iaload, 1) := by decide +kernel
theorem dL_isTold_9 : decode cL_isTold 9 = .ok (.iconst 2, 1) := by decide +kernel
theorem dL_isTold_10 : decode cL_isTold 10 = .ok (.if_icmp .ne 5, 3) := by decide +kernel
theorem dL_isTold_13 : decode cL_isTold 13 = .ok (.iconst 1, 1) := by decide +kernel
theorem dL_isTold_14 : decode cL_isTold 14 = .ok (.ireturn, 1) := by decide +kernel
theorem dL_isTold_15 : decode cL_isTold 15 = .ok (.iload 7, 2) := by decide +kernel
theorem dL_isTold_17 : decode cL_isTold 17 = .ok (.bipush 13, 2) := by decide +kernel
theorem dL_isTold_19 : decode cL_isTold 19 = .ok (.irem, 1) := by decide +kernel
theorem dL_isTold_20 : decode cL_isTold 20 = .ok (.bipush 12, 2) := by decide +kernel
theorem dL_isTold_22 : decode cL_isTold 22 = .ok (.if_icmp .ne 7, 3) := by decide +kernel
theorem dL_isTold_25 : decode cL_isTold 25 = .ok (.iconst 2, 1) := by decide +kernel
theorem dL_isTold_26 : decode cL_isTold 26 = .ok (.goto 7, 3) := by decide +kernel
theorem dL_isTold_29 : decode cL_isTold 29 = .ok (.iload 7, 2) := by decide +kernel
theorem dL_isTold_31 : decode cL_isTold 31 = .ok (.iconst 2, 1) := by decide +kernel
theorem dL_isTold_32 : decode cL_isTold 32 = .ok (.irem, 1) := by decide +kernel
theorem dL_isTold_33 : decode cL_isTold 33 = .ok (.istore 9, 2) := by decide +kernel
theorem dL_isTold_35 : decode cL_isTold 35 = .ok (.iload 8, 2) := by decide +kernel
theorem dL_isTold_37 : decode cL_isTold 37 = .ok (.bipush 13, 2) := by decide +kernel
theorem dL_isTold_39 : decode cL_isTold 39 = .ok (.irem, 1) := by decide +kernel
theorem dL_isTold_40 : decode cL_isTold 40 = .ok (.bipush 12, 2) := by decide +kernel
theorem dL_isTold_42 : decode cL_isTold 42 = .ok (.if_icmp .ne 7, 3) := by decide +kernel
theorem dL_isTold_45 : decode cL_isTold 45 = .ok (.iconst 3, 1) := by decide +kernel
theorem dL_isTold_46 : decode cL_isTold 46 = .ok (.goto 9, 3) := by decide +kernel
theorem dL_isTold_49 : decode cL_isTold 49 = .ok (.iload 8, 2) := by decide +kernel
theorem dL_isTold_51 : decode cL_isTold 51 = .ok (.iconst 4, 1) := by decide +kernel
theorem dL_isTold_52 : decode cL_isTold 52 = .ok (.irem, 1) := by decide +kernel
theorem dL_isTold_53 : decode cL_isTold 53 = .ok (.iconst 1, 1) := by decide +kernel
theorem dL_isTold_54 : decode cL_isTold 54 = .ok (.isub, 1) := by decide +kernel
theorem dL_isTold_55 : decode cL_isTold 55 = .ok (.istore 10, 2) := by decide +kernel
theorem dL_isTold_57 : decode cL_isTold 57 = .ok (.iload 9, 2) := by decide +kernel
theorem dL_isTold_59 : decode cL_isTold 59 = .ok (.iconst 2, 1) := by decide +kernel
theorem dL_isTold_60 : decode cL_isTold 60 = .ok (.if_icmp .ge 13, 3) := by decide +kernel
theorem dL_isTold_63 : decode cL_isTold 63 = .ok (.iload 10, 2) := by decide +kernel
theorem dL_isTold_65 : decode cL_isTold 65 = .ok (.iconst 3, 1) := by decide +kernel
theorem dL_isTold_66 : decode cL_isTold 66 = .ok (.if_icmp .ge 7, 3) := by decide +kernel
theorem dL_isTold_69 : decode cL_isTold 69 = .ok (.iconst 1, 1) := by decide +kernel
theorem dL_isTold_70 : decode cL_isTold 70 = .ok (.goto 4, 3) := by decide +kernel
theorem dL_isTold_73 : decode cL_isTold 73 = .ok (.iconst 0, 1) := by decide +kernel
theorem dL_isTold_74 : decode cL_isTold 74 = .ok (.istore 11, 2) := by decide +kernel
theorem dL_isTold_76 : decode cL_isTold 76 = .ok (.aload 5, 2) := by decide +kernel
theorem dL_isTold_78 : decode cL_isTold 78 = .ok (.iconst 1, 1) := by decide +kernel
theorem dL_isTold_79 : decode cL_isTold 79 = .ok (.iaload, 1) := by decide +kernel
theorem dL_isTold_80 : decode cL_isTold 80 = .ok (.ifCond .ne 7, 3) := by decide +kernel
theorem dL_isTold_83 : decode cL_isTold 83 = .ok (.aload_n 1, 1) := by decide +kernel
theorem dL_isTold_84 : decode cL_isTold 84 = .ok (.goto 4, 3) := by decide +kernel
theorem dL_isTold_87 : decode cL_isTold 87 = .ok (.aload_n 2, 1) := by decide +kernel
theorem dL_isTold_88 : decode cL_isTold 88 = .ok (.astore 12, 2) := by decide +kernel
theorem dL_isTold_90 : decode cL_isTold 90 = .ok (.iload 11, 2) := by decide +kernel
theorem dL_isTold_92 : decode cL_isTold 92 = .ok (.ifCond .eq 57, 3) := by decide +kernel
theorem dL_isTold_95 : decode cL_isTold 95 = .ok (.iconst 0, 1) := by decide +kernel
theorem dL_isTold_96 : decode cL_isTold 96 = .ok (.istore 13, 2) := by decide +kernel
theorem dL_isTold_98 : decode cL_isTold 98 = .ok (.iload 13, 2) := by decide +kernel
theorem dL_isTold_100 : decode cL_isTold 100 = .ok (.bipush 47, 2) := by decide +kernel
theorem dL_isTold_102 : decode cL_isTold 102 = .ok (.if_icmp .ge 16, 3) := by decide +kernel
theorem dL_isTold_105 : decode cL_isTold 105 = .ok (.aload 12, 2) := by decide +kernel
theorem dL_isTold_107 : decode cL_isTold 107 = .ok (.iload 13, 2) := by decide +kernel
theorem dL_isTold_109 : decode cL_isTold 109 = .ok (.iload 13, 2) := by decide +kernel
theorem dL_isTold_111 : decode cL_isTold 111 = .ok (.iastore, 1) := by decide +kernel
theorem dL_isTold_112 : decode cL_isTold 112 = .ok (.iinc 13 1, 3) := by decide +kernel
theorem dL_isTold_115 : decode cL_isTold 115 = .ok (.goto (-17), 3) := by decide +kernel
theorem dL_isTold_118 : decode cL_isTold 118 = .ok (.aload 12, 2) := by decide +kernel
theorem dL_isTold_120 : decode cL_isTold 120 = .ok (.bipush 47, 2) := by decide +kernel
theorem dL_isTold_122 : decode cL_isTold 122 = .ok (.iload 9, 2) := by decide +kernel
theorem dL_isTold_124 : decode cL_isTold 124 = .ok (.iastore, 1) := by decide +kernel
theorem dL_isTold_125 : decode cL_isTold 125 = .ok (.aload 12, 2) := by decide +kernel
theorem dL_isTold_127 : decode cL_isTold 127 = .ok (.bipush 48, 2) := by decide +kernel
theorem dL_isTold_129 : decode cL_isTold 129 = .ok (.iload 10, 2) := by decide +kernel
theorem dL_isTold_131 : decode cL_isTold 131 = .ok (.iconst 1, 1) := by decide +kernel
theorem dL_isTold_132 : decode cL_isTold 132 = .ok (.iadd, 1) := by decide +kernel
theorem dL_isTold_133 : decode cL_isTold 133 = .ok (.iastore, 1) := by decide +kernel
theorem dL_isTold_134 : decode cL_isTold 134 = .ok (.aload 12, 2) := by decide +kernel
theorem dL_isTold_136 : decode cL_isTold 136 = .ok (.bipush 49, 2) := by decide +kernel
theorem dL_isTold_138 : decode cL_isTold 138 = .ok (.bipush 7, 2) := by decide +kernel
theorem dL_isTold_140 : decode cL_isTold 140 = .ok (.iastore, 1) := by decide +kernel
theorem dL_isTold_141 : decode cL_isTold 141 = .ok (.aload 5, 2) := by decide +kernel
theorem dL_isTold_143 : decode cL_isTold 143 = .ok (.iconst 1, 1) := by decide +kernel
theorem dL_isTold_144 : decode cL_isTold 144 = .ok (.dup2, 1) := by decide +kernel
theorem dL_isTold_145 : decode cL_isTold 145 = .ok (.iaload, 1) := by decide +kernel
theorem dL_isTold_146 : decode cL_isTold 146 = .ok (.iconst 1, 1) := by decide +kernel
theorem dL_isTold_147 : decode cL_isTold 147 = .ok (.iadd, 1) := by decide +kernel
theorem dL_isTold_148 : decode cL_isTold 148 = .ok (.iastore, 1) := by decide +kernel
theorem dL_isTold_149 : decode cL_isTold 149 = .ok (.aload_n 0, 1) := by decide +kernel
theorem dL_isTold_150 : decode cL_isTold 150 = .ok (.iconst 3, 1) := by decide +kernel
theorem dL_isTold_151 : decode cL_isTold 151 = .ok (.iload 9, 2) := by decide +kernel
theorem dL_isTold_153 : decode cL_isTold 153 = .ok (.iload 10, 2) := by decide +kernel
theorem dL_isTold_155 : decode cL_isTold 155 = .ok (.iconst 0, 1) := by decide +kernel
theorem dL_isTold_156 : decode cL_isTold 156 = .ok (.iconst 0, 1) := by decide +kernel
theorem dL_isTold_157 : decode cL_isTold 157 = .ok (.iconst 0, 1) := by decide +kernel
theorem dL_isTold_158 : decode cL_isTold 158 = .ok (.invokestatic 123, 3) := by decide +kernel
theorem dL_isTold_161 : decode cL_isTold 161 = .ok (.iload 11, 2) := by decide +kernel
theorem dL_isTold_163 : decode cL_isTold 163 = .ok (.ifCond .eq 12, 3) := by decide +kernel
theorem dL_isTold_166 : decode cL_isTold 166 = .ok (.aload 5, 2) := by decide +kernel
theorem dL_isTold_168 : decode cL_isTold 168 = .ok (.iconst 1, 1) := by decide +kernel
theorem dL_isTold_169 : decode cL_isTold 169 = .ok (.iaload, 1) := by decide +kernel
theorem dL_isTold_170 : decode cL_isTold 170 = .ok (.iconst 1, 1) := by decide +kernel
theorem dL_isTold_171 : decode cL_isTold 171 = .ok (.isub, 1) := by decide +kernel
theorem dL_isTold_172 : decode cL_isTold 172 = .ok (.goto 5, 3) := by decide +kernel
theorem dL_isTold_175 : decode cL_isTold 175 = .ok (.ldc 64, 2) := by decide +kernel
theorem dL_isTold_177 : decode cL_isTold 177 = .ok (.if_icmp .ne 7, 3) := by decide +kernel
theorem dL_isTold_180 : decode cL_isTold 180 = .ok (.iconst 1, 1) := by decide +kernel
theorem dL_isTold_181 : decode cL_isTold 181 = .ok (.goto 4, 3) := by decide +kernel
theorem dL_isTold_184 : decode cL_isTold 184 = .ok (.iconst 0, 1) := by decide +kernel
theorem dL_isTold_185 : decode cL_isTold 185 = .ok (.ireturn, 1) := by decide +kernel
theorem dL_isTold_186 : decode cL_isTold 186 = .ok (.iload 6, 2) := by decide +kernel
theorem dL_isTold_188 : decode cL_isTold 188 = .ok (.iconst 1, 1) := by decide +kernel
theorem dL_isTold_189 : decode cL_isTold 189 = .ok (.if_icmp .ne 231, 3) := by decide +kernel
theorem dL_isTold_192 : decode cL_isTold 192 = .ok (.iload 7, 2) := by decide +kernel
theorem dL_isTold_194 : decode cL_isTold 194 = .ok (.bipush 23, 2) := by decide +kernel
theorem dL_isTold_196 : decode cL_isTold 196 = .ok (.irem, 1) := by decide +kernel
theorem dL_isTold_197 : decode cL_isTold 197 = .ok (.bipush 22, 2) := by decide +kernel
theorem dL_isTold_199 : decode cL_isTold 199 = .ok (.if_icmp .ne 8, 3) := by decide +kernel
theorem dL_isTold_202 : decode cL_isTold 202 = .ok (.bipush 50, 2) := by decide +kernel
theorem dL_isTold_204 : decode cL_isTold 204 = .ok (.goto 8, 3) := by decide +kernel
theorem dL_isTold_207 : decode cL_isTold 207 = .ok (.iload 7, 2) := by decide +kernel
theorem dL_isTold_209 : decode cL_isTold 209 = .ok (.bipush 50, 2) := by decide +kernel
theorem dL_isTold_211 : decode cL_isTold 211 = .ok (.irem, 1) := by decide +kernel
theorem dL_isTold_212 : decode cL_isTold 212 = .ok (.istore 9, 2) := by decide +kernel
theorem dL_isTold_214 : decode cL_isTold 214 = .ok (.iconst 0, 1) := by decide +kernel
theorem dL_isTold_215 : decode cL_isTold 215 = .ok (.istore 10, 2) := by decide +kernel
theorem dL_isTold_217 : decode cL_isTold 217 = .ok (.iconst 0, 1) := by decide +kernel
theorem dL_isTold_218 : decode cL_isTold 218 = .ok (.istore 11, 2) := by decide +kernel
theorem dL_isTold_220 : decode cL_isTold 220 = .ok (.iload 11, 2) := by decide +kernel
theorem dL_isTold_222 : decode cL_isTold 222 = .ok (.iconst 1, 1) := by decide +kernel
theorem dL_isTold_223 : decode cL_isTold 223 = .ok (.iload 8, 2) := by decide +kernel
theorem dL_isTold_225 : decode cL_isTold 225 = .ok (.iconst 4, 1) := by decide +kernel
theorem dL_isTold_226 : decode cL_isTold 226 = .ok (.irem, 1) := by decide +kernel
theorem dL_isTold_227 : decode cL_isTold 227 = .ok (.iadd, 1) := by decide +kernel
theorem dL_isTold_228 : decode cL_isTold 228 = .ok (.if_icmp .ge 28, 3) := by decide +kernel
theorem dL_isTold_231 : decode cL_isTold 231 = .ok (.bipush 10, 2) := by decide +kernel
theorem dL_isTold_233 : decode cL_isTold 233 = .ok (.iload 10, 2) := by decide +kernel
theorem dL_isTold_235 : decode cL_isTold 235 = .ok (.imul, 1) := by decide +kernel
theorem dL_isTold_236 : decode cL_isTold 236 = .ok (.iconst 1, 1) := by decide +kernel
theorem dL_isTold_237 : decode cL_isTold 237 = .ok (.iadd, 1) := by decide +kernel
theorem dL_isTold_238 : decode cL_isTold 238 = .ok (.iload 8, 2) := by decide +kernel
theorem dL_isTold_240 : decode cL_isTold 240 = .ok (.iconst 2, 1) := by decide +kernel
theorem dL_isTold_241 : decode cL_isTold 241 = .ok (.iload 11, 2) := by decide +kernel
theorem dL_isTold_243 : decode cL_isTold 243 = .ok (.imul, 1) := by decide +kernel
theorem dL_isTold_244 : decode cL_isTold 244 = .ok (.ishr, 1) := by decide +kernel
theorem dL_isTold_245 : decode cL_isTold 245 = .ok (.iconst 4, 1) := by decide +kernel
theorem dL_isTold_246 : decode cL_isTold 246 = .ok (.irem, 1) := by decide +kernel
theorem dL_isTold_247 : decode cL_isTold 247 = .ok (.iadd, 1) := by decide +kernel
theorem dL_isTold_248 : decode cL_isTold 248 = .ok (.istore 10, 2) := by decide +kernel
theorem dL_isTold_250 : decode cL_isTold 250 = .ok (.iinc 11 1, 3) := by decide +kernel
theorem dL_isTold_253 : decode cL_isTold 253 = .ok (.goto (-33), 3) := by decide +kernel
theorem dL_isTold_256 : decode cL_isTold 256 = .ok (.iload 8, 2) := by decide +kernel
theorem dL_isTold_258 : decode cL_isTold 258 = .ok (.bipush 13, 2) := by decide +kernel
theorem dL_isTold_260 : decode cL_isTold 260 = .ok (.irem, 1) := by decide +kernel
theorem dL_isTold_261 : decode cL_isTold 261 = .ok (.bipush 12, 2) := by decide +kernel
theorem dL_isTold_263 : decode cL_isTold 263 = .ok (.if_icmp .ne 10, 3) := by decide +kernel
theorem dL_isTold_266 : decode cL_isTold 266 = .ok (.iload 10, 2) := by decide +kernel
theorem dL_isTold_268 : decode cL_isTold 268 = .ok (.iconst 4, 1) := by decide +kernel
theorem dL_isTold_269 : decode cL_isTold 269 = .ok (.iadd, 1) := by decide +kernel
theorem dL_isTold_270 : decode cL_isTold 270 = .ok (.goto 5, 3) := by decide +kernel
theorem dL_isTold_273 : decode cL_isTold 273 = .ok (.iload 10, 2) := by decide +kernel
theorem dL_isTold_275 : decode cL_isTold 275 = .ok (.istore 10, 2) := by decide +kernel
theorem dL_isTold_277 : decode cL_isTold 277 = .ok (.iload 10, 2) := by decide +kernel
theorem dL_isTold_279 : decode cL_isTold 279 = .ok (.sipush 5000, 3) := by decide +kernel
theorem dL_isTold_282 : decode cL_isTold 282 = .ok (.if_icmp .ge 7, 3) := by decide +kernel
theorem dL_isTold_285 : decode cL_isTold 285 = .ok (.iconst 1, 1) := by decide +kernel
theorem dL_isTold_286 : decode cL_isTold 286 = .ok (.goto 4, 3) := by decide +kernel
theorem dL_isTold_289 : decode cL_isTold 289 = .ok (.iconst 0, 1) := by decide +kernel
theorem dL_isTold_290 : decode cL_isTold 290 = .ok (.istore 11, 2) := by decide +kernel
theorem dL_isTold_292 : decode cL_isTold 292 = .ok (.iload 10, 2) := by decide +kernel
theorem dL_isTold_294 : decode cL_isTold 294 = .ok (.istore 12, 2) := by decide +kernel
theorem dL_isTold_296 : decode cL_isTold 296 = .ok (.iload 12, 2) := by decide +kernel
theorem dL_isTold_298 : decode cL_isTold 298 = .ok (.ifCond .le 42, 3) := by decide +kernel
theorem dL_isTold_301 : decode cL_isTold 301 = .ok (.iload 11, 2) := by decide +kernel
theorem dL_isTold_303 : decode cL_isTold 303 = .ok (.ifCond .eq 24, 3) := by decide +kernel
theorem dL_isTold_306 : decode cL_isTold 306 = .ok (.iload 12, 2) := by decide +kernel
theorem dL_isTold_308 : decode cL_isTold 308 = .ok (.bipush 10, 2) := by decide +kernel
theorem dL_isTold_310 : decode cL_isTold 310 = .ok (.irem, 1) := by decide +kernel
theorem dL_isTold_311 : decode cL_isTold 311 = .ok (.ifCond .le 16, 3) := by decide +kernel
theorem dL_isTold_314 : decode cL_isTold 314 = .ok (.iload 12, 2) := by decide +kernel
theorem dL_isTold_316 : decode cL_isTold 316 = .ok (.bipush 10, 2) := by decide +kernel
theorem dL_isTold_318 : decode cL_isTold 318 = .ok (.irem, 1) := by decide +kernel
theorem dL_isTold_319 : decode cL_isTold 319 = .ok (.iconst 5, 1) := by decide +kernel
theorem dL_isTold_320 : decode cL_isTold 320 = .ok (.if_icmp .ge 7, 3) := by decide +kernel
theorem dL_isTold_323 : decode cL_isTold 323 = .ok (.iconst 1, 1) := by decide +kernel
theorem dL_isTold_324 : decode cL_isTold 324 = .ok (.goto 4, 3) := by decide +kernel
theorem dL_isTold_327 : decode cL_isTold 327 = .ok (.iconst 0, 1) := by decide +kernel
theorem dL_isTold_328 : decode cL_isTold 328 = .ok (.istore 11, 2) := by decide +kernel
theorem dL_isTold_330 : decode cL_isTold 330 = .ok (.iload 12, 2) := by decide +kernel
theorem dL_isTold_332 : decode cL_isTold 332 = .ok (.bipush 10, 2) := by decide +kernel
theorem dL_isTold_334 : decode cL_isTold 334 = .ok (.idiv, 1) := by decide +kernel
theorem dL_isTold_335 : decode cL_isTold 335 = .ok (.istore 12, 2) := by decide +kernel
theorem dL_isTold_337 : decode cL_isTold 337 = .ok (.goto (-41), 3) := by decide +kernel
theorem dL_isTold_340 : decode cL_isTold 340 = .ok (.iload 9, 2) := by decide +kernel
theorem dL_isTold_342 : decode cL_isTold 342 = .ok (.bipush 50, 2) := by decide +kernel
theorem dL_isTold_344 : decode cL_isTold 344 = .ok (.if_icmp .ge 10, 3) := by decide +kernel
theorem dL_isTold_347 : decode cL_isTold 347 = .ok (.aload_n 3, 1) := by decide +kernel
theorem dL_isTold_348 : decode cL_isTold 348 = .ok (.iload 9, 2) := by decide +kernel
theorem dL_isTold_350 : decode cL_isTold 350 = .ok (.iaload, 1) := by decide +kernel
theorem dL_isTold_351 : decode cL_isTold 351 = .ok (.goto 4, 3) := by decide +kernel
theorem dL_isTold_354 : decode cL_isTold 354 = .ok (.iconst 0, 1) := by decide +kernel
theorem dL_isTold_355 : decode cL_isTold 355 = .ok (.istore 12, 2) := by decide +kernel
theorem dL_isTold_357 : decode cL_isTold 357 = .ok (.iload 9, 2) := by decide +kernel
theorem dL_isTold_359 : decode cL_isTold 359 = .ok (.bipush 50, 2) := by decide +kernel
theorem dL_isTold_361 : decode cL_isTold 361 = .ok (.if_icmp .ge 14, 3) := by decide +kernel
theorem dL_isTold_364 : decode cL_isTold 364 = .ok (.iload 11, 2) := by decide +kernel
theorem dL_isTold_366 : decode cL_isTold 366 = .ok (.ifCond .eq 9, 3) := by decide +kernel
theorem dL_isTold_369 : decode cL_isTold 369 = .ok (.aload_n 3, 1) := by decide +kernel
theorem dL_isTold_370 : decode cL_isTold 370 = .ok (.iload 9, 2) := by decide +kernel
theorem dL_isTold_372 : decode cL_isTold 372 = .ok (.iload 10, 2) := by decide +kernel
theorem dL_isTold_374 : decode cL_isTold 374 = .ok (.iastore, 1) := by decide +kernel
theorem dL_isTold_375 : decode cL_isTold 375 = .ok (.aload_n 0, 1) := by decide +kernel
theorem dL_isTold_376 : decode cL_isTold 376 = .ok (.iconst 5, 1) := by decide +kernel
theorem dL_isTold_377 : decode cL_isTold 377 = .ok (.iload 9, 2) := by decide +kernel
theorem dL_isTold_379 : decode cL_isTold 379 = .ok (.iload 10, 2) := by decide +kernel
theorem dL_isTold_381 : decode cL_isTold 381 = .ok (.iconst 0, 1) := by decide +kernel
theorem dL_isTold_382 : decode cL_isTold 382 = .ok (.iconst 0, 1) := by decide +kernel
theorem dL_isTold_383 : decode cL_isTold 383 = .ok (.iconst 0, 1) := by decide +kernel
theorem dL_isTold_384 : decode cL_isTold 384 = .ok (.invokestatic 123, 3) := by decide +kernel
theorem dL_isTold_387 : decode cL_isTold 387 = .ok (.iload 9, 2) := by decide +kernel
theorem dL_isTold_389 : decode cL_isTold 389 = .ok (.bipush 50, 2) := by decide +kernel
theorem dL_isTold_391 : decode cL_isTold 391 = .ok (.if_icmp .ne 8, 3) := by decide +kernel
theorem dL_isTold_394 : decode cL_isTold 394 = .ok (.ldc 61, 2) := by decide +kernel
theorem dL_isTold_396 : decode cL_isTold 396 = .ok (.goto 15, 3) := by decide +kernel
theorem dL_isTold_399 : decode cL_isTold 399 = .ok (.iload 11, 2) := by decide +kernel
theorem dL_isTold_401 : decode cL_isTold 401 = .ok (.ifCond .eq 8, 3) := by decide +kernel
theorem dL_isTold_404 : decode cL_isTold 404 = .ok (.iload 12, 2) := by decide +kernel
theorem dL_isTold_406 : decode cL_isTold 406 = .ok (.goto 5, 3) := by decide +kernel
theorem dL_isTold_409 : decode cL_isTold 409 = .ok (.ldc 64, 2) := by decide +kernel
theorem dL_isTold_411 : decode cL_isTold 411 = .ok (.if_icmp .ne 7, 3) := by decide +kernel
theorem dL_isTold_414 : decode cL_isTold 414 = .ok (.iconst 1, 1) := by decide +kernel
theorem dL_isTold_415 : decode cL_isTold 415 = .ok (.goto 4, 3) := by decide +kernel
theorem dL_isTold_418 : decode cL_isTold 418 = .ok (.iconst 0, 1) := by decide +kernel
theorem dL_isTold_419 : decode cL_isTold 419 = .ok (.ireturn, 1) := by decide +kernel
theorem dL_isTold_420 : decode cL_isTold 420 = .ok (.iload 7, 2) := by decide +kernel
theorem dL_isTold_422 : decode cL_isTold 422 = .ok (.bipush 13, 2) := by decide +kernel
theorem dL_isTold_424 : decode cL_isTold 424 = .ok (.irem, 1) := by decide +kernel
theorem dL_isTold_425 : decode cL_isTold 425 = .ok (.bipush 12, 2) := by decide +kernel
theorem dL_isTold_427 : decode cL_isTold 427 = .ok (.if_icmp .ne 7, 3) := by decide +kernel
theorem dL_isTold_430 : decode cL_isTold 430 = .ok (.iconst 4, 1) := by decide +kernel
theorem dL_isTold_431 : decode cL_isTold 431 = .ok (.goto 7, 3) := by decide +kernel
theorem dL_isTold_434 : decode cL_isTold 434 = .ok (.iload 7, 2) := by decide +kernel
theorem dL_isTold_436 : decode cL_isTold 436 = .ok (.iconst 4, 1) := by decide +kernel
theorem dL_isTold_437 : decode cL_isTold 437 = .ok (.irem, 1) := by decide +kernel
theorem dL_isTold_438 : decode cL_isTold 438 = .ok (.istore 9, 2) := by decide +kernel
theorem dL_isTold_440 : decode cL_isTold 440 = .ok (.iload 8, 2) := by decide +kernel
theorem dL_isTold_442 : decode cL_isTold 442 = .ok (.bipush 13, 2) := by decide +kernel
theorem dL_isTold_444 : decode cL_isTold 444 = .ok (.irem, 1) := by decide +kernel
theorem dL_isTold_445 : decode cL_isTold 445 = .ok (.bipush 12, 2) := by decide +kernel
theorem dL_isTold_447 : decode cL_isTold 447 = .ok (.if_icmp .ne 9, 3) := by decide +kernel
theorem dL_isTold_450 : decode cL_isTold 450 = .ok (.sipush 1000, 3) := by decide +kernel
theorem dL_isTold_453 : decode cL_isTold 453 = .ok (.goto 8, 3) := by decide +kernel
theorem dL_isTold_456 : decode cL_isTold 456 = .ok (.iload 8, 2) := by decide +kernel
theorem dL_isTold_458 : decode cL_isTold 458 = .ok (.bipush 30, 2) := by decide +kernel
theorem dL_isTold_460 : decode cL_isTold 460 = .ok (.irem, 1) := by decide +kernel
theorem dL_isTold_461 : decode cL_isTold 461 = .ok (.istore 10, 2) := by decide +kernel
theorem dL_isTold_463 : decode cL_isTold 463 = .ok (.iload 7, 2) := by decide +kernel
theorem dL_isTold_465 : decode cL_isTold 465 = .ok (.bipush 13, 2) := by decide +kernel
theorem dL_isTold_467 : decode cL_isTold 467 = .ok (.idiv, 1) := by decide +kernel
theorem dL_isTold_468 : decode cL_isTold 468 = .ok (.bipush 11, 2) := by decide +kernel
theorem dL_isTold_470 : decode cL_isTold 470 = .ok (.irem, 1) := by decide +kernel
theorem dL_isTold_471 : decode cL_isTold 471 = .ok (.bipush 10, 2) := by decide +kernel
theorem dL_isTold_473 : decode cL_isTold 473 = .ok (.if_icmp .ne 7, 3) := by decide +kernel
theorem dL_isTold_476 : decode cL_isTold 476 = .ok (.iconst (-1), 1) := by decide +kernel
theorem dL_isTold_477 : decode cL_isTold 477 = .ok (.goto 12, 3) := by decide +kernel
theorem dL_isTold_480 : decode cL_isTold 480 = .ok (.iload 7, 2) := by decide +kernel
theorem dL_isTold_482 : decode cL_isTold 482 = .ok (.bipush 13, 2) := by decide +kernel
theorem dL_isTold_484 : decode cL_isTold 484 = .ok (.idiv, 1) := by decide +kernel
theorem dL_isTold_485 : decode cL_isTold 485 = .ok (.sipush 1000, 3) := by decide +kernel
theorem dL_isTold_488 : decode cL_isTold 488 = .ok (.irem, 1) := by decide +kernel
theorem dL_isTold_489 : decode cL_isTold 489 = .ok (.istore 11, 2) := by decide +kernel
theorem dL_isTold_491 : decode cL_isTold 491 = .ok (.iload 8, 2) := by decide +kernel
theorem dL_isTold_493 : decode cL_isTold 493 = .ok (.bipush 13, 2) := by decide +kernel
theorem dL_isTold_495 : decode cL_isTold 495 = .ok (.idiv, 1) := by decide +kernel
theorem dL_isTold_496 : decode cL_isTold 496 = .ok (.iconst 4, 1) := by decide +kernel
theorem dL_isTold_497 : decode cL_isTold 497 = .ok (.irem, 1) := by decide +kernel
theorem dL_isTold_498 : decode cL_isTold 498 = .ok (.istore 12, 2) := by decide +kernel
theorem dL_isTold_500 : decode cL_isTold 500 = .ok (.iload 9, 2) := by decide +kernel
theorem dL_isTold_502 : decode cL_isTold 502 = .ok (.iconst 4, 1) := by decide +kernel
theorem dL_isTold_503 : decode cL_isTold 503 = .ok (.if_icmp .ge 13, 3) := by decide +kernel
theorem dL_isTold_506 : decode cL_isTold 506 = .ok (.iload 12, 2) := by decide +kernel
theorem dL_isTold_508 : decode cL_isTold 508 = .ok (.iconst 3, 1) := by decide +kernel
theorem dL_isTold_509 : decode cL_isTold 509 = .ok (.if_icmp .ge 7, 3) := by decide +kernel
theorem dL_isTold_512 : decode cL_isTold 512 = .ok (.iconst 1, 1) := by decide +kernel
theorem dL_isTold_513 : decode cL_isTold 513 = .ok (.goto 4, 3) := by decide +kernel
theorem dL_isTold_516 : decode cL_isTold 516 = .ok (.iconst 0, 1) := by decide +kernel
theorem dL_isTold_517 : decode cL_isTold 517 = .ok (.istore 13, 2) := by decide +kernel
theorem dL_isTold_519 : decode cL_isTold 519 = .ok (.iload 10, 2) := by decide +kernel
theorem dL_isTold_521 : decode cL_isTold 521 = .ok (.sipush 1000, 3) := by decide +kernel
theorem dL_isTold_524 : decode cL_isTold 524 = .ok (.if_icmp .ge 12, 3) := by decide +kernel
theorem dL_isTold_527 : decode cL_isTold 527 = .ok (.iload 11, 2) := by decide +kernel
theorem dL_isTold_529 : decode cL_isTold 529 = .ok (.ifCond .lt 7, 3) := by decide +kernel
theorem dL_isTold_532 : decode cL_isTold 532 = .ok (.iconst 1, 1) := by decide +kernel
theorem dL_isTold_533 : decode cL_isTold 533 = .ok (.goto 4, 3) := by decide +kernel
theorem dL_isTold_536 : decode cL_isTold 536 = .ok (.iconst 0, 1) := by decide +kernel
theorem dL_isTold_537 : decode cL_isTold 537 = .ok (.istore 14, 2) := by decide +kernel
theorem dL_isTold_539 : decode cL_isTold 539 = .ok (.iload 13, 2) := by decide +kernel
theorem dL_isTold_541 : decode cL_isTold 541 = .ok (.ifCond .eq 13, 3) := by decide +kernel
theorem dL_isTold_544 : decode cL_isTold 544 = .ok (.aload 4, 2) := by decide +kernel
theorem dL_isTold_546 : decode cL_isTold 546 = .ok (.iconst 3, 1) := by decide +kernel
theorem dL_isTold_547 : decode cL_isTold 547 = .ok (.iload 9, 2) := by decide +kernel
theorem dL_isTold_549 : decode cL_isTold 549 = .ok (.imul, 1) := by decide +kernel
theorem dL_isTold_550 : decode cL_isTold 550 = .ok (.iaload, 1) := by decide +kernel
theorem dL_isTold_551 : decode cL_isTold 551 = .ok (.goto 4, 3) := by decide +kernel
theorem dL_isTold_554 : decode cL_isTold 554 = .ok (.iconst 0, 1) := by decide +kernel
theorem dL_isTold_555 : decode cL_isTold 555 = .ok (.istore 15, 2) := by decide +kernel
theorem dL_isTold_557 : decode cL_isTold 557 = .ok (.iload 13, 2) := by decide +kernel
theorem dL_isTold_559 : decode cL_isTold 559 = .ok (.ifCond .eq 39, 3) := by decide +kernel
theorem dL_isTold_562 : decode cL_isTold 562 = .ok (.iload 14, 2) := by decide +kernel
theorem dL_isTold_564 : decode cL_isTold 564 = .ok (.ifCond .eq 34, 3) := by decide +kernel
theorem dL_isTold_567 : decode cL_isTold 567 = .ok (.aload 4, 2) := by decide +kernel
theorem dL_isTold_569 : decode cL_isTold 569 = .ok (.iconst 3, 1) := by decide +kernel
theorem dL_isTold_570 : decode cL_isTold 570 = .ok (.iload 9, 2) := by decide +kernel
theorem dL_isTold_572 : decode cL_isTold 572 = .ok (.imul, 1) := by decide +kernel
theorem dL_isTold_573 : decode cL_isTold 573 = .ok (.iload 10, 2) := by decide +kernel
theorem dL_isTold_575 : decode cL_isTold 575 = .ok (.iastore, 1) := by decide +kernel
theorem dL_isTold_576 : decode cL_isTold 576 = .ok (.aload 4, 2) := by decide +kernel
theorem dL_isTold_578 : decode cL_isTold 578 = .ok (.iconst 3, 1) := by decide +kernel
theorem dL_isTold_579 : decode cL_isTold 579 = .ok (.iload 9, 2) := by decide +kernel
theorem dL_isTold_581 : decode cL_isTold 581 = .ok (.imul, 1) := by decide +kernel
theorem dL_isTold_582 : decode cL_isTold 582 = .ok (.iconst 1, 1) := by decide +kernel
theorem dL_isTold_583 : decode cL_isTold 583 = .ok (.iadd, 1) := by decide +kernel
theorem dL_isTold_584 : decode cL_isTold 584 = .ok (.iload 11, 2) := by decide +kernel
theorem dL_isTold_586 : decode cL_isTold 586 = .ok (.iastore, 1) := by decide +kernel
theorem dL_isTold_587 : decode cL_isTold 587 = .ok (.aload 4, 2) := by decide +kernel
theorem dL_isTold_589 : decode cL_isTold 589 = .ok (.iconst 3, 1) := by decide +kernel
theorem dL_isTold_590 : decode cL_isTold 590 = .ok (.iload 9, 2) := by decide +kernel
theorem dL_isTold_592 : decode cL_isTold 592 = .ok (.imul, 1) := by decide +kernel
theorem dL_isTold_593 : decode cL_isTold 593 = .ok (.iconst 2, 1) := by decide +kernel
theorem dL_isTold_594 : decode cL_isTold 594 = .ok (.iadd, 1) := by decide +kernel
theorem dL_isTold_595 : decode cL_isTold 595 = .ok (.iload 12, 2) := by decide +kernel
theorem dL_isTold_597 : decode cL_isTold 597 = .ok (.iastore, 1) := by decide +kernel
theorem dL_isTold_598 : decode cL_isTold 598 = .ok (.aload_n 0, 1) := by decide +kernel
theorem dL_isTold_599 : decode cL_isTold 599 = .ok (.bipush 7, 2) := by decide +kernel
theorem dL_isTold_601 : decode cL_isTold 601 = .ok (.iload 9, 2) := by decide +kernel
theorem dL_isTold_603 : decode cL_isTold 603 = .ok (.iload 10, 2) := by decide +kernel
theorem dL_isTold_605 : decode cL_isTold 605 = .ok (.iload 11, 2) := by decide +kernel
theorem dL_isTold_607 : decode cL_isTold 607 = .ok (.iload 12, 2) := by decide +kernel
theorem dL_isTold_609 : decode cL_isTold 609 = .ok (.iconst 0, 1) := by decide +kernel
theorem dL_isTold_610 : decode cL_isTold 610 = .ok (.invokestatic 123, 3) := by decide +kernel
theorem dL_isTold_613 : decode cL_isTold 613 = .ok (.iload 13, 2) := by decide +kernel
theorem dL_isTold_615 : decode cL_isTold 615 = .ok (.ifCond .ne 8, 3) := by decide +kernel
theorem dL_isTold_618 : decode cL_isTold 618 = .ok (.ldc 61, 2) := by decide +kernel
theorem dL_isTold_620 : decode cL_isTold 620 = .ok (.goto 15, 3) := by decide +kernel
theorem dL_isTold_623 : decode cL_isTold 623 = .ok (.iload 14, 2) := by decide +kernel
theorem dL_isTold_625 : decode cL_isTold 625 = .ok (.ifCond .eq 8, 3) := by decide +kernel
theorem dL_isTold_628 : decode cL_isTold 628 = .ok (.iload 15, 2) := by decide +kernel
theorem dL_isTold_630 : decode cL_isTold 630 = .ok (.goto 5, 3) := by decide +kernel
theorem dL_isTold_633 : decode cL_isTold 633 = .ok (.ldc 64, 2) := by decide +kernel
theorem dL_isTold_635 : decode cL_isTold 635 = .ok (.if_icmp .ne 7, 3) := by decide +kernel
theorem dL_isTold_638 : decode cL_isTold 638 = .ok (.iconst 1, 1) := by decide +kernel
theorem dL_isTold_639 : decode cL_isTold 639 = .ok (.goto 4, 3) := by decide +kernel
theorem dL_isTold_642 : decode cL_isTold 642 = .ok (.iconst 0, 1) := by decide +kernel
theorem dL_isTold_643 : decode cL_isTold 643 = .ok (.ireturn, 1) := by decide +kernel
theorem dL_law_0 : decode cL_law 0 = .ok (.new 9, 3) := by decide +kernel
theorem dL_law_3 : decode cL_law 3 = .ok (.dup, 1) := by decide +kernel
theorem dL_law_4 : decode cL_law 4 = .ok (.invokespecial 203, 3) := by decide +kernel
theorem dL_law_7 : decode cL_law 7 = .ok (.astore_n 1, 1) := by decide +kernel
theorem dL_law_8 : decode cL_law 8 = .ok (.bipush 28, 2) := by decide +kernel
theorem dL_law_10 : decode cL_law 10 = .ok (.newarray .int, 2) := by decide +kernel
theorem dL_law_12 : decode cL_law 12 = .ok (.astore_n 2, 1) := by decide +kernel
theorem dL_law_13 : decode cL_law 13 = .ok (.bipush 64, 2) := by decide +kernel
theorem dL_law_15 : decode cL_law 15 = .ok (.newarray .int, 2) := by decide +kernel
theorem dL_law_17 : decode cL_law 17 = .ok (.astore_n 3, 1) := by decide +kernel
theorem dL_law_18 : decode cL_law 18 = .ok (.bipush 21, 2) := by decide +kernel
theorem dL_law_20 : decode cL_law 20 = .ok (.newarray .int, 2) := by decide +kernel
theorem dL_law_22 : decode cL_law 22 = .ok (.astore 4, 2) := by decide +kernel
theorem dL_law_24 : decode cL_law 24 = .ok (.bipush 50, 2) := by decide +kernel
theorem dL_law_26 : decode cL_law 26 = .ok (.newarray .int, 2) := by decide +kernel
theorem dL_law_28 : decode cL_law 28 = .ok (.astore 5, 2) := by decide +kernel
theorem dL_law_30 : decode cL_law 30 = .ok (.bipush 50, 2) := by decide +kernel
theorem dL_law_32 : decode cL_law 32 = .ok (.newarray .int, 2) := by decide +kernel
theorem dL_law_34 : decode cL_law 34 = .ok (.astore 6, 2) := by decide +kernel
theorem dL_law_36 : decode cL_law 36 = .ok (.bipush 50, 2) := by decide +kernel
theorem dL_law_38 : decode cL_law 38 = .ok (.newarray .int, 2) := by decide +kernel
theorem dL_law_40 : decode cL_law 40 = .ok (.astore 7, 2) := by decide +kernel
theorem dL_law_42 : decode cL_law 42 = .ok (.bipush 50, 2) := by decide +kernel
theorem dL_law_44 : decode cL_law 44 = .ok (.newarray .int, 2) := by decide +kernel
theorem dL_law_46 : decode cL_law 46 = .ok (.astore 8, 2) := by decide +kernel
theorem dL_law_48 : decode cL_law 48 = .ok (.bipush 50, 2) := by decide +kernel
theorem dL_law_50 : decode cL_law 50 = .ok (.newarray .int, 2) := by decide +kernel
theorem dL_law_52 : decode cL_law 52 = .ok (.astore 9, 2) := by decide +kernel
theorem dL_law_54 : decode cL_law 54 = .ok (.bipush 12, 2) := by decide +kernel
theorem dL_law_56 : decode cL_law 56 = .ok (.newarray .int, 2) := by decide +kernel
theorem dL_law_58 : decode cL_law 58 = .ok (.astore 10, 2) := by decide +kernel
theorem dL_law_60 : decode cL_law 60 = .ok (.iconst 2, 1) := by decide +kernel
theorem dL_law_61 : decode cL_law 61 = .ok (.newarray .int, 2) := by decide +kernel
theorem dL_law_63 : decode cL_law 63 = .ok (.astore 11, 2) := by decide +kernel
theorem dL_law_65 : decode cL_law 65 = .ok (.bipush 12, 2) := by decide +kernel
theorem dL_law_67 : decode cL_law 67 = .ok (.newarray .long, 2) := by decide +kernel
theorem dL_law_69 : decode cL_law 69 = .ok (.astore 12, 2) := by decide +kernel
theorem dL_law_71 : decode cL_law 71 = .ok (.bipush 12, 2) := by decide +kernel
theorem dL_law_73 : decode cL_law 73 = .ok (.newarray .long, 2) := by decide +kernel
theorem dL_law_75 : decode cL_law 75 = .ok (.astore 13, 2) := by decide +kernel
theorem dL_law_77 : decode cL_law 77 = .ok (.iconst 0, 1) := by decide +kernel
theorem dL_law_78 : decode cL_law 78 = .ok (.istore 14, 2) := by decide +kernel
theorem dL_law_80 : decode cL_law 80 = .ok (.iload 14, 2) := by decide +kernel
theorem dL_law_82 : decode cL_law 82 = .ok (.bipush 50, 2) := by decide +kernel
theorem dL_law_84 : decode cL_law 84 = .ok (.if_icmp .ge 54, 3) := by decide +kernel
theorem dL_law_87 : decode cL_law 87 = .ok (.aload 7, 2) := by decide +kernel
theorem dL_law_89 : decode cL_law 89 = .ok (.iload 14, 2) := by decide +kernel
theorem dL_law_91 : decode cL_law 91 = .ok (.iload 14, 2) := by decide +kernel
theorem dL_law_93 : decode cL_law 93 = .ok (.iastore, 1) := by decide +kernel
theorem dL_law_94 : decode cL_law 94 = .ok (.aload 8, 2) := by decide +kernel
theorem dL_law_96 : decode cL_law 96 = .ok (.iload 14, 2) := by decide +kernel
theorem dL_law_98 : decode cL_law 98 = .ok (.iload 14, 2) := by decide +kernel
theorem dL_law_100 : decode cL_law 100 = .ok (.iastore, 1) := by decide +kernel
theorem dL_law_101 : decode cL_law 101 = .ok (.aload 9, 2) := by decide +kernel
theorem dL_law_103 : decode cL_law 103 = .ok (.iload 14, 2) := by decide +kernel
theorem dL_law_105 : decode cL_law 105 = .ok (.bipush 100, 2) := by decide +kernel
theorem dL_law_107 : decode cL_law 107 = .ok (.iload 14, 2) := by decide +kernel
theorem dL_law_109 : decode cL_law 109 = .ok (.bipush 16, 2) := by decide +kernel
theorem dL_law_111 : decode cL_law 111 = .ok (.idiv, 1) := by decide +kernel
theorem dL_law_112 : decode cL_law 112 = .ok (.imul, 1) := by decide +kernel
theorem dL_law_113 : decode cL_law 113 = .ok (.bipush 10, 2) := by decide +kernel
theorem dL_law_115 : decode cL_law 115 = .ok (.iload 14, 2) := by decide +kernel
theorem dL_law_117 : decode cL_law 117 = .ok (.iconst 4, 1) := by decide +kernel
theorem dL_law_118 : decode cL_law 118 = .ok (.idiv, 1) := by decide +kernel
theorem dL_law_119 : decode cL_law 119 = .ok (.iconst 4, 1) := by decide +kernel
theorem dL_law_120 : decode cL_law 120 = .ok (.irem, 1) := by decide +kernel
theorem dL_law_121 : decode cL_law 121 = .ok (.imul, 1) := by decide +kernel
theorem dL_law_122 : decode cL_law 122 = .ok (.iadd, 1) := by decide +kernel
theorem dL_law_123 : decode cL_law 123 = .ok (.iload 14, 2) := by decide +kernel
theorem dL_law_125 : decode cL_law 125 = .ok (.iconst 4, 1) := by decide +kernel
theorem dL_law_126 : decode cL_law 126 = .ok (.irem, 1) := by decide +kernel
theorem dL_law_127 : decode cL_law 127 = .ok (.iadd, 1) := by decide +kernel
theorem dL_law_128 : decode cL_law 128 = .ok (.bipush 111, 2) := by decide +kernel
theorem dL_law_130 : decode cL_law 130 = .ok (.iadd, 1) := by decide +kernel
theorem dL_law_131 : decode cL_law 131 = .ok (.iastore, 1) := by decide +kernel
theorem dL_law_132 : decode cL_law 132 = .ok (.iinc 14 1, 3) := by decide +kernel
theorem dL_law_135 : decode cL_law 135 = .ok (.goto (-55), 3) := by decide +kernel
theorem dL_law_138 : decode cL_law 138 = .ok (.aload_n 1, 1) := by decide +kernel
theorem dL_law_139 : decode cL_law 139 = .ok (.bipush 12, 2) := by decide +kernel
theorem dL_law_141 : decode cL_law 141 = .ok (.iconst 0, 1) := by decide +kernel
theorem dL_law_142 : decode cL_law 142 = .ok (.iconst 0, 1) := by decide +kernel
theorem dL_law_143 : decode cL_law 143 = .ok (.iconst 0, 1) := by decide +kernel
theorem dL_law_144 : decode cL_law 144 = .ok (.iconst 0, 1) := by decide +kernel
theorem dL_law_145 : decode cL_law 145 = .ok (.iconst 0, 1) := by decide +kernel
theorem dL_law_146 : decode cL_law 146 = .ok (.invokestatic 123, 3) := by decide +kernel
theorem dL_law_149 : decode cL_law 149 = .ok (.ldc 67, 2) := by decide +kernel
theorem dL_law_151 : decode cL_law 151 = .ok (.if_icmp .ne 87, 3) := by decide +kernel
theorem dL_law_154 : decode cL_law 154 = .ok (.aload_n 1, 1) := by decide +kernel
theorem dL_law_155 : decode cL_law 155 = .ok (.iconst 1, 1) := by decide +kernel
theorem dL_law_156 : decode cL_law 156 = .ok (.sipush 1000, 3) := by decide +kernel
theorem dL_law_159 : decode cL_law 159 = .ok (.iconst 0, 1) := by decide +kernel
theorem dL_law_160 : decode cL_law 160 = .ok (.iconst 0, 1) := by decide +kernel
theorem dL_law_161 : decode cL_law 161 = .ok (.iconst 0, 1) := by decide +kernel
theorem dL_law_162 : decode cL_law 162 = .ok (.iconst 0, 1) := by decide +kernel
theorem dL_law_163 : decode cL_law 163 = .ok (.invokestatic 123, 3) := by decide +kernel
theorem dL_law_166 : decode cL_law 166 = .ok (.ldc 64, 2) := by decide +kernel
theorem dL_law_168 : decode cL_law 168 = .ok (.if_icmp .ne 70, 3) := by decide +kernel
theorem dL_law_171 : decode cL_law 171 = .ok (.aload_n 1, 1) := by decide +kernel
theorem dL_law_172 : decode cL_law 172 = .ok (.iconst 1, 1) := by decide +kernel
theorem dL_law_173 : decode cL_law 173 = .ok (.iconst 1, 1) := by decide +kernel
theorem dL_law_174 : decode cL_law 174 = .ok (.iconst 0, 1) := by decide +kernel
theorem dL_law_175 : decode cL_law 175 = .ok (.iconst 0, 1) := by decide +kernel
theorem dL_law_176 : decode cL_law 176 = .ok (.iconst 0, 1) := by decide +kernel
theorem dL_law_177 : decode cL_law 177 = .ok (.iconst 0, 1) := by decide +kernel
theorem dL_law_178 : decode cL_law 178 = .ok (.invokestatic 123, 3) := by decide +kernel
theorem dL_law_181 : decode cL_law 181 = .ok (.ldc 67, 2) := by decide +kernel
theorem dL_law_183 : decode cL_law 183 = .ok (.if_icmp .ne 55, 3) := by decide +kernel
theorem dL_law_186 : decode cL_law 186 = .ok (.aload_n 1, 1) := by decide +kernel
theorem dL_law_187 : decode cL_law 187 = .ok (.bipush 10, 2) := by decide +kernel
theorem dL_law_189 : decode cL_law 189 = .ok (.iconst 0, 1) := by decide +kernel
theorem dL_law_190 : decode cL_law 190 = .ok (.iconst 0, 1) := by decide +kernel
theorem dL_law_191 : decode cL_law 191 = .ok (.iconst 0, 1) := by decide +kernel
theorem dL_law_192 : decode cL_law 192 = .ok (.iconst 0, 1) := by decide +kernel
theorem dL_law_193 : decode cL_law 193 = .ok (.iconst 0, 1) := by decide +kernel
theorem dL_law_194 : decode cL_law 194 = .ok (.invokestatic 123, 3) := by decide +kernel
theorem dL_law_197 : decode cL_law 197 = .ok (.ldc 61, 2) := by decide +kernel
theorem dL_law_199 : decode cL_law 199 = .ok (.if_icmp .ne 39, 3) := by decide +kernel
theorem dL_law_202 : decode cL_law 202 = .ok (.aload_n 1, 1) := by decide +kernel
theorem dL_law_203 : decode cL_law 203 = .ok (.bipush 11, 2) := by decide +kernel
theorem dL_law_205 : decode cL_law 205 = .ok (.iconst 0, 1) := by decide +kernel
theorem dL_law_206 : decode cL_law 206 = .ok (.iconst 5, 1) := by decide +kernel
theorem dL_law_207 : decode cL_law 207 = .ok (.iconst 0, 1) := by decide +kernel
theorem dL_law_208 : decode cL_law 208 = .ok (.iconst 0, 1) := by decide +kernel
theorem dL_law_209 : decode cL_law 209 = .ok (.iconst 0, 1) := by decide +kernel
theorem dL_law_210 : decode cL_law 210 = .ok (.invokestatic 123, 3) := by decide +kernel
theorem dL_law_213 : decode cL_law 213 = .ok (.ldc 61, 2) := by decide +kernel
theorem dL_law_215 : decode cL_law 215 = .ok (.if_icmp .ne 23, 3) := by decide +kernel
theorem dL_law_218 : decode cL_law 218 = .ok (.aload_n 1, 1) := by decide +kernel
theorem dL_law_219 : decode cL_law 219 = .ok (.bipush 13, 2) := by decide +kernel
theorem dL_law_221 : decode cL_law 221 = .ok (.iconst 0, 1) := by decide +kernel
theorem dL_law_222 : decode cL_law 222 = .ok (.iconst (-1), 1) := by decide +kernel
theorem dL_law_223 : decode cL_law 223 = .ok (.iconst 0, 1) := by decide +kernel
theorem dL_law_224 : decode cL_law 224 = .ok (.iconst 0, 1) := by decide +kernel
theorem dL_law_225 : decode cL_law 225 = .ok (.iconst 0, 1) := by decide +kernel
theorem dL_law_226 : decode cL_law 226 = .ok (.invokestatic 123, 3) := by decide +kernel
theorem dL_law_229 : decode cL_law 229 = .ok (.ldc 61, 2) := by decide +kernel
theorem dL_law_231 : decode cL_law 231 = .ok (.if_icmp .ne 7, 3) := by decide +kernel
theorem dL_law_234 : decode cL_law 234 = .ok (.iconst 1, 1) := by decide +kernel
theorem dL_law_235 : decode cL_law 235 = .ok (.goto 4, 3) := by decide +kernel
theorem dL_law_238 : decode cL_law 238 = .ok (.iconst 0, 1) := by decide +kernel
theorem dL_law_239 : decode cL_law 239 = .ok (.istore 14, 2) := by decide +kernel
theorem dL_law_241 : decode cL_law 241 = .ok (.iconst 0, 1) := by decide +kernel
theorem dL_law_242 : decode cL_law 242 = .ok (.istore 15, 2) := by decide +kernel
theorem dL_law_244 : decode cL_law 244 = .ok (.iload 15, 2) := by decide +kernel
theorem dL_law_246 : decode cL_law 246 = .ok (.bipush 60, 2) := by decide +kernel
theorem dL_law_248 : decode cL_law 248 = .ok (.if_icmp .ge 485, 3) := by decide +kernel
theorem dL_law_251 : decode cL_law 251 = .ok (.iload 14, 2) := by decide +kernel
theorem dL_law_253 : decode cL_law 253 = .ok (.ifCond .eq 480, 3) := by decide +kernel
theorem dL_law_256 : decode cL_law 256 = .ok (.iload 15, 2) := by decide +kernel
theorem dL_law_258 : decode cL_law 258 = .ok (.iconst 2, 1) := by decide +kernel
theorem dL_law_259 : decode cL_law 259 = .ok (.if_icmp .ge 8, 3) := by decide +kernel
theorem dL_law_262 : decode cL_law 262 = .ok (.bipush 24, 2) := by decide +kernel
theorem dL_law_264 : decode cL_law 264 = .ok (.goto 60, 3) := by decide +kernel
theorem dL_law_267 : decode cL_law 267 = .ok (.iload 15, 2) := by decide +kernel
theorem dL_law_269 : decode cL_law 269 = .ok (.iconst 2, 1) := by decide +kernel
theorem dL_law_270 : decode cL_law 270 = .ok (.if_icmp .eq 16, 3) := by decide +kernel
theorem dL_law_273 : decode cL_law 273 = .ok (.iload 15, 2) := by decide +kernel
theorem dL_law_275 : decode cL_law 275 = .ok (.iconst 4, 1) := by decide +kernel
theorem dL_law_276 : decode cL_law 276 = .ok (.if_icmp .eq 10, 3) := by decide +kernel
theorem dL_law_279 : decode cL_law 279 = .ok (.iload 15, 2) := by decide +kernel
theorem dL_law_281 : decode cL_law 281 = .ok (.bipush 6, 2) := by decide +kernel
theorem dL_law_283 : decode cL_law 283 = .ok (.if_icmp .ne 7, 3) := by decide +kernel
theorem dL_law_286 : decode cL_law 286 = .ok (.iconst 0, 1) := by decide +kernel
theorem dL_law_287 : decode cL_law 287 = .ok (.goto 37, 3) := by decide +kernel
theorem dL_law_290 : decode cL_law 290 = .ok (.iload 15, 2) := by decide +kernel
theorem dL_law_292 : decode cL_law 292 = .ok (.iconst 3, 1) := by decide +kernel
theorem dL_law_293 : decode cL_law 293 = .ok (.if_icmp .eq 16, 3) := by decide +kernel
theorem dL_law_296 : decode cL_law 296 = .ok (.iload 15, 2) := by decide +kernel
theorem dL_law_298 : decode cL_law 298 = .ok (.iconst 5, 1) := by decide +kernel
theorem dL_law_299 : decode cL_law 299 = .ok (.if_icmp .eq 10, 3) := by decide +kernel
theorem dL_law_302 : decode cL_law 302 = .ok (.iload 15, 2) := by decide +kernel
theorem dL_law_304 : decode cL_law 304 = .ok (.bipush 7, 2) := by decide +kernel
theorem dL_law_306 : decode cL_law 306 = .ok (.if_icmp .ne 8, 3) := by decide +kernel
theorem dL_law_309 : decode cL_law 309 = .ok (.bipush 10, 2) := by decide +kernel
theorem dL_law_311 : decode cL_law 311 = .ok (.goto 13, 3) := by decide +kernel
theorem dL_law_314 : decode cL_law 314 = .ok (.aload_n 0, 1) := by decide +kernel
theorem dL_law_315 : decode cL_law 315 = .ok (.iconst 3, 1) := by decide +kernel
theorem dL_law_316 : decode cL_law 316 = .ok (.iload 15, 2) := by decide +kernel
theorem dL_law_318 : decode cL_law 318 = .ok (.imul, 1) := by decide +kernel
theorem dL_law_319 : decode cL_law 319 = .ok (.bipush 40, 2) := by decide +kernel
theorem dL_law_321 : decode cL_law 321 = .ok (.invokestatic 204, 3) := by decide +kernel
theorem dL_law_324 : decode cL_law 324 = .ok (.istore 16, 2) := by decide +kernel
theorem dL_law_326 : decode cL_law 326 = .ok (.aload_n 0, 1) := by decide +kernel
theorem dL_law_327 : decode cL_law 327 = .ok (.iconst 3, 1) := by decide +kernel
theorem dL_law_328 : decode cL_law 328 = .ok (.iload 15, 2) := by decide +kernel
theorem dL_law_330 : decode cL_law 330 = .ok (.imul, 1) := by decide +kernel
theorem dL_law_331 : decode cL_law 331 = .ok (.iconst 1, 1) := by decide +kernel
theorem dL_law_332 : decode cL_law 332 = .ok (.iadd, 1) := by decide +kernel
theorem dL_law_333 : decode cL_law 333 = .ok (.ldc 207, 2) := by decide +kernel
theorem dL_law_335 : decode cL_law 335 = .ok (.invokestatic 204, 3) := by decide +kernel
theorem dL_law_338 : decode cL_law 338 = .ok (.istore 17, 2) := by decide +kernel
theorem dL_law_340 : decode cL_law 340 = .ok (.aload_n 0, 1) := by decide +kernel
theorem dL_law_341 : decode cL_law 341 = .ok (.iconst 3, 1) := by decide +kernel
theorem dL_law_342 : decode cL_law 342 = .ok (.iload 15, 2) := by decide +kernel
theorem dL_law_344 : decode cL_law 344 = .ok (.imul, 1) := by decide +kernel
theorem dL_law_345 : decode cL_law 345 = .ok (.iconst 2, 1) := by decide +kernel
theorem dL_law_346 : decode cL_law 346 = .ok (.iadd, 1) := by decide +kernel
theorem dL_law_347 : decode cL_law 347 = .ok (.ldc 207, 2) := by decide +kernel
theorem dL_law_349 : decode cL_law 349 = .ok (.invokestatic 204, 3) := by decide +kernel
theorem dL_law_352 : decode cL_law 352 = .ok (.istore 18, 2) := by decide +kernel
theorem dL_law_354 : decode cL_law 354 = .ok (.iload 16, 2) := by decide +kernel
theorem dL_law_356 : decode cL_law 356 = .ok (.bipush 19, 2) := by decide +kernel
theorem dL_law_358 : decode cL_law 358 = .ok (.if_icmp .ge 45, 3) := by decide +kernel
theorem dL_law_361 : decode cL_law 361 = .ok (.aload_n 1, 1) := by decide +kernel
theorem dL_law_362 : decode cL_law 362 = .ok (.aload_n 2, 1) := by decide +kernel
theorem dL_law_363 : decode cL_law 363 = .ok (.aload_n 3, 1) := by decide +kernel
theorem dL_law_364 : decode cL_law 364 = .ok (.aload 4, 2) := by decide +kernel
theorem dL_law_366 : decode cL_law 366 = .ok (.aload 11, 2) := by decide +kernel
theorem dL_law_368 : decode cL_law 368 = .ok (.iload 16, 2) := by decide +kernel
theorem dL_law_370 : decode cL_law 370 = .ok (.bipush 10, 2) := by decide +kernel
theorem dL_law_372 : decode cL_law 372 = .ok (.if_icmp .ge 7, 3) := by decide +kernel
theorem dL_law_375 : decode cL_law 375 = .ok (.iconst 0, 1) := by decide +kernel
theorem dL_law_376 : decode cL_law 376 = .ok (.goto 15, 3) := by decide +kernel
theorem dL_law_379 : decode cL_law 379 = .ok (.iload 16, 2) := by decide +kernel
theorem dL_law_381 : decode cL_law 381 = .ok (.bipush 15, 2) := by decide +kernel
theorem dL_law_383 : decode cL_law 383 = .ok (.if_icmp .ge 7, 3) := by decide +kernel
theorem dL_law_386 : decode cL_law 386 = .ok (.iconst 1, 1) := by decide +kernel
theorem dL_law_387 : decode cL_law 387 = .ok (.goto 4, 3) := by decide +kernel
theorem dL_law_390 : decode cL_law 390 = .ok (.iconst 2, 1) := by decide +kernel
theorem dL_law_391 : decode cL_law 391 = .ok (.iload 17, 2) := by decide +kernel
theorem dL_law_393 : decode cL_law 393 = .ok (.iload 18, 2) := by decide +kernel
theorem dL_law_395 : decode cL_law 395 = .ok (.invokestatic 208, 3) := by decide +kernel
theorem dL_law_398 : decode cL_law 398 = .ok (.istore 14, 2) := by decide +kernel
theorem dL_law_400 : decode cL_law 400 = .ok (.goto 193, 3) := by decide +kernel
theorem dL_law_403 : decode cL_law 403 = .ok (.iload 16, 2) := by decide +kernel
theorem dL_law_405 : decode cL_law 405 = .ok (.bipush 24, 2) := by decide +kernel
theorem dL_law_407 : decode cL_law 407 = .ok (.if_icmp .ge 38, 3) := by decide +kernel
theorem dL_law_410 : decode cL_law 410 = .ok (.aload_n 1, 1) := by decide +kernel
theorem dL_law_411 : decode cL_law 411 = .ok (.aload 5, 2) := by decide +kernel
theorem dL_law_413 : decode cL_law 413 = .ok (.aload 6, 2) := by decide +kernel
theorem dL_law_415 : decode cL_law 415 = .ok (.aload 9, 2) := by decide +kernel
theorem dL_law_417 : decode cL_law 417 = .ok (.aload 10, 2) := by decide +kernel
theorem dL_law_419 : decode cL_law 419 = .ok (.aload 11, 2) := by decide +kernel
theorem dL_law_421 : decode cL_law 421 = .ok (.iload 16, 2) := by decide +kernel
theorem dL_law_423 : decode cL_law 423 = .ok (.bipush 21, 2) := by decide +kernel
theorem dL_law_425 : decode cL_law 425 = .ok (.if_icmp .ge 7, 3) := by decide +kernel
theorem dL_law_428 : decode cL_law 428 = .ok (.iconst 1, 1) := by decide +kernel
theorem dL_law_429 : decode cL_law 429 = .ok (.goto 4, 3) := by decide +kernel
theorem dL_law_432 : decode cL_law 432 = .ok (.iconst 2, 1) := by decide +kernel
theorem dL_law_433 : decode cL_law 433 = .ok (.iload 17, 2) := by decide +kernel
theorem dL_law_435 : decode cL_law 435 = .ok (.iload 18, 2) := by decide +kernel
theorem dL_law_437 : decode cL_law 437 = .ok (.invokestatic 212, 3) := by decide +kernel
theorem dL_law_440 : decode cL_law 440 = .ok (.istore 14, 2) := by decide +kernel
theorem dL_law_442 : decode cL_law 442 = .ok (.goto 151, 3) := by decide +kernel
theorem dL_law_445 : decode cL_law 445 = .ok (.iload 16, 2) := by decide +kernel
theorem dL_law_447 : decode cL_law 447 = .ok (.bipush 26, 2) := by decide +kernel
theorem dL_law_449 : decode cL_law 449 = .ok (.if_icmp .ge 27, 3) := by decide +kernel
theorem dL_law_452 : decode cL_law 452 = .ok (.aload_n 1, 1) := by decide +kernel
theorem dL_law_453 : decode cL_law 453 = .ok (.aload 5, 2) := by decide +kernel
theorem dL_law_455 : decode cL_law 455 = .ok (.aload 6, 2) := by decide +kernel
theorem dL_law_457 : decode cL_law 457 = .ok (.aload 9, 2) := by decide +kernel
theorem dL_law_459 : decode cL_law 459 = .ok (.aload 10, 2) := by decide +kernel
theorem dL_law_461 : decode cL_law 461 = .ok (.aload 11, 2) := by decide +kernel
theorem dL_law_463 : decode cL_law 463 = .ok (.iconst 0, 1) := by decide +kernel
theorem dL_law_464 : decode cL_law 464 = .ok (.iload 17, 2) := by decide +kernel
theorem dL_law_466 : decode cL_law 466 = .ok (.iload 18, 2) := by decide +kernel
theorem dL_law_468 : decode cL_law 468 = .ok (.invokestatic 212, 3) := by decide +kernel
theorem dL_law_471 : decode cL_law 471 = .ok (.istore 14, 2) := by decide +kernel
theorem dL_law_473 : decode cL_law 473 = .ok (.goto 120, 3) := by decide +kernel
theorem dL_law_476 : decode cL_law 476 = .ok (.iload 17, 2) := by decide +kernel
theorem dL_law_478 : decode cL_law 478 = .ok (.bipush 60, 2) := by decide +kernel
theorem dL_law_480 : decode cL_law 480 = .ok (.idiv, 1) := by decide +kernel
theorem dL_law_481 : decode cL_law 481 = .ok (.bipush 9, 2) := by decide +kernel
theorem dL_law_483 : decode cL_law 483 = .ok (.irem, 1) := by decide +kernel
theorem dL_law_484 : decode cL_law 484 = .ok (.bipush 8, 2) := by decide +kernel
theorem dL_law_486 : decode cL_law 486 = .ok (.if_icmp .ne 10, 3) := by decide +kernel
theorem dL_law_489 : decode cL_law 489 = .ok (.aload 11, 2) := by decide +kernel
theorem dL_law_491 : decode cL_law 491 = .ok (.iconst 1, 1) := by decide +kernel
theorem dL_law_492 : decode cL_law 492 = .ok (.iaload, 1) := by decide +kernel
theorem dL_law_493 : decode cL_law 493 = .ok (.goto 10, 3) := by decide +kernel
theorem dL_law_496 : decode cL_law 496 = .ok (.iload 17, 2) := by decide +kernel
theorem dL_law_498 : decode cL_law 498 = .ok (.bipush 60, 2) := by decide +kernel
theorem dL_law_500 : decode cL_law 500 = .ok (.idiv, 1) := by decide +kernel
theorem dL_law_501 : decode cL_law 501 = .ok (.iconst 2, 1) := by decide +kernel
theorem dL_law_502 : decode cL_law 502 = .ok (.irem, 1) := by decide +kernel
theorem dL_law_503 : decode cL_law 503 = .ok (.istore 19, 2) := by decide +kernel
theorem dL_law_505 : decode cL_law 505 = .ok (.iload 19, 2) := by decide +kernel
theorem dL_law_507 : decode cL_law 507 = .ok (.iconst 1, 1) := by decide +kernel
theorem dL_law_508 : decode cL_law 508 = .ok (.if_icmp .ne 44, 3) := by decide +kernel
theorem dL_law_511 : decode cL_law 511 = .ok (.aload_n 1, 1) := by decide +kernel
theorem dL_law_512 : decode cL_law 512 = .ok (.aload 6, 2) := by decide +kernel
theorem dL_law_514 : decode cL_law 514 = .ok (.aload 8, 2) := by decide +kernel
theorem dL_law_516 : decode cL_law 516 = .ok (.aload 11, 2) := by decide +kernel
theorem dL_law_518 : decode cL_law 518 = .ok (.iconst 1, 1) := by decide +kernel
theorem dL_law_519 : decode cL_law 519 = .ok (.iload 16, 2) := by decide +kernel
theorem dL_law_521 : decode cL_law 521 = .ok (.bipush 34, 2) := by decide +kernel
theorem dL_law_523 : decode cL_law 523 = .ok (.if_icmp .ge 7, 3) := by decide +kernel
theorem dL_law_526 : decode cL_law 526 = .ok (.iconst 0, 1) := by decide +kernel
theorem dL_law_527 : decode cL_law 527 = .ok (.goto 15, 3) := by decide +kernel
theorem dL_law_530 : decode cL_law 530 = .ok (.iload 16, 2) := by decide +kernel
theorem dL_law_532 : decode cL_law 532 = .ok (.bipush 38, 2) := by decide +kernel
theorem dL_law_534 : decode cL_law 534 = .ok (.if_icmp .ge 7, 3) := by decide +kernel
theorem dL_law_537 : decode cL_law 537 = .ok (.iconst 1, 1) := by decide +kernel
theorem dL_law_538 : decode cL_law 538 = .ok (.goto 4, 3) := by decide +kernel
theorem dL_law_541 : decode cL_law 541 = .ok (.iconst 2, 1) := by decide +kernel
theorem dL_law_542 : decode cL_law 542 = .ok (.iload 17, 2) := by decide +kernel
theorem dL_law_544 : decode cL_law 544 = .ok (.iload 18, 2) := by decide +kernel
theorem dL_law_546 : decode cL_law 546 = .ok (.invokestatic 216, 3) := by decide +kernel
theorem dL_law_549 : decode cL_law 549 = .ok (.goto 42, 3) := by decide +kernel
theorem dL_law_552 : decode cL_law 552 = .ok (.aload_n 1, 1) := by decide +kernel
theorem dL_law_553 : decode cL_law 553 = .ok (.aload 5, 2) := by decide +kernel
theorem dL_law_555 : decode cL_law 555 = .ok (.aload 7, 2) := by decide +kernel
theorem dL_law_557 : decode cL_law 557 = .ok (.aload 11, 2) := by decide +kernel
theorem dL_law_559 : decode cL_law 559 = .ok (.iload 19, 2) := by decide +kernel
theorem dL_law_561 : decode cL_law 561 = .ok (.iload 16, 2) := by decide +kernel
theorem dL_law_563 : decode cL_law 563 = .ok (.bipush 34, 2) := by decide +kernel
theorem dL_law_565 : decode cL_law 565 = .ok (.if_icmp .ge 7, 3) := by decide +kernel
theorem dL_law_568 : decode cL_law 568 = .ok (.iconst 0, 1) := by decide +kernel
theorem dL_law_569 : decode cL_law 569 = .ok (.goto 15, 3) := by decide +kernel
theorem dL_law_572 : decode cL_law 572 = .ok (.iload 16, 2) := by decide +kernel
theorem dL_law_574 : decode cL_law 574 = .ok (.bipush 38, 2) := by decide +kernel
theorem dL_law_576 : decode cL_law 576 = .ok (.if_icmp .ge 7, 3) := by decide +kernel
theorem dL_law_579 : decode cL_law 579 = .ok (.iconst 1, 1) := by decide +kernel
theorem dL_law_580 : decode cL_law 580 = .ok (.goto 4, 3) := by decide +kernel
theorem dL_law_583 : decode cL_law 583 = .ok (.iconst 2, 1) := by decide +kernel
theorem dL_law_584 : decode cL_law 584 = .ok (.iload 17, 2) := by decide +kernel
theorem dL_law_586 : decode cL_law 586 = .ok (.iload 18, 2) := by decide +kernel
theorem dL_law_588 : decode cL_law 588 = .ok (.invokestatic 216, 3) := by decide +kernel
theorem dL_law_591 : decode cL_law 591 = .ok (.istore 14, 2) := by decide +kernel
theorem dL_law_593 : decode cL_law 593 = .ok (.iload 14, 2) := by decide +kernel
theorem dL_law_595 : decode cL_law 595 = .ok (.ifCond .eq 129, 3) := by decide +kernel
theorem dL_law_598 : decode cL_law 598 = .ok (.iload 15, 2) := by decide +kernel
theorem dL_law_600 : decode cL_law 600 = .ok (.iconst 2, 1) := by decide +kernel
theorem dL_law_601 : decode cL_law 601 = .ok (.irem, 1) := by decide +kernel
theorem dL_law_602 : decode cL_law 602 = .ok (.ifCond .ne 35, 3) := by decide +kernel
theorem dL_law_605 : decode cL_law 605 = .ok (.aload_n 1, 1) := by decide +kernel
theorem dL_law_606 : decode cL_law 606 = .ok (.aload_n 2, 1) := by decide +kernel
theorem dL_law_607 : decode cL_law 607 = .ok (.aload_n 3, 1) := by decide +kernel
theorem dL_law_608 : decode cL_law 608 = .ok (.aload 4, 2) := by decide +kernel
theorem dL_law_610 : decode cL_law 610 = .ok (.aload 5, 2) := by decide +kernel
theorem dL_law_612 : decode cL_law 612 = .ok (.aload 6, 2) := by decide +kernel
theorem dL_law_614 : decode cL_law 614 = .ok (.aload 9, 2) := by decide +kernel
theorem dL_law_616 : decode cL_law 616 = .ok (.aload 10, 2) := by decide +kernel
theorem dL_law_618 : decode cL_law 618 = .ok (.aload 11, 2) := by decide +kernel
theorem dL_law_620 : decode cL_law 620 = .ok (.iload 17, 2) := by decide +kernel
theorem dL_law_622 : decode cL_law 622 = .ok (.iload 18, 2) := by decide +kernel
theorem dL_law_624 : decode cL_law 624 = .ok (.aload 12, 2) := by decide +kernel
theorem dL_law_626 : decode cL_law 626 = .ok (.aload 13, 2) := by decide +kernel
theorem dL_law_628 : decode cL_law 628 = .ok (.invokestatic 220, 3) := by decide +kernel
theorem dL_law_631 : decode cL_law 631 = .ok (.ifCond .eq 93, 3) := by decide +kernel
theorem dL_law_634 : decode cL_law 634 = .ok (.goto 86, 3) := by decide +kernel
theorem dL_law_637 : decode cL_law 637 = .ok (.iload 15, 2) := by decide +kernel
theorem dL_law_639 : decode cL_law 639 = .ok (.iconst 4, 1) := by decide +kernel
theorem dL_law_640 : decode cL_law 640 = .ok (.irem, 1) := by decide +kernel
theorem dL_law_641 : decode cL_law 641 = .ok (.iconst 1, 1) := by decide +kernel
theorem dL_law_642 : decode cL_law 642 = .ok (.if_icmp .ne 42, 3) := by decide +kernel
theorem dL_law_645 : decode cL_law 645 = .ok (.aload 11, 2) := by decide +kernel
theorem dL_law_647 : decode cL_law 647 = .ok (.iconst 1, 1) := by decide +kernel
theorem dL_law_648 : decode cL_law 648 = .ok (.iaload, 1) := by decide +kernel
theorem dL_law_649 : decode cL_law 649 = .ok (.iconst 1, 1) := by decide +kernel
theorem dL_law_650 : decode cL_law 650 = .ok (.if_icmp .lt 70, 3) := by decide +kernel
theorem dL_law_653 : decode cL_law 653 = .ok (.aload_n 1, 1) := by decide +kernel
theorem dL_law_654 : decode cL_law 654 = .ok (.aload_n 2, 1) := by decide +kernel
theorem dL_law_655 : decode cL_law 655 = .ok (.aload_n 3, 1) := by decide +kernel
theorem dL_law_656 : decode cL_law 656 = .ok (.aload 4, 2) := by decide +kernel
theorem dL_law_658 : decode cL_law 658 = .ok (.aload 5, 2) := by decide +kernel
theorem dL_law_660 : decode cL_law 660 = .ok (.aload 7, 2) := by decide +kernel
theorem dL_law_662 : decode cL_law 662 = .ok (.aload 9, 2) := by decide +kernel
theorem dL_law_664 : decode cL_law 664 = .ok (.aload 11, 2) := by decide +kernel
theorem dL_law_666 : decode cL_law 666 = .ok (.iconst 0, 1) := by decide +kernel
theorem dL_law_667 : decode cL_law 667 = .ok (.iload 17, 2) := by decide +kernel
theorem dL_law_669 : decode cL_law 669 = .ok (.iload 18, 2) := by decide +kernel
theorem dL_law_671 : decode cL_law 671 = .ok (.aload 12, 2) := by decide +kernel
theorem dL_law_673 : decode cL_law 673 = .ok (.aload 13, 2) := by decide +kernel
theorem dL_law_675 : decode cL_law 675 = .ok (.invokestatic 224, 3) := by decide +kernel
theorem dL_law_678 : decode cL_law 678 = .ok (.ifCond .eq 46, 3) := by decide +kernel
theorem dL_law_681 : decode cL_law 681 = .ok (.goto 39, 3) := by decide +kernel
theorem dL_law_684 : decode cL_law 684 = .ok (.aload 11, 2) := by decide +kernel
theorem dL_law_686 : decode cL_law 686 = .ok (.iconst 1, 1) := by decide +kernel
theorem dL_law_687 : decode cL_law 687 = .ok (.iaload, 1) := by decide +kernel
theorem dL_law_688 : decode cL_law 688 = .ok (.iconst 2, 1) := by decide +kernel
theorem dL_law_689 : decode cL_law 689 = .ok (.if_icmp .lt 31, 3) := by decide +kernel
theorem dL_law_692 : decode cL_law 692 = .ok (.aload_n 1, 1) := by decide +kernel
theorem dL_law_693 : decode cL_law 693 = .ok (.aload_n 2, 1) := by decide +kernel
theorem dL_law_694 : decode cL_law 694 = .ok (.aload_n 3, 1) := by decide +kernel
theorem dL_law_695 : decode cL_law 695 = .ok (.aload 4, 2) := by decide +kernel
theorem dL_law_697 : decode cL_law 697 = .ok (.aload 6, 2) := by decide +kernel
theorem dL_law_699 : decode cL_law 699 = .ok (.aload 8, 2) := by decide +kernel
theorem dL_law_701 : decode cL_law 701 = .ok (.aload 9, 2) := by decide +kernel
theorem dL_law_703 : decode cL_law 703 = .ok (.aload 11, 2) := by decide +kernel
theorem dL_law_705 : decode cL_law 705 = .ok (.iconst 1, 1) := by decide +kernel
theorem dL_law_706 : decode cL_law 706 = .ok (.iload 18, 2) := by decide +kernel
theorem dL_law_708 : decode cL_law 708 = .ok (.iload 17, 2) := by decide +kernel
theorem dL_law_710 : decode cL_law 710 = .ok (.aload 12, 2) := by decide +kernel
theorem dL_law_712 : decode cL_law 712 = .ok (.aload 13, 2) := by decide +kernel
theorem dL_law_714 : decode cL_law 714 = .ok (.invokestatic 224, 3) := by decide +kernel
theorem dL_law_717 : decode cL_law 717 = .ok (.ifCond .eq 7, 3) := by decide +kernel
theorem dL_law_720 : decode cL_law 720 = .ok (.iconst 1, 1) := by decide +kernel
theorem dL_law_721 : decode cL_law 721 = .ok (.goto 4, 3) := by decide +kernel
theorem dL_law_724 : decode cL_law 724 = .ok (.iconst 0, 1) := by decide +kernel
theorem dL_law_725 : decode cL_law 725 = .ok (.istore 14, 2) := by decide +kernel
theorem dL_law_727 : decode cL_law 727 = .ok (.iinc 15 1, 3) := by decide +kernel
theorem dL_law_730 : decode cL_law 730 = .ok (.goto (-486), 3) := by decide +kernel
theorem dL_law_733 : decode cL_law 733 = .ok (.iload 14, 2) := by decide +kernel
theorem dL_law_735 : decode cL_law 735 = .ok (.ireturn, 1) := by decide +kernel
