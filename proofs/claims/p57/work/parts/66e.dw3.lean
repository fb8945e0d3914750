/-! The law: decode rows (drawn, undone) -/
theorem dL_drawn_0 : decode cL_drawn 0 = .ok (.new 9, 3) := by decide +kernel
theorem dL_drawn_3 : decode cL_drawn 3 = .ok (.dup, 1) := by decide +kernel
theorem dL_drawn_4 : decode cL_drawn 4 = .ok (.invokespecial 162, 3) := by decide +kernel
theorem dL_drawn_7 : decode cL_drawn 7 = .ok (.astore_n 1, 1) := by decide +kernel
theorem dL_drawn_8 : decode cL_drawn 8 = .ok (.aload_n 0, 1) := by decide +kernel
theorem dL_drawn_9 : decode cL_drawn 9 = .ok (.iconst 0, 1) := by decide +kernel
theorem dL_drawn_10 : decode cL_drawn 10 = .ok (.invokestatic 163, 3) := by decide +kernel
theorem dL_drawn_13 : decode cL_drawn 13 = .ok (.iconst 1, 1) := by decide +kernel
theorem dL_drawn_14 : decode cL_drawn 14 = .ok (.iushr, 1) := by decide +kernel
theorem dL_drawn_15 : decode cL_drawn 15 = .ok (.istore_n 2, 1) := by decide +kernel
theorem dL_drawn_16 : decode cL_drawn 16 = .ok (.iconst 2, 1) := by decide +kernel
theorem dL_drawn_17 : decode cL_drawn 17 = .ok (.iload_n 2, 1) := by decide +kernel
theorem dL_drawn_18 : decode cL_drawn 18 = .ok (.iconst 5, 1) := by decide +kernel
theorem dL_drawn_19 : decode cL_drawn 19 = .ok (.irem, 1) := by decide +kernel
theorem dL_drawn_20 : decode cL_drawn 20 = .ok (.iadd, 1) := by decide +kernel
theorem dL_drawn_21 : decode cL_drawn 21 = .ok (.istore_n 3, 1) := by decide +kernel
theorem dL_drawn_22 : decode cL_drawn 22 = .ok (.iconst 0, 1) := by decide +kernel
theorem dL_drawn_23 : decode cL_drawn 23 = .ok (.istore 4, 2) := by decide +kernel
theorem dL_drawn_25 : decode cL_drawn 25 = .ok (.iload 4, 2) := by decide +kernel
theorem dL_drawn_27 : decode cL_drawn 27 = .ok (.iload_n 3, 1) := by decide +kernel
theorem dL_drawn_28 : decode cL_drawn 28 = .ok (.if_icmp .ge 70, 3) := by decide +kernel
theorem dL_drawn_31 : decode cL_drawn 31 = .ok (.aload_n 0, 1) := by decide +kernel
theorem dL_drawn_32 : decode cL_drawn 32 = .ok (.iconst 1, 1) := by decide +kernel
theorem dL_drawn_33 : decode cL_drawn 33 = .ok (.iload 4, 2) := by decide +kernel
theorem dL_drawn_35 : decode cL_drawn 35 = .ok (.iadd, 1) := by decide +kernel
theorem dL_drawn_36 : decode cL_drawn 36 = .ok (.invokestatic 163, 3) := by decide +kernel
theorem dL_drawn_39 : decode cL_drawn 39 = .ok (.iconst 1, 1) := by decide +kernel
theorem dL_drawn_40 : decode cL_drawn 40 = .ok (.iushr, 1) := by decide +kernel
theorem dL_drawn_41 : decode cL_drawn 41 = .ok (.istore 5, 2) := by decide +kernel
theorem dL_drawn_43 : decode cL_drawn 43 = .ok (.aload_n 1, 1) := by decide +kernel
theorem dL_drawn_44 : decode cL_drawn 44 = .ok (.iload 5, 2) := by decide +kernel
theorem dL_drawn_46 : decode cL_drawn 46 = .ok (.iload_n 2, 1) := by decide +kernel
theorem dL_drawn_47 : decode cL_drawn 47 = .ok (.iconst 2, 1) := by decide +kernel
theorem dL_drawn_48 : decode cL_drawn 48 = .ok (.irem, 1) := by decide +kernel
theorem dL_drawn_49 : decode cL_drawn 49 = .ok (.ifCond .ne 9, 3) := by decide +kernel
theorem dL_drawn_52 : decode cL_drawn 52 = .ok (.sipush 9999, 3) := by decide +kernel
theorem dL_drawn_55 : decode cL_drawn 55 = .ok (.goto 6, 3) := by decide +kernel
theorem dL_drawn_58 : decode cL_drawn 58 = .ok (.sipush 600, 3) := by decide +kernel
theorem dL_drawn_61 : decode cL_drawn 61 = .ok (.irem, 1) := by decide +kernel
theorem dL_drawn_62 : decode cL_drawn 62 = .ok (.iload 5, 2) := by decide +kernel
theorem dL_drawn_64 : decode cL_drawn 64 = .ok (.bipush 14, 2) := by decide +kernel
theorem dL_drawn_66 : decode cL_drawn 66 = .ok (.iushr, 1) := by decide +kernel
theorem dL_drawn_67 : decode cL_drawn 67 = .ok (.iload_n 2, 1) := by decide +kernel
theorem dL_drawn_68 : decode cL_drawn 68 = .ok (.iconst 3, 1) := by decide +kernel
theorem dL_drawn_69 : decode cL_drawn 69 = .ok (.irem, 1) := by decide +kernel
theorem dL_drawn_70 : decode cL_drawn 70 = .ok (.ifCond .ne 9, 3) := by decide +kernel
theorem dL_drawn_73 : decode cL_drawn 73 = .ok (.sipush 999, 3) := by decide +kernel
theorem dL_drawn_76 : decode cL_drawn 76 = .ok (.goto 5, 3) := by decide +kernel
theorem dL_drawn_79 : decode cL_drawn 79 = .ok (.bipush 80, 2) := by decide +kernel
theorem dL_drawn_81 : decode cL_drawn 81 = .ok (.irem, 1) := by decide +kernel
theorem dL_drawn_82 : decode cL_drawn 82 = .ok (.invokestatic 167, 3) := by decide +kernel
theorem dL_drawn_85 : decode cL_drawn 85 = .ok (.iload 4, 2) := by decide +kernel
theorem dL_drawn_87 : decode cL_drawn 87 = .ok (.if_icmp .eq 5, 3) := by decide +kernel
theorem dL_drawn_90 : decode cL_drawn 90 = .ok (.aconst_null, 1) := by decide +kernel
theorem dL_drawn_91 : decode cL_drawn 91 = .ok (.areturn, 1) := by decide +kernel
theorem dL_drawn_92 : decode cL_drawn 92 = .ok (.iinc 4 1, 3) := by decide +kernel
theorem dL_drawn_95 : decode cL_drawn 95 = .ok (.goto (-70), 3) := by decide +kernel
theorem dL_drawn_98 : decode cL_drawn 98 = .ok (.iconst 0, 1) := by decide +kernel
theorem dL_drawn_99 : decode cL_drawn 99 = .ok (.istore 4, 2) := by decide +kernel
theorem dL_drawn_101 : decode cL_drawn 101 = .ok (.iload 4, 2) := by decide +kernel
theorem dL_drawn_103 : decode cL_drawn 103 = .ok (.bipush 16, 2) := by decide +kernel
theorem dL_drawn_105 : decode cL_drawn 105 = .ok (.if_icmp .ge 299, 3) := by decide +kernel
theorem dL_drawn_108 : decode cL_drawn 108 = .ok (.aload_n 0, 1) := by decide +kernel
theorem dL_drawn_109 : decode cL_drawn 109 = .ok (.bipush 7, 2) := by decide +kernel
theorem dL_drawn_111 : decode cL_drawn 111 = .ok (.iload 4, 2) := by decide +kernel
theorem dL_drawn_113 : decode cL_drawn 113 = .ok (.iadd, 1) := by decide +kernel
theorem dL_drawn_114 : decode cL_drawn 114 = .ok (.invokestatic 163, 3) := by decide +kernel
theorem dL_drawn_117 : decode cL_drawn 117 = .ok (.iconst 1, 1) := by decide +kernel
theorem dL_drawn_118 : decode cL_drawn 118 = .ok (.iushr, 1) := by decide +kernel
theorem dL_drawn_119 : decode cL_drawn 119 = .ok (.istore 5, 2) := by decide +kernel
theorem dL_drawn_121 : decode cL_drawn 121 = .ok (.iload 5, 2) := by decide +kernel
theorem dL_drawn_123 : decode cL_drawn 123 = .ok (.iconst 4, 1) := by decide +kernel
theorem dL_drawn_124 : decode cL_drawn 124 = .ok (.iushr, 1) := by decide +kernel
theorem dL_drawn_125 : decode cL_drawn 125 = .ok (.iload_n 3, 1) := by decide +kernel
theorem dL_drawn_126 : decode cL_drawn 126 = .ok (.irem, 1) := by decide +kernel
theorem dL_drawn_127 : decode cL_drawn 127 = .ok (.istore 6, 2) := by decide +kernel
theorem dL_drawn_129 : decode cL_drawn 129 = .ok (.bipush 20, 2) := by decide +kernel
theorem dL_drawn_131 : decode cL_drawn 131 = .ok (.iload 5, 2) := by decide +kernel
theorem dL_drawn_133 : decode cL_drawn 133 = .ok (.bipush 8, 2) := by decide +kernel
theorem dL_drawn_135 : decode cL_drawn 135 = .ok (.iushr, 1) := by decide +kernel
theorem dL_drawn_136 : decode cL_drawn 136 = .ok (.iload_n 2, 1) := by decide +kernel
theorem dL_drawn_137 : decode cL_drawn 137 = .ok (.iconst 5, 1) := by decide +kernel
theorem dL_drawn_138 : decode cL_drawn 138 = .ok (.irem, 1) := by decide +kernel
theorem dL_drawn_139 : decode cL_drawn 139 = .ok (.ifCond .ne 8, 3) := by decide +kernel
theorem dL_drawn_142 : decode cL_drawn 142 = .ok (.bipush 70, 2) := by decide +kernel
theorem dL_drawn_144 : decode cL_drawn 144 = .ok (.goto 5, 3) := by decide +kernel
theorem dL_drawn_147 : decode cL_drawn 147 = .ok (.bipush 9, 2) := by decide +kernel
theorem dL_drawn_149 : decode cL_drawn 149 = .ok (.irem, 1) := by decide +kernel
theorem dL_drawn_150 : decode cL_drawn 150 = .ok (.iadd, 1) := by decide +kernel
theorem dL_drawn_151 : decode cL_drawn 151 = .ok (.istore 7, 2) := by decide +kernel
theorem dL_drawn_153 : decode cL_drawn 153 = .ok (.iconst 1, 1) := by decide +kernel
theorem dL_drawn_154 : decode cL_drawn 154 = .ok (.iload 5, 2) := by decide +kernel
theorem dL_drawn_156 : decode cL_drawn 156 = .ok (.bipush 15, 2) := by decide +kernel
theorem dL_drawn_158 : decode cL_drawn 158 = .ok (.iushr, 1) := by decide +kernel
theorem dL_drawn_159 : decode cL_drawn 159 = .ok (.iload_n 2, 1) := by decide +kernel
theorem dL_drawn_160 : decode cL_drawn 160 = .ok (.bipush 7, 2) := by decide +kernel
theorem dL_drawn_162 : decode cL_drawn 162 = .ok (.irem, 1) := by decide +kernel
theorem dL_drawn_163 : decode cL_drawn 163 = .ok (.ifCond .ne 8, 3) := by decide +kernel
theorem dL_drawn_166 : decode cL_drawn 166 = .ok (.bipush 50, 2) := by decide +kernel
theorem dL_drawn_168 : decode cL_drawn 168 = .ok (.goto 5, 3) := by decide +kernel
theorem dL_drawn_171 : decode cL_drawn 171 = .ok (.bipush 8, 2) := by decide +kernel
theorem dL_drawn_173 : decode cL_drawn 173 = .ok (.irem, 1) := by decide +kernel
theorem dL_drawn_174 : decode cL_drawn 174 = .ok (.iadd, 1) := by decide +kernel
theorem dL_drawn_175 : decode cL_drawn 175 = .ok (.istore 8, 2) := by decide +kernel
theorem dL_drawn_177 : decode cL_drawn 177 = .ok (.iload 5, 2) := by decide +kernel
theorem dL_drawn_179 : decode cL_drawn 179 = .ok (.bipush 16, 2) := by decide +kernel
theorem dL_drawn_181 : decode cL_drawn 181 = .ok (.irem, 1) := by decide +kernel
theorem dL_drawn_182 : decode cL_drawn 182 = .ok (.istore 9, 2) := by decide +kernel
theorem dL_drawn_184 : decode cL_drawn 184 = .ok (.iload 9, 2) := by decide +kernel
theorem dL_drawn_186 : decode cL_drawn 186 = .ok (.iconst 5, 1) := by decide +kernel
theorem dL_drawn_187 : decode cL_drawn 187 = .ok (.if_icmp .ge 16, 3) := by decide +kernel
theorem dL_drawn_190 : decode cL_drawn 190 = .ok (.aload_n 1, 1) := by decide +kernel
theorem dL_drawn_191 : decode cL_drawn 191 = .ok (.iload 6, 2) := by decide +kernel
theorem dL_drawn_193 : decode cL_drawn 193 = .ok (.iload 7, 2) := by decide +kernel
theorem dL_drawn_195 : decode cL_drawn 195 = .ok (.iload 8, 2) := by decide +kernel
theorem dL_drawn_197 : decode cL_drawn 197 = .ok (.invokestatic 170, 3) := by decide +kernel
theorem dL_drawn_200 : decode cL_drawn 200 = .ok (.goto 181, 3) := by decide +kernel
theorem dL_drawn_203 : decode cL_drawn 203 = .ok (.iload 9, 2) := by decide +kernel
theorem dL_drawn_205 : decode cL_drawn 205 = .ok (.bipush 10, 2) := by decide +kernel
theorem dL_drawn_207 : decode cL_drawn 207 = .ok (.if_icmp .ge 16, 3) := by decide +kernel
theorem dL_drawn_210 : decode cL_drawn 210 = .ok (.aload_n 1, 1) := by decide +kernel
theorem dL_drawn_211 : decode cL_drawn 211 = .ok (.iload 6, 2) := by decide +kernel
theorem dL_drawn_213 : decode cL_drawn 213 = .ok (.iload 7, 2) := by decide +kernel
theorem dL_drawn_215 : decode cL_drawn 215 = .ok (.iload 8, 2) := by decide +kernel
theorem dL_drawn_217 : decode cL_drawn 217 = .ok (.invokestatic 174, 3) := by decide +kernel
theorem dL_drawn_220 : decode cL_drawn 220 = .ok (.goto 161, 3) := by decide +kernel
theorem dL_drawn_223 : decode cL_drawn 223 = .ok (.iload 9, 2) := by decide +kernel
theorem dL_drawn_225 : decode cL_drawn 225 = .ok (.bipush 10, 2) := by decide +kernel
theorem dL_drawn_227 : decode cL_drawn 227 = .ok (.if_icmp .ne 26, 3) := by decide +kernel
theorem dL_drawn_230 : decode cL_drawn 230 = .ok (.aload_n 1, 1) := by decide +kernel
theorem dL_drawn_231 : decode cL_drawn 231 = .ok (.iload 6, 2) := by decide +kernel
theorem dL_drawn_233 : decode cL_drawn 233 = .ok (.iload 7, 2) := by decide +kernel
theorem dL_drawn_235 : decode cL_drawn 235 = .ok (.iload 8, 2) := by decide +kernel
theorem dL_drawn_237 : decode cL_drawn 237 = .ok (.iconst 1, 1) := by decide +kernel
theorem dL_drawn_238 : decode cL_drawn 238 = .ok (.iload 5, 2) := by decide +kernel
theorem dL_drawn_240 : decode cL_drawn 240 = .ok (.bipush 20, 2) := by decide +kernel
theorem dL_drawn_242 : decode cL_drawn 242 = .ok (.iushr, 1) := by decide +kernel
theorem dL_drawn_243 : decode cL_drawn 243 = .ok (.bipush 9, 2) := by decide +kernel
theorem dL_drawn_245 : decode cL_drawn 245 = .ok (.irem, 1) := by decide +kernel
theorem dL_drawn_246 : decode cL_drawn 246 = .ok (.iadd, 1) := by decide +kernel
theorem dL_drawn_247 : decode cL_drawn 247 = .ok (.invokestatic 177, 3) := by decide +kernel
theorem dL_drawn_250 : decode cL_drawn 250 = .ok (.goto 131, 3) := by decide +kernel
theorem dL_drawn_253 : decode cL_drawn 253 = .ok (.iload 9, 2) := by decide +kernel
theorem dL_drawn_255 : decode cL_drawn 255 = .ok (.bipush 11, 2) := by decide +kernel
theorem dL_drawn_257 : decode cL_drawn 257 = .ok (.if_icmp .ne 26, 3) := by decide +kernel
theorem dL_drawn_260 : decode cL_drawn 260 = .ok (.aload_n 1, 1) := by decide +kernel
theorem dL_drawn_261 : decode cL_drawn 261 = .ok (.iload 6, 2) := by decide +kernel
theorem dL_drawn_263 : decode cL_drawn 263 = .ok (.iload 7, 2) := by decide +kernel
theorem dL_drawn_265 : decode cL_drawn 265 = .ok (.iload 8, 2) := by decide +kernel
theorem dL_drawn_267 : decode cL_drawn 267 = .ok (.iconst 1, 1) := by decide +kernel
theorem dL_drawn_268 : decode cL_drawn 268 = .ok (.iload 5, 2) := by decide +kernel
theorem dL_drawn_270 : decode cL_drawn 270 = .ok (.bipush 20, 2) := by decide +kernel
theorem dL_drawn_272 : decode cL_drawn 272 = .ok (.iushr, 1) := by decide +kernel
theorem dL_drawn_273 : decode cL_drawn 273 = .ok (.bipush 9, 2) := by decide +kernel
theorem dL_drawn_275 : decode cL_drawn 275 = .ok (.irem, 1) := by decide +kernel
theorem dL_drawn_276 : decode cL_drawn 276 = .ok (.iadd, 1) := by decide +kernel
theorem dL_drawn_277 : decode cL_drawn 277 = .ok (.invokestatic 181, 3) := by decide +kernel
theorem dL_drawn_280 : decode cL_drawn 280 = .ok (.goto 101, 3) := by decide +kernel
theorem dL_drawn_283 : decode cL_drawn 283 = .ok (.iload 9, 2) := by decide +kernel
theorem dL_drawn_285 : decode cL_drawn 285 = .ok (.bipush 12, 2) := by decide +kernel
theorem dL_drawn_287 : decode cL_drawn 287 = .ok (.if_icmp .ne 16, 3) := by decide +kernel
theorem dL_drawn_290 : decode cL_drawn 290 = .ok (.aload_n 1, 1) := by decide +kernel
theorem dL_drawn_291 : decode cL_drawn 291 = .ok (.iload 6, 2) := by decide +kernel
theorem dL_drawn_293 : decode cL_drawn 293 = .ok (.iload 7, 2) := by decide +kernel
theorem dL_drawn_295 : decode cL_drawn 295 = .ok (.iload 8, 2) := by decide +kernel
theorem dL_drawn_297 : decode cL_drawn 297 = .ok (.invokestatic 184, 3) := by decide +kernel
theorem dL_drawn_300 : decode cL_drawn 300 = .ok (.goto 81, 3) := by decide +kernel
theorem dL_drawn_303 : decode cL_drawn 303 = .ok (.iload 9, 2) := by decide +kernel
theorem dL_drawn_305 : decode cL_drawn 305 = .ok (.bipush 13, 2) := by decide +kernel
theorem dL_drawn_307 : decode cL_drawn 307 = .ok (.if_icmp .ne 19, 3) := by decide +kernel
theorem dL_drawn_310 : decode cL_drawn 310 = .ok (.aload_n 1, 1) := by decide +kernel
theorem dL_drawn_311 : decode cL_drawn 311 = .ok (.iconst 1, 1) := by decide +kernel
theorem dL_drawn_312 : decode cL_drawn 312 = .ok (.iload 5, 2) := by decide +kernel
theorem dL_drawn_314 : decode cL_drawn 314 = .ok (.bipush 20, 2) := by decide +kernel
theorem dL_drawn_316 : decode cL_drawn 316 = .ok (.iushr, 1) := by decide +kernel
theorem dL_drawn_317 : decode cL_drawn 317 = .ok (.iconst 3, 1) := by decide +kernel
theorem dL_drawn_318 : decode cL_drawn 318 = .ok (.irem, 1) := by decide +kernel
theorem dL_drawn_319 : decode cL_drawn 319 = .ok (.iadd, 1) := by decide +kernel
theorem dL_drawn_320 : decode cL_drawn 320 = .ok (.invokestatic 186, 3) := by decide +kernel
theorem dL_drawn_323 : decode cL_drawn 323 = .ok (.goto 58, 3) := by decide +kernel
theorem dL_drawn_326 : decode cL_drawn 326 = .ok (.iload 9, 2) := by decide +kernel
theorem dL_drawn_328 : decode cL_drawn 328 = .ok (.bipush 14, 2) := by decide +kernel
theorem dL_drawn_330 : decode cL_drawn 330 = .ok (.if_icmp .ne 16, 3) := by decide +kernel
theorem dL_drawn_333 : decode cL_drawn 333 = .ok (.aload_n 1, 1) := by decide +kernel
theorem dL_drawn_334 : decode cL_drawn 334 = .ok (.iload 6, 2) := by decide +kernel
theorem dL_drawn_336 : decode cL_drawn 336 = .ok (.iload 7, 2) := by decide +kernel
theorem dL_drawn_338 : decode cL_drawn 338 = .ok (.iload 8, 2) := by decide +kernel
theorem dL_drawn_340 : decode cL_drawn 340 = .ok (.invokestatic 189, 3) := by decide +kernel
theorem dL_drawn_343 : decode cL_drawn 343 = .ok (.goto 38, 3) := by decide +kernel
theorem dL_drawn_346 : decode cL_drawn 346 = .ok (.iload 4, 2) := by decide +kernel
theorem dL_drawn_348 : decode cL_drawn 348 = .ok (.iconst 2, 1) := by decide +kernel
theorem dL_drawn_349 : decode cL_drawn 349 = .ok (.if_icmp .le 17, 3) := by decide +kernel
theorem dL_drawn_352 : decode cL_drawn 352 = .ok (.aload_n 1, 1) := by decide +kernel
theorem dL_drawn_353 : decode cL_drawn 353 = .ok (.invokevirtual 191, 3) := by decide +kernel
theorem dL_drawn_356 : decode cL_drawn 356 = .ok (.ifCond .eq 10, 3) := by decide +kernel
theorem dL_drawn_359 : decode cL_drawn 359 = .ok (.aload_n 1, 1) := by decide +kernel
theorem dL_drawn_360 : decode cL_drawn 360 = .ok (.invokestatic 195, 3) := by decide +kernel
theorem dL_drawn_363 : decode cL_drawn 363 = .ok (.goto 18, 3) := by decide +kernel
theorem dL_drawn_366 : decode cL_drawn 366 = .ok (.aload_n 1, 1) := by decide +kernel
theorem dL_drawn_367 : decode cL_drawn 367 = .ok (.invokevirtual 191, 3) := by decide +kernel
theorem dL_drawn_370 : decode cL_drawn 370 = .ok (.ifCond .eq 7, 3) := by decide +kernel
theorem dL_drawn_373 : decode cL_drawn 373 = .ok (.iconst 0, 1) := by decide +kernel
theorem dL_drawn_374 : decode cL_drawn 374 = .ok (.goto 7, 3) := by decide +kernel
theorem dL_drawn_377 : decode cL_drawn 377 = .ok (.aload_n 1, 1) := by decide +kernel
theorem dL_drawn_378 : decode cL_drawn 378 = .ok (.invokestatic 198, 3) := by decide +kernel
theorem dL_drawn_381 : decode cL_drawn 381 = .ok (.istore 10, 2) := by decide +kernel
theorem dL_drawn_383 : decode cL_drawn 383 = .ok (.iload 10, 2) := by decide +kernel
theorem dL_drawn_385 : decode cL_drawn 385 = .ok (.iconst (-1), 1) := by decide +kernel
theorem dL_drawn_386 : decode cL_drawn 386 = .ok (.if_icmp .eq 10, 3) := by decide +kernel
theorem dL_drawn_389 : decode cL_drawn 389 = .ok (.iload 10, 2) := by decide +kernel
theorem dL_drawn_391 : decode cL_drawn 391 = .ok (.bipush (-2), 2) := by decide +kernel
theorem dL_drawn_393 : decode cL_drawn 393 = .ok (.if_icmp .ne 5, 3) := by decide +kernel
theorem dL_drawn_396 : decode cL_drawn 396 = .ok (.aconst_null, 1) := by decide +kernel
theorem dL_drawn_397 : decode cL_drawn 397 = .ok (.areturn, 1) := by decide +kernel
theorem dL_drawn_398 : decode cL_drawn 398 = .ok (.iinc 4 1, 3) := by decide +kernel
theorem dL_drawn_401 : decode cL_drawn 401 = .ok (.goto (-300), 3) := by decide +kernel
theorem dL_drawn_404 : decode cL_drawn 404 = .ok (.aload_n 1, 1) := by decide +kernel
theorem dL_drawn_405 : decode cL_drawn 405 = .ok (.areturn, 1) := by decide +kernel
theorem dL_undone_0 : decode cL_undone 0 = .ok (.bipush 9, 2) := by decide +kernel
theorem dL_undone_2 : decode cL_undone 2 = .ok (.newarray .long, 2) := by decide +kernel
theorem dL_undone_4 : decode cL_undone 4 = .ok (.astore_n 2, 1) := by decide +kernel
theorem dL_undone_5 : decode cL_undone 5 = .ok (.iconst 0, 1) := by decide +kernel
theorem dL_undone_6 : decode cL_undone 6 = .ok (.istore_n 3, 1) := by decide +kernel
theorem dL_undone_7 : decode cL_undone 7 = .ok (.iconst 0, 1) := by decide +kernel
theorem dL_undone_8 : decode cL_undone 8 = .ok (.istore 4, 2) := by decide +kernel
theorem dL_undone_10 : decode cL_undone 10 = .ok (.iload 4, 2) := by decide +kernel
theorem dL_undone_12 : decode cL_undone 12 = .ok (.bipush 7, 2) := by decide +kernel
theorem dL_undone_14 : decode cL_undone 14 = .ok (.if_icmp .ge 431, 3) := by decide +kernel
theorem dL_undone_17 : decode cL_undone 17 = .ok (.aload_n 0, 1) := by decide +kernel
theorem dL_undone_18 : decode cL_undone 18 = .ok (.bipush 23, 2) := by decide +kernel
theorem dL_undone_20 : decode cL_undone 20 = .ok (.iload 4, 2) := by decide +kernel
theorem dL_undone_22 : decode cL_undone 22 = .ok (.iadd, 1) := by decide +kernel
theorem dL_undone_23 : decode cL_undone 23 = .ok (.invokestatic 163, 3) := by decide +kernel
theorem dL_undone_26 : decode cL_undone 26 = .ok (.iconst 1, 1) := by decide +kernel
theorem dL_undone_27 : decode cL_undone 27 = .ok (.iushr, 1) := by decide +kernel
theorem dL_undone_28 : decode cL_undone 28 = .ok (.istore 5, 2) := by decide +kernel
theorem dL_undone_30 : decode cL_undone 30 = .ok (.iload 5, 2) := by decide +kernel
theorem dL_undone_32 : decode cL_undone 32 = .ok (.iconst 4, 1) := by decide +kernel
theorem dL_undone_33 : decode cL_undone 33 = .ok (.iushr, 1) := by decide +kernel
theorem dL_undone_34 : decode cL_undone 34 = .ok (.istore 6, 2) := by decide +kernel
theorem dL_undone_36 : decode cL_undone 36 = .ok (.iload 6, 2) := by decide +kernel
theorem dL_undone_38 : decode cL_undone 38 = .ok (.bipush 7, 2) := by decide +kernel
theorem dL_undone_40 : decode cL_undone 40 = .ok (.irem, 1) := by decide +kernel
theorem dL_undone_41 : decode cL_undone 41 = .ok (.istore 7, 2) := by decide +kernel
theorem dL_undone_43 : decode cL_undone 43 = .ok (.bipush 18, 2) := by decide +kernel
theorem dL_undone_45 : decode cL_undone 45 = .ok (.iload 6, 2) := by decide +kernel
theorem dL_undone_47 : decode cL_undone 47 = .ok (.iconst 3, 1) := by decide +kernel
theorem dL_undone_48 : decode cL_undone 48 = .ok (.iushr, 1) := by decide +kernel
theorem dL_undone_49 : decode cL_undone 49 = .ok (.bipush 14, 2) := by decide +kernel
theorem dL_undone_51 : decode cL_undone 51 = .ok (.irem, 1) := by decide +kernel
theorem dL_undone_52 : decode cL_undone 52 = .ok (.iadd, 1) := by decide +kernel
theorem dL_undone_53 : decode cL_undone 53 = .ok (.istore 8, 2) := by decide +kernel
theorem dL_undone_55 : decode cL_undone 55 = .ok (.iload 6, 2) := by decide +kernel
theorem dL_undone_57 : decode cL_undone 57 = .ok (.bipush 7, 2) := by decide +kernel
theorem dL_undone_59 : decode cL_undone 59 = .ok (.iushr, 1) := by decide +kernel
theorem dL_undone_60 : decode cL_undone 60 = .ok (.bipush 52, 2) := by decide +kernel
theorem dL_undone_62 : decode cL_undone 62 = .ok (.irem, 1) := by decide +kernel
theorem dL_undone_63 : decode cL_undone 63 = .ok (.istore 9, 2) := by decide +kernel
theorem dL_undone_65 : decode cL_undone 65 = .ok (.aload_n 2, 1) := by decide +kernel
theorem dL_undone_66 : decode cL_undone 66 = .ok (.iload_n 3, 1) := by decide +kernel
theorem dL_undone_67 : decode cL_undone 67 = .ok (.aload_n 1, 1) := by decide +kernel
theorem dL_undone_68 : decode cL_undone 68 = .ok (.invokestatic 355, 3) := by decide +kernel
theorem dL_undone_71 : decode cL_undone 71 = .ok (.lastore, 1) := by decide +kernel
theorem dL_undone_72 : decode cL_undone 72 = .ok (.iload 5, 2) := by decide +kernel
theorem dL_undone_74 : decode cL_undone 74 = .ok (.bipush 12, 2) := by decide +kernel
theorem dL_undone_76 : decode cL_undone 76 = .ok (.irem, 1) := by decide +kernel
theorem dL_undone_77 : decode cL_undone 77 = .ok (.tableswitch 247 0 10 #[59, 85, 85, 100, 100, 115, 166, 181, 196, 210, 224], 59) := by decide +kernel
theorem dL_undone_136 : decode cL_undone 136 = .ok (.aload_n 1, 1) := by decide +kernel
theorem dL_undone_137 : decode cL_undone 137 = .ok (.iload 6, 2) := by decide +kernel
theorem dL_undone_139 : decode cL_undone 139 = .ok (.iconst 3, 1) := by decide +kernel
theorem dL_undone_140 : decode cL_undone 140 = .ok (.iushr, 1) := by decide +kernel
theorem dL_undone_141 : decode cL_undone 141 = .ok (.sipush 10001, 3) := by decide +kernel
theorem dL_undone_144 : decode cL_undone 144 = .ok (.irem, 1) := by decide +kernel
theorem dL_undone_145 : decode cL_undone 145 = .ok (.iload 6, 2) := by decide +kernel
theorem dL_undone_147 : decode cL_undone 147 = .ok (.bipush 7, 2) := by decide +kernel
theorem dL_undone_149 : decode cL_undone 149 = .ok (.iushr, 1) := by decide +kernel
theorem dL_undone_150 : decode cL_undone 150 = .ok (.sipush 1001, 3) := by decide +kernel
theorem dL_undone_153 : decode cL_undone 153 = .ok (.irem, 1) := by decide +kernel
theorem dL_undone_154 : decode cL_undone 154 = .ok (.invokestatic 167, 3) := by decide +kernel
theorem dL_undone_157 : decode cL_undone 157 = .ok (.istore 10, 2) := by decide +kernel
theorem dL_undone_159 : decode cL_undone 159 = .ok (.goto 249, 3) := by decide +kernel
theorem dL_undone_162 : decode cL_undone 162 = .ok (.aload_n 1, 1) := by decide +kernel
theorem dL_undone_163 : decode cL_undone 163 = .ok (.iload 7, 2) := by decide +kernel
theorem dL_undone_165 : decode cL_undone 165 = .ok (.iload 8, 2) := by decide +kernel
theorem dL_undone_167 : decode cL_undone 167 = .ok (.iload 9, 2) := by decide +kernel
theorem dL_undone_169 : decode cL_undone 169 = .ok (.invokestatic 170, 3) := by decide +kernel
theorem dL_undone_172 : decode cL_undone 172 = .ok (.istore 10, 2) := by decide +kernel
theorem dL_undone_174 : decode cL_undone 174 = .ok (.goto 234, 3) := by decide +kernel
theorem dL_undone_177 : decode cL_undone 177 = .ok (.aload_n 1, 1) := by decide +kernel
theorem dL_undone_178 : decode cL_undone 178 = .ok (.iload 7, 2) := by decide +kernel
theorem dL_undone_180 : decode cL_undone 180 = .ok (.iload 8, 2) := by decide +kernel
theorem dL_undone_182 : decode cL_undone 182 = .ok (.iload 9, 2) := by decide +kernel
theorem dL_undone_184 : decode cL_undone 184 = .ok (.invokestatic 174, 3) := by decide +kernel
theorem dL_undone_187 : decode cL_undone 187 = .ok (.istore 10, 2) := by decide +kernel
theorem dL_undone_189 : decode cL_undone 189 = .ok (.goto 219, 3) := by decide +kernel
theorem dL_undone_192 : decode cL_undone 192 = .ok (.iload 6, 2) := by decide +kernel
theorem dL_undone_194 : decode cL_undone 194 = .ok (.iconst 2, 1) := by decide +kernel
theorem dL_undone_195 : decode cL_undone 195 = .ok (.irem, 1) := by decide +kernel
theorem dL_undone_196 : decode cL_undone 196 = .ok (.ifCond .ne 24, 3) := by decide +kernel
theorem dL_undone_199 : decode cL_undone 199 = .ok (.aload_n 1, 1) := by decide +kernel
theorem dL_undone_200 : decode cL_undone 200 = .ok (.iload 7, 2) := by decide +kernel
theorem dL_undone_202 : decode cL_undone 202 = .ok (.iload 8, 2) := by decide +kernel
theorem dL_undone_204 : decode cL_undone 204 = .ok (.iload 9, 2) := by decide +kernel
theorem dL_undone_206 : decode cL_undone 206 = .ok (.iload 6, 2) := by decide +kernel
theorem dL_undone_208 : decode cL_undone 208 = .ok (.bipush 13, 2) := by decide +kernel
theorem dL_undone_210 : decode cL_undone 210 = .ok (.iushr, 1) := by decide +kernel
theorem dL_undone_211 : decode cL_undone 211 = .ok (.bipush 62, 2) := by decide +kernel
theorem dL_undone_213 : decode cL_undone 213 = .ok (.irem, 1) := by decide +kernel
theorem dL_undone_214 : decode cL_undone 214 = .ok (.invokestatic 177, 3) := by decide +kernel
theorem dL_undone_217 : decode cL_undone 217 = .ok (.goto 21, 3) := by decide +kernel
theorem dL_undone_220 : decode cL_undone 220 = .ok (.aload_n 1, 1) := by decide +kernel
theorem dL_undone_221 : decode cL_undone 221 = .ok (.iload 7, 2) := by decide +kernel
theorem dL_undone_223 : decode cL_undone 223 = .ok (.iload 8, 2) := by decide +kernel
theorem dL_undone_225 : decode cL_undone 225 = .ok (.iload 9, 2) := by decide +kernel
theorem dL_undone_227 : decode cL_undone 227 = .ok (.iload 6, 2) := by decide +kernel
theorem dL_undone_229 : decode cL_undone 229 = .ok (.bipush 13, 2) := by decide +kernel
theorem dL_undone_231 : decode cL_undone 231 = .ok (.iushr, 1) := by decide +kernel
theorem dL_undone_232 : decode cL_undone 232 = .ok (.bipush 62, 2) := by decide +kernel
theorem dL_undone_234 : decode cL_undone 234 = .ok (.irem, 1) := by decide +kernel
theorem dL_undone_235 : decode cL_undone 235 = .ok (.invokestatic 181, 3) := by decide +kernel
theorem dL_undone_238 : decode cL_undone 238 = .ok (.istore 10, 2) := by decide +kernel
theorem dL_undone_240 : decode cL_undone 240 = .ok (.goto 168, 3) := by decide +kernel
theorem dL_undone_243 : decode cL_undone 243 = .ok (.aload_n 1, 1) := by decide +kernel
theorem dL_undone_244 : decode cL_undone 244 = .ok (.iload 7, 2) := by decide +kernel
theorem dL_undone_246 : decode cL_undone 246 = .ok (.iload 8, 2) := by decide +kernel
theorem dL_undone_248 : decode cL_undone 248 = .ok (.iload 9, 2) := by decide +kernel
theorem dL_undone_250 : decode cL_undone 250 = .ok (.invokestatic 184, 3) := by decide +kernel
theorem dL_undone_253 : decode cL_undone 253 = .ok (.istore 10, 2) := by decide +kernel
theorem dL_undone_255 : decode cL_undone 255 = .ok (.goto 153, 3) := by decide +kernel
theorem dL_undone_258 : decode cL_undone 258 = .ok (.aload_n 1, 1) := by decide +kernel
theorem dL_undone_259 : decode cL_undone 259 = .ok (.iload 7, 2) := by decide +kernel
theorem dL_undone_261 : decode cL_undone 261 = .ok (.iload 8, 2) := by decide +kernel
theorem dL_undone_263 : decode cL_undone 263 = .ok (.iload 9, 2) := by decide +kernel
theorem dL_undone_265 : decode cL_undone 265 = .ok (.invokestatic 189, 3) := by decide +kernel
theorem dL_undone_268 : decode cL_undone 268 = .ok (.istore 10, 2) := by decide +kernel
theorem dL_undone_270 : decode cL_undone 270 = .ok (.goto 138, 3) := by decide +kernel
theorem dL_undone_273 : decode cL_undone 273 = .ok (.aload_n 1, 1) := by decide +kernel
theorem dL_undone_274 : decode cL_undone 274 = .ok (.iload 6, 2) := by decide +kernel
theorem dL_undone_276 : decode cL_undone 276 = .ok (.bipush 24, 2) := by decide +kernel
theorem dL_undone_278 : decode cL_undone 278 = .ok (.irem, 1) := by decide +kernel
theorem dL_undone_279 : decode cL_undone 279 = .ok (.invokestatic 359, 3) := by decide +kernel
theorem dL_undone_282 : decode cL_undone 282 = .ok (.istore 10, 2) := by decide +kernel
theorem dL_undone_284 : decode cL_undone 284 = .ok (.goto 124, 3) := by decide +kernel
theorem dL_undone_287 : decode cL_undone 287 = .ok (.aload_n 1, 1) := by decide +kernel
theorem dL_undone_288 : decode cL_undone 288 = .ok (.iload 6, 2) := by decide +kernel
theorem dL_undone_290 : decode cL_undone 290 = .ok (.bipush 62, 2) := by decide +kernel
theorem dL_undone_292 : decode cL_undone 292 = .ok (.irem, 1) := by decide +kernel
theorem dL_undone_293 : decode cL_undone 293 = .ok (.invokestatic 186, 3) := by decide +kernel
theorem dL_undone_296 : decode cL_undone 296 = .ok (.istore 10, 2) := by decide +kernel
theorem dL_undone_298 : decode cL_undone 298 = .ok (.goto 110, 3) := by decide +kernel
theorem dL_undone_301 : decode cL_undone 301 = .ok (.aload_n 1, 1) := by decide +kernel
theorem dL_undone_302 : decode cL_undone 302 = .ok (.invokevirtual 191, 3) := by decide +kernel
theorem dL_undone_305 : decode cL_undone 305 = .ok (.ifCond .eq 10, 3) := by decide +kernel
theorem dL_undone_308 : decode cL_undone 308 = .ok (.aload_n 1, 1) := by decide +kernel
theorem dL_undone_309 : decode cL_undone 309 = .ok (.invokestatic 195, 3) := by decide +kernel
theorem dL_undone_312 : decode cL_undone 312 = .ok (.goto 7, 3) := by decide +kernel
theorem dL_undone_315 : decode cL_undone 315 = .ok (.aload_n 1, 1) := by decide +kernel
theorem dL_undone_316 : decode cL_undone 316 = .ok (.invokestatic 198, 3) := by decide +kernel
theorem dL_undone_319 : decode cL_undone 319 = .ok (.istore 10, 2) := by decide +kernel
theorem dL_undone_321 : decode cL_undone 321 = .ok (.goto 87, 3) := by decide +kernel
theorem dL_undone_324 : decode cL_undone 324 = .ok (.aload_n 1, 1) := by decide +kernel
theorem dL_undone_325 : decode cL_undone 325 = .ok (.new 305, 3) := by decide +kernel
theorem dL_undone_328 : decode cL_undone 328 = .ok (.dup, 1) := by decide +kernel
theorem dL_undone_329 : decode cL_undone 329 = .ok (.invokespecial 307, 3) := by decide +kernel
theorem dL_undone_332 : decode cL_undone 332 = .ok (.ldc_w 361, 3) := by decide +kernel
theorem dL_undone_335 : decode cL_undone 335 = .ok (.invokevirtual 316, 3) := by decide +kernel
theorem dL_undone_338 : decode cL_undone 338 = .ok (.iload 7, 2) := by decide +kernel
theorem dL_undone_340 : decode cL_undone 340 = .ok (.invokevirtual 308, 3) := by decide +kernel
theorem dL_undone_343 : decode cL_undone 343 = .ok (.ldc_w 363, 3) := by decide +kernel
theorem dL_undone_346 : decode cL_undone 346 = .ok (.invokevirtual 316, 3) := by decide +kernel
theorem dL_undone_349 : decode cL_undone 349 = .ok (.iload 8, 2) := by decide +kernel
theorem dL_undone_351 : decode cL_undone 351 = .ok (.invokevirtual 308, 3) := by decide +kernel
theorem dL_undone_354 : decode cL_undone 354 = .ok (.ldc_w 363, 3) := by decide +kernel
theorem dL_undone_357 : decode cL_undone 357 = .ok (.invokevirtual 316, 3) := by decide +kernel
theorem dL_undone_360 : decode cL_undone 360 = .ok (.iload 9, 2) := by decide +kernel
theorem dL_undone_362 : decode cL_undone 362 = .ok (.invokevirtual 308, 3) := by decide +kernel
theorem dL_undone_365 : decode cL_undone 365 = .ok (.ldc_w 365, 3) := by decide +kernel
theorem dL_undone_368 : decode cL_undone 368 = .ok (.invokevirtual 316, 3) := by decide +kernel
theorem dL_undone_371 : decode cL_undone 371 = .ok (.iload 6, 2) := by decide +kernel
theorem dL_undone_373 : decode cL_undone 373 = .ok (.iconst 5, 1) := by decide +kernel
theorem dL_undone_374 : decode cL_undone 374 = .ok (.iushr, 1) := by decide +kernel
theorem dL_undone_375 : decode cL_undone 375 = .ok (.bipush 6, 2) := by decide +kernel
theorem dL_undone_377 : decode cL_undone 377 = .ok (.irem, 1) := by decide +kernel
theorem dL_undone_378 : decode cL_undone 378 = .ok (.invokevirtual 308, 3) := by decide +kernel
theorem dL_undone_381 : decode cL_undone 381 = .ok (.ldc_w 363, 3) := by decide +kernel
theorem dL_undone_384 : decode cL_undone 384 = .ok (.invokevirtual 316, 3) := by decide +kernel
theorem dL_undone_387 : decode cL_undone 387 = .ok (.iload 8, 2) := by decide +kernel
theorem dL_undone_389 : decode cL_undone 389 = .ok (.iconst 2, 1) := by decide +kernel
theorem dL_undone_390 : decode cL_undone 390 = .ok (.isub, 1) := by decide +kernel
theorem dL_undone_391 : decode cL_undone 391 = .ok (.invokevirtual 308, 3) := by decide +kernel
theorem dL_undone_394 : decode cL_undone 394 = .ok (.ldc_w 367, 3) := by decide +kernel
theorem dL_undone_397 : decode cL_undone 397 = .ok (.invokevirtual 316, 3) := by decide +kernel
theorem dL_undone_400 : decode cL_undone 400 = .ok (.invokevirtual 321, 3) := by decide +kernel
theorem dL_undone_403 : decode cL_undone 403 = .ok (.invokestatic 369, 3) := by decide +kernel
theorem dL_undone_406 : decode cL_undone 406 = .ok (.istore 10, 2) := by decide +kernel
theorem dL_undone_408 : decode cL_undone 408 = .ok (.iload 10, 2) := by decide +kernel
theorem dL_undone_410 : decode cL_undone 410 = .ok (.ifCond .ge 16, 3) := by decide +kernel
theorem dL_undone_413 : decode cL_undone 413 = .ok (.aload_n 1, 1) := by decide +kernel
theorem dL_undone_414 : decode cL_undone 414 = .ok (.invokestatic 355, 3) := by decide +kernel
theorem dL_undone_417 : decode cL_undone 417 = .ok (.aload_n 2, 1) := by decide +kernel
theorem dL_undone_418 : decode cL_undone 418 = .ok (.iload_n 3, 1) := by decide +kernel
theorem dL_undone_419 : decode cL_undone 419 = .ok (.laload, 1) := by decide +kernel
theorem dL_undone_420 : decode cL_undone 420 = .ok (.lcmp, 1) := by decide +kernel
theorem dL_undone_421 : decode cL_undone 421 = .ok (.ifCond .eq 5, 3) := by decide +kernel
theorem dL_undone_424 : decode cL_undone 424 = .ok (.iconst 0, 1) := by decide +kernel
theorem dL_undone_425 : decode cL_undone 425 = .ok (.ireturn, 1) := by decide +kernel
theorem dL_undone_426 : decode cL_undone 426 = .ok (.iload_n 3, 1) := by decide +kernel
theorem dL_undone_427 : decode cL_undone 427 = .ok (.iload 10, 2) := by decide +kernel
theorem dL_undone_429 : decode cL_undone 429 = .ok (.ifCond .ge 7, 3) := by decide +kernel
theorem dL_undone_432 : decode cL_undone 432 = .ok (.iconst 0, 1) := by decide +kernel
theorem dL_undone_433 : decode cL_undone 433 = .ok (.goto 4, 3) := by decide +kernel
theorem dL_undone_436 : decode cL_undone 436 = .ok (.iconst 1, 1) := by decide +kernel
theorem dL_undone_437 : decode cL_undone 437 = .ok (.iadd, 1) := by decide +kernel
theorem dL_undone_438 : decode cL_undone 438 = .ok (.istore_n 3, 1) := by decide +kernel
theorem dL_undone_439 : decode cL_undone 439 = .ok (.iinc 4 1, 3) := by decide +kernel
theorem dL_undone_442 : decode cL_undone 442 = .ok (.goto (-432), 3) := by decide +kernel
theorem dL_undone_445 : decode cL_undone 445 = .ok (.iload_n 3, 1) := by decide +kernel
theorem dL_undone_446 : decode cL_undone 446 = .ok (.iconst 1, 1) := by decide +kernel
theorem dL_undone_447 : decode cL_undone 447 = .ok (.isub, 1) := by decide +kernel
theorem dL_undone_448 : decode cL_undone 448 = .ok (.istore 4, 2) := by decide +kernel
theorem dL_undone_450 : decode cL_undone 450 = .ok (.iload 4, 2) := by decide +kernel
theorem dL_undone_452 : decode cL_undone 452 = .ok (.ifCond .lt 30, 3) := by decide +kernel
theorem dL_undone_455 : decode cL_undone 455 = .ok (.aload_n 1, 1) := by decide +kernel
theorem dL_undone_456 : decode cL_undone 456 = .ok (.invokestatic 372, 3) := by decide +kernel
theorem dL_undone_459 : decode cL_undone 459 = .ok (.ifCond .lt 15, 3) := by decide +kernel
theorem dL_undone_462 : decode cL_undone 462 = .ok (.aload_n 1, 1) := by decide +kernel
theorem dL_undone_463 : decode cL_undone 463 = .ok (.invokestatic 355, 3) := by decide +kernel
theorem dL_undone_466 : decode cL_undone 466 = .ok (.aload_n 2, 1) := by decide +kernel
theorem dL_undone_467 : decode cL_undone 467 = .ok (.iload 4, 2) := by decide +kernel
theorem dL_undone_469 : decode cL_undone 469 = .ok (.laload, 1) := by decide +kernel
theorem dL_undone_470 : decode cL_undone 470 = .ok (.lcmp, 1) := by decide +kernel
theorem dL_undone_471 : decode cL_undone 471 = .ok (.ifCond .eq 5, 3) := by decide +kernel
theorem dL_undone_474 : decode cL_undone 474 = .ok (.iconst 0, 1) := by decide +kernel
theorem dL_undone_475 : decode cL_undone 475 = .ok (.ireturn, 1) := by decide +kernel
theorem dL_undone_476 : decode cL_undone 476 = .ok (.iinc 4 (-1), 3) := by decide +kernel
theorem dL_undone_479 : decode cL_undone 479 = .ok (.goto (-29), 3) := by decide +kernel
theorem dL_undone_482 : decode cL_undone 482 = .ok (.iconst 1, 1) := by decide +kernel
theorem dL_undone_483 : decode cL_undone 483 = .ok (.ireturn, 1) := by decide +kernel
