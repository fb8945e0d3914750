/-! The law: decode rows (law, stalls, book) -/
theorem dL_law_0 : decode cL_law 0 = .ok (.aload_n 0, 1) := by decide +kernel
theorem dL_law_1 : decode cL_law 1 = .ok (.invokestatic 201, 3) := by decide +kernel
theorem dL_law_4 : decode cL_law 4 = .ok (.astore_n 1, 1) := by decide +kernel
theorem dL_law_5 : decode cL_law 5 = .ok (.aload_n 1, 1) := by decide +kernel
theorem dL_law_6 : decode cL_law 6 = .ok (.ifnull 43, 3) := by decide +kernel
theorem dL_law_9 : decode cL_law 9 = .ok (.aload_n 1, 1) := by decide +kernel
theorem dL_law_10 : decode cL_law 10 = .ok (.invokestatic 205, 3) := by decide +kernel
theorem dL_law_13 : decode cL_law 13 = .ok (.ifCond .eq 36, 3) := by decide +kernel
theorem dL_law_16 : decode cL_law 16 = .ok (.aload_n 1, 1) := by decide +kernel
theorem dL_law_17 : decode cL_law 17 = .ok (.invokestatic 209, 3) := by decide +kernel
theorem dL_law_20 : decode cL_law 20 = .ok (.ifCond .eq 29, 3) := by decide +kernel
theorem dL_law_23 : decode cL_law 23 = .ok (.aload_n 1, 1) := by decide +kernel
theorem dL_law_24 : decode cL_law 24 = .ok (.invokestatic 212, 3) := by decide +kernel
theorem dL_law_27 : decode cL_law 27 = .ok (.ifCond .eq 22, 3) := by decide +kernel
theorem dL_law_30 : decode cL_law 30 = .ok (.aload_n 1, 1) := by decide +kernel
theorem dL_law_31 : decode cL_law 31 = .ok (.invokestatic 215, 3) := by decide +kernel
theorem dL_law_34 : decode cL_law 34 = .ok (.ifCond .eq 15, 3) := by decide +kernel
theorem dL_law_37 : decode cL_law 37 = .ok (.aload_n 0, 1) := by decide +kernel
theorem dL_law_38 : decode cL_law 38 = .ok (.aload_n 1, 1) := by decide +kernel
theorem dL_law_39 : decode cL_law 39 = .ok (.invokestatic 218, 3) := by decide +kernel
theorem dL_law_42 : decode cL_law 42 = .ok (.ifCond .eq 7, 3) := by decide +kernel
theorem dL_law_45 : decode cL_law 45 = .ok (.iconst 1, 1) := by decide +kernel
theorem dL_law_46 : decode cL_law 46 = .ok (.goto 4, 3) := by decide +kernel
theorem dL_law_49 : decode cL_law 49 = .ok (.iconst 0, 1) := by decide +kernel
theorem dL_law_50 : decode cL_law 50 = .ok (.ireturn, 1) := by decide +kernel
theorem dL_stalls_0 : decode cL_stalls 0 = .ok (.aload_n 0, 1) := by decide +kernel
theorem dL_stalls_1 : decode cL_stalls 1 = .ok (.invokevirtual 222, 3) := by decide +kernel
theorem dL_stalls_4 : decode cL_stalls 4 = .ok (.istore_n 1, 1) := by decide +kernel
theorem dL_stalls_5 : decode cL_stalls 5 = .ok (.iconst 0, 1) := by decide +kernel
theorem dL_stalls_6 : decode cL_stalls 6 = .ok (.istore_n 2, 1) := by decide +kernel
theorem dL_stalls_7 : decode cL_stalls 7 = .ok (.iconst 0, 1) := by decide +kernel
theorem dL_stalls_8 : decode cL_stalls 8 = .ok (.istore_n 3, 1) := by decide +kernel
theorem dL_stalls_9 : decode cL_stalls 9 = .ok (.iconst 0, 1) := by decide +kernel
theorem dL_stalls_10 : decode cL_stalls 10 = .ok (.istore 4, 2) := by decide +kernel
theorem dL_stalls_12 : decode cL_stalls 12 = .ok (.iload 4, 2) := by decide +kernel
theorem dL_stalls_14 : decode cL_stalls 14 = .ok (.iload_n 1, 1) := by decide +kernel
theorem dL_stalls_15 : decode cL_stalls 15 = .ok (.if_icmp .ge 251, 3) := by decide +kernel
theorem dL_stalls_18 : decode cL_stalls 18 = .ok (.aload_n 0, 1) := by decide +kernel
theorem dL_stalls_19 : decode cL_stalls 19 = .ok (.iload 4, 2) := by decide +kernel
theorem dL_stalls_21 : decode cL_stalls 21 = .ok (.invokestatic 225, 3) := by decide +kernel
theorem dL_stalls_24 : decode cL_stalls 24 = .ok (.istore 5, 2) := by decide +kernel
theorem dL_stalls_26 : decode cL_stalls 26 = .ok (.aload_n 0, 1) := by decide +kernel
theorem dL_stalls_27 : decode cL_stalls 27 = .ok (.iload 4, 2) := by decide +kernel
theorem dL_stalls_29 : decode cL_stalls 29 = .ok (.invokestatic 228, 3) := by decide +kernel
theorem dL_stalls_32 : decode cL_stalls 32 = .ok (.istore 6, 2) := by decide +kernel
theorem dL_stalls_34 : decode cL_stalls 34 = .ok (.iload_n 2, 1) := by decide +kernel
theorem dL_stalls_35 : decode cL_stalls 35 = .ok (.iload 5, 2) := by decide +kernel
theorem dL_stalls_37 : decode cL_stalls 37 = .ok (.iadd, 1) := by decide +kernel
theorem dL_stalls_38 : decode cL_stalls 38 = .ok (.istore_n 2, 1) := by decide +kernel
theorem dL_stalls_39 : decode cL_stalls 39 = .ok (.iload_n 3, 1) := by decide +kernel
theorem dL_stalls_40 : decode cL_stalls 40 = .ok (.iload 6, 2) := by decide +kernel
theorem dL_stalls_42 : decode cL_stalls 42 = .ok (.iadd, 1) := by decide +kernel
theorem dL_stalls_43 : decode cL_stalls 43 = .ok (.istore_n 3, 1) := by decide +kernel
theorem dL_stalls_44 : decode cL_stalls 44 = .ok (.iconst 0, 1) := by decide +kernel
theorem dL_stalls_45 : decode cL_stalls 45 = .ok (.istore 7, 2) := by decide +kernel
theorem dL_stalls_47 : decode cL_stalls 47 = .ok (.iload 7, 2) := by decide +kernel
theorem dL_stalls_49 : decode cL_stalls 49 = .ok (.aload_n 0, 1) := by decide +kernel
theorem dL_stalls_50 : decode cL_stalls 50 = .ok (.invokevirtual 231, 3) := by decide +kernel
theorem dL_stalls_53 : decode cL_stalls 53 = .ok (.if_icmp .ge 100, 3) := by decide +kernel
theorem dL_stalls_56 : decode cL_stalls 56 = .ok (.aload_n 0, 1) := by decide +kernel
theorem dL_stalls_57 : decode cL_stalls 57 = .ok (.iload 7, 2) := by decide +kernel
theorem dL_stalls_59 : decode cL_stalls 59 = .ok (.invokevirtual 73, 3) := by decide +kernel
theorem dL_stalls_62 : decode cL_stalls 62 = .ok (.istore 8, 2) := by decide +kernel
theorem dL_stalls_64 : decode cL_stalls 64 = .ok (.aload_n 0, 1) := by decide +kernel
theorem dL_stalls_65 : decode cL_stalls 65 = .ok (.iload 8, 2) := by decide +kernel
theorem dL_stalls_67 : decode cL_stalls 67 = .ok (.invokevirtual 76, 3) := by decide +kernel
theorem dL_stalls_70 : decode cL_stalls 70 = .ok (.iload 4, 2) := by decide +kernel
theorem dL_stalls_72 : decode cL_stalls 72 = .ok (.if_icmp .ne 7, 3) := by decide +kernel
theorem dL_stalls_75 : decode cL_stalls 75 = .ok (.iconst 1, 1) := by decide +kernel
theorem dL_stalls_76 : decode cL_stalls 76 = .ok (.goto 4, 3) := by decide +kernel
theorem dL_stalls_79 : decode cL_stalls 79 = .ok (.iconst 0, 1) := by decide +kernel
theorem dL_stalls_80 : decode cL_stalls 80 = .ok (.istore 9, 2) := by decide +kernel
theorem dL_stalls_82 : decode cL_stalls 82 = .ok (.iload 5, 2) := by decide +kernel
theorem dL_stalls_84 : decode cL_stalls 84 = .ok (.iload 9, 2) := by decide +kernel
theorem dL_stalls_86 : decode cL_stalls 86 = .ok (.ifCond .eq 28, 3) := by decide +kernel
theorem dL_stalls_89 : decode cL_stalls 89 = .ok (.aload_n 0, 1) := by decide +kernel
theorem dL_stalls_90 : decode cL_stalls 90 = .ok (.iload 8, 2) := by decide +kernel
theorem dL_stalls_92 : decode cL_stalls 92 = .ok (.invokevirtual 79, 3) := by decide +kernel
theorem dL_stalls_95 : decode cL_stalls 95 = .ok (.ifCond .eq 19, 3) := by decide +kernel
theorem dL_stalls_98 : decode cL_stalls 98 = .ok (.aload_n 0, 1) := by decide +kernel
theorem dL_stalls_99 : decode cL_stalls 99 = .ok (.iload 8, 2) := by decide +kernel
theorem dL_stalls_101 : decode cL_stalls 101 = .ok (.invokevirtual 83, 3) := by decide +kernel
theorem dL_stalls_104 : decode cL_stalls 104 = .ok (.aload_n 0, 1) := by decide +kernel
theorem dL_stalls_105 : decode cL_stalls 105 = .ok (.iload 8, 2) := by decide +kernel
theorem dL_stalls_107 : decode cL_stalls 107 = .ok (.invokevirtual 86, 3) := by decide +kernel
theorem dL_stalls_110 : decode cL_stalls 110 = .ok (.imul, 1) := by decide +kernel
theorem dL_stalls_111 : decode cL_stalls 111 = .ok (.goto 4, 3) := by decide +kernel
theorem dL_stalls_114 : decode cL_stalls 114 = .ok (.iconst 0, 1) := by decide +kernel
theorem dL_stalls_115 : decode cL_stalls 115 = .ok (.isub, 1) := by decide +kernel
theorem dL_stalls_116 : decode cL_stalls 116 = .ok (.istore 5, 2) := by decide +kernel
theorem dL_stalls_118 : decode cL_stalls 118 = .ok (.iload 6, 2) := by decide +kernel
theorem dL_stalls_120 : decode cL_stalls 120 = .ok (.iload 9, 2) := by decide +kernel
theorem dL_stalls_122 : decode cL_stalls 122 = .ok (.ifCond .eq 21, 3) := by decide +kernel
theorem dL_stalls_125 : decode cL_stalls 125 = .ok (.aload_n 0, 1) := by decide +kernel
theorem dL_stalls_126 : decode cL_stalls 126 = .ok (.iload 8, 2) := by decide +kernel
theorem dL_stalls_128 : decode cL_stalls 128 = .ok (.invokevirtual 79, 3) := by decide +kernel
theorem dL_stalls_131 : decode cL_stalls 131 = .ok (.ifCond .ne 12, 3) := by decide +kernel
theorem dL_stalls_134 : decode cL_stalls 134 = .ok (.aload_n 0, 1) := by decide +kernel
theorem dL_stalls_135 : decode cL_stalls 135 = .ok (.iload 8, 2) := by decide +kernel
theorem dL_stalls_137 : decode cL_stalls 137 = .ok (.invokevirtual 86, 3) := by decide +kernel
theorem dL_stalls_140 : decode cL_stalls 140 = .ok (.goto 4, 3) := by decide +kernel
theorem dL_stalls_143 : decode cL_stalls 143 = .ok (.iconst 0, 1) := by decide +kernel
theorem dL_stalls_144 : decode cL_stalls 144 = .ok (.isub, 1) := by decide +kernel
theorem dL_stalls_145 : decode cL_stalls 145 = .ok (.istore 6, 2) := by decide +kernel
theorem dL_stalls_147 : decode cL_stalls 147 = .ok (.iinc 7 1, 3) := by decide +kernel
theorem dL_stalls_150 : decode cL_stalls 150 = .ok (.goto (-103), 3) := by decide +kernel
theorem dL_stalls_153 : decode cL_stalls 153 = .ok (.aload_n 0, 1) := by decide +kernel
theorem dL_stalls_154 : decode cL_stalls 154 = .ok (.iload 4, 2) := by decide +kernel
theorem dL_stalls_156 : decode cL_stalls 156 = .ok (.invokestatic 234, 3) := by decide +kernel
theorem dL_stalls_159 : decode cL_stalls 159 = .ok (.istore 7, 2) := by decide +kernel
theorem dL_stalls_161 : decode cL_stalls 161 = .ok (.iload 4, 2) := by decide +kernel
theorem dL_stalls_163 : decode cL_stalls 163 = .ok (.ifCond .ne 7, 3) := by decide +kernel
theorem dL_stalls_166 : decode cL_stalls 166 = .ok (.iconst (-1), 1) := by decide +kernel
theorem dL_stalls_167 : decode cL_stalls 167 = .ok (.goto 11, 3) := by decide +kernel
theorem dL_stalls_170 : decode cL_stalls 170 = .ok (.aload_n 0, 1) := by decide +kernel
theorem dL_stalls_171 : decode cL_stalls 171 = .ok (.iload 4, 2) := by decide +kernel
theorem dL_stalls_173 : decode cL_stalls 173 = .ok (.iconst 1, 1) := by decide +kernel
theorem dL_stalls_174 : decode cL_stalls 174 = .ok (.isub, 1) := by decide +kernel
theorem dL_stalls_175 : decode cL_stalls 175 = .ok (.invokestatic 234, 3) := by decide +kernel
theorem dL_stalls_178 : decode cL_stalls 178 = .ok (.istore 8, 2) := by decide +kernel
theorem dL_stalls_180 : decode cL_stalls 180 = .ok (.iload 4, 2) := by decide +kernel
theorem dL_stalls_182 : decode cL_stalls 182 = .ok (.ifCond .ne 7, 3) := by decide +kernel
theorem dL_stalls_185 : decode cL_stalls 185 = .ok (.iconst 1, 1) := by decide +kernel
theorem dL_stalls_186 : decode cL_stalls 186 = .ok (.goto 16, 3) := by decide +kernel
theorem dL_stalls_189 : decode cL_stalls 189 = .ok (.aload_n 0, 1) := by decide +kernel
theorem dL_stalls_190 : decode cL_stalls 190 = .ok (.iload 8, 2) := by decide +kernel
theorem dL_stalls_192 : decode cL_stalls 192 = .ok (.invokestatic 225, 3) := by decide +kernel
theorem dL_stalls_195 : decode cL_stalls 195 = .ok (.aload_n 0, 1) := by decide +kernel
theorem dL_stalls_196 : decode cL_stalls 196 = .ok (.iload 7, 2) := by decide +kernel
theorem dL_stalls_198 : decode cL_stalls 198 = .ok (.invokestatic 225, 3) := by decide +kernel
theorem dL_stalls_201 : decode cL_stalls 201 = .ok (.isub, 1) := by decide +kernel
theorem dL_stalls_202 : decode cL_stalls 202 = .ok (.istore 9, 2) := by decide +kernel
theorem dL_stalls_204 : decode cL_stalls 204 = .ok (.aload_n 0, 1) := by decide +kernel
theorem dL_stalls_205 : decode cL_stalls 205 = .ok (.iload 4, 2) := by decide +kernel
theorem dL_stalls_207 : decode cL_stalls 207 = .ok (.invokestatic 237, 3) := by decide +kernel
theorem dL_stalls_210 : decode cL_stalls 210 = .ok (.iload 5, 2) := by decide +kernel
theorem dL_stalls_212 : decode cL_stalls 212 = .ok (.if_icmp .ne 46, 3) := by decide +kernel
theorem dL_stalls_215 : decode cL_stalls 215 = .ok (.aload_n 0, 1) := by decide +kernel
theorem dL_stalls_216 : decode cL_stalls 216 = .ok (.iload 4, 2) := by decide +kernel
theorem dL_stalls_218 : decode cL_stalls 218 = .ok (.invokestatic 240, 3) := by decide +kernel
theorem dL_stalls_221 : decode cL_stalls 221 = .ok (.iload 6, 2) := by decide +kernel
theorem dL_stalls_223 : decode cL_stalls 223 = .ok (.if_icmp .ne 35, 3) := by decide +kernel
theorem dL_stalls_226 : decode cL_stalls 226 = .ok (.iload 5, 2) := by decide +kernel
theorem dL_stalls_228 : decode cL_stalls 228 = .ok (.ifCond .lt 30, 3) := by decide +kernel
theorem dL_stalls_231 : decode cL_stalls 231 = .ok (.iload 6, 2) := by decide +kernel
theorem dL_stalls_233 : decode cL_stalls 233 = .ok (.ifCond .lt 25, 3) := by decide +kernel
theorem dL_stalls_236 : decode cL_stalls 236 = .ok (.iload 7, 2) := by decide +kernel
theorem dL_stalls_238 : decode cL_stalls 238 = .ok (.ifCond .lt 20, 3) := by decide +kernel
theorem dL_stalls_241 : decode cL_stalls 241 = .ok (.iload 9, 2) := by decide +kernel
theorem dL_stalls_243 : decode cL_stalls 243 = .ok (.ifCond .lt 15, 3) := by decide +kernel
theorem dL_stalls_246 : decode cL_stalls 246 = .ok (.iload 9, 2) := by decide +kernel
theorem dL_stalls_248 : decode cL_stalls 248 = .ok (.ifCond .ne 12, 3) := by decide +kernel
theorem dL_stalls_251 : decode cL_stalls 251 = .ok (.iload 8, 2) := by decide +kernel
theorem dL_stalls_253 : decode cL_stalls 253 = .ok (.iload 7, 2) := by decide +kernel
theorem dL_stalls_255 : decode cL_stalls 255 = .ok (.if_icmp .le 5, 3) := by decide +kernel
theorem dL_stalls_258 : decode cL_stalls 258 = .ok (.iconst 0, 1) := by decide +kernel
theorem dL_stalls_259 : decode cL_stalls 259 = .ok (.ireturn, 1) := by decide +kernel
theorem dL_stalls_260 : decode cL_stalls 260 = .ok (.iinc 4 1, 3) := by decide +kernel
theorem dL_stalls_263 : decode cL_stalls 263 = .ok (.goto (-251), 3) := by decide +kernel
theorem dL_stalls_266 : decode cL_stalls 266 = .ok (.aload_n 0, 1) := by decide +kernel
theorem dL_stalls_267 : decode cL_stalls 267 = .ok (.invokevirtual 243, 3) := by decide +kernel
theorem dL_stalls_270 : decode cL_stalls 270 = .ok (.iload_n 2, 1) := by decide +kernel
theorem dL_stalls_271 : decode cL_stalls 271 = .ok (.if_icmp .ne 75, 3) := by decide +kernel
theorem dL_stalls_274 : decode cL_stalls 274 = .ok (.aload_n 0, 1) := by decide +kernel
theorem dL_stalls_275 : decode cL_stalls 275 = .ok (.invokevirtual 246, 3) := by decide +kernel
theorem dL_stalls_278 : decode cL_stalls 278 = .ok (.iload_n 3, 1) := by decide +kernel
theorem dL_stalls_279 : decode cL_stalls 279 = .ok (.if_icmp .ne 67, 3) := by decide +kernel
theorem dL_stalls_282 : decode cL_stalls 282 = .ok (.aload_n 0, 1) := by decide +kernel
theorem dL_stalls_283 : decode cL_stalls 283 = .ok (.iload_n 1, 1) := by decide +kernel
theorem dL_stalls_284 : decode cL_stalls 284 = .ok (.invokestatic 234, 3) := by decide +kernel
theorem dL_stalls_287 : decode cL_stalls 287 = .ok (.bipush (-13), 2) := by decide +kernel
theorem dL_stalls_289 : decode cL_stalls 289 = .ok (.if_icmp .ne 57, 3) := by decide +kernel
theorem dL_stalls_292 : decode cL_stalls 292 = .ok (.aload_n 0, 1) := by decide +kernel
theorem dL_stalls_293 : decode cL_stalls 293 = .ok (.iconst (-1), 1) := by decide +kernel
theorem dL_stalls_294 : decode cL_stalls 294 = .ok (.invokestatic 234, 3) := by decide +kernel
theorem dL_stalls_297 : decode cL_stalls 297 = .ok (.bipush (-13), 2) := by decide +kernel
theorem dL_stalls_299 : decode cL_stalls 299 = .ok (.if_icmp .ne 47, 3) := by decide +kernel
theorem dL_stalls_302 : decode cL_stalls 302 = .ok (.aload_n 0, 1) := by decide +kernel
theorem dL_stalls_303 : decode cL_stalls 303 = .ok (.iload_n 1, 1) := by decide +kernel
theorem dL_stalls_304 : decode cL_stalls 304 = .ok (.invokestatic 225, 3) := by decide +kernel
theorem dL_stalls_307 : decode cL_stalls 307 = .ok (.bipush (-11), 2) := by decide +kernel
theorem dL_stalls_309 : decode cL_stalls 309 = .ok (.if_icmp .ne 37, 3) := by decide +kernel
theorem dL_stalls_312 : decode cL_stalls 312 = .ok (.aload_n 0, 1) := by decide +kernel
theorem dL_stalls_313 : decode cL_stalls 313 = .ok (.iload_n 1, 1) := by decide +kernel
theorem dL_stalls_314 : decode cL_stalls 314 = .ok (.invokestatic 228, 3) := by decide +kernel
theorem dL_stalls_317 : decode cL_stalls 317 = .ok (.bipush (-11), 2) := by decide +kernel
theorem dL_stalls_319 : decode cL_stalls 319 = .ok (.if_icmp .ne 27, 3) := by decide +kernel
theorem dL_stalls_322 : decode cL_stalls 322 = .ok (.aload_n 0, 1) := by decide +kernel
theorem dL_stalls_323 : decode cL_stalls 323 = .ok (.iload_n 1, 1) := by decide +kernel
theorem dL_stalls_324 : decode cL_stalls 324 = .ok (.invokestatic 237, 3) := by decide +kernel
theorem dL_stalls_327 : decode cL_stalls 327 = .ok (.bipush (-11), 2) := by decide +kernel
theorem dL_stalls_329 : decode cL_stalls 329 = .ok (.if_icmp .ne 17, 3) := by decide +kernel
theorem dL_stalls_332 : decode cL_stalls 332 = .ok (.aload_n 0, 1) := by decide +kernel
theorem dL_stalls_333 : decode cL_stalls 333 = .ok (.iconst (-1), 1) := by decide +kernel
theorem dL_stalls_334 : decode cL_stalls 334 = .ok (.invokestatic 240, 3) := by decide +kernel
theorem dL_stalls_337 : decode cL_stalls 337 = .ok (.bipush (-11), 2) := by decide +kernel
theorem dL_stalls_339 : decode cL_stalls 339 = .ok (.if_icmp .ne 7, 3) := by decide +kernel
theorem dL_stalls_342 : decode cL_stalls 342 = .ok (.iconst 1, 1) := by decide +kernel
theorem dL_stalls_343 : decode cL_stalls 343 = .ok (.goto 4, 3) := by decide +kernel
theorem dL_stalls_346 : decode cL_stalls 346 = .ok (.iconst 0, 1) := by decide +kernel
theorem dL_stalls_347 : decode cL_stalls 347 = .ok (.ireturn, 1) := by decide +kernel
theorem dL_book_0 : decode cL_book 0 = .ok (.aload_n 0, 1) := by decide +kernel
theorem dL_book_1 : decode cL_book 1 = .ok (.invokevirtual 231, 3) := by decide +kernel
theorem dL_book_4 : decode cL_book 4 = .ok (.istore_n 1, 1) := by decide +kernel
theorem dL_book_5 : decode cL_book 5 = .ok (.bipush (-13), 2) := by decide +kernel
theorem dL_book_7 : decode cL_book 7 = .ok (.istore_n 2, 1) := by decide +kernel
theorem dL_book_8 : decode cL_book 8 = .ok (.bipush (-13), 2) := by decide +kernel
theorem dL_book_10 : decode cL_book 10 = .ok (.istore_n 3, 1) := by decide +kernel
theorem dL_book_11 : decode cL_book 11 = .ok (.iconst 0, 1) := by decide +kernel
theorem dL_book_12 : decode cL_book 12 = .ok (.istore 4, 2) := by decide +kernel
theorem dL_book_14 : decode cL_book 14 = .ok (.sipush 200, 3) := by decide +kernel
theorem dL_book_17 : decode cL_book 17 = .ok (.newarray .int, 2) := by decide +kernel
theorem dL_book_19 : decode cL_book 19 = .ok (.astore 5, 2) := by decide +kernel
theorem dL_book_21 : decode cL_book 21 = .ok (.iconst 0, 1) := by decide +kernel
theorem dL_book_22 : decode cL_book 22 = .ok (.istore 6, 2) := by decide +kernel
theorem dL_book_24 : decode cL_book 24 = .ok (.iload 6, 2) := by decide +kernel
theorem dL_book_26 : decode cL_book 26 = .ok (.iload_n 1, 1) := by decide +kernel
theorem dL_book_27 : decode cL_book 27 = .ok (.if_icmp .ge 227, 3) := by decide +kernel
theorem dL_book_30 : decode cL_book 30 = .ok (.aload_n 0, 1) := by decide +kernel
theorem dL_book_31 : decode cL_book 31 = .ok (.iload 6, 2) := by decide +kernel
theorem dL_book_33 : decode cL_book 33 = .ok (.invokestatic 249, 3) := by decide +kernel
theorem dL_book_36 : decode cL_book 36 = .ok (.istore 7, 2) := by decide +kernel
theorem dL_book_38 : decode cL_book 38 = .ok (.aload_n 0, 1) := by decide +kernel
theorem dL_book_39 : decode cL_book 39 = .ok (.iload 7, 2) := by decide +kernel
theorem dL_book_41 : decode cL_book 41 = .ok (.invokestatic 251, 3) := by decide +kernel
theorem dL_book_44 : decode cL_book 44 = .ok (.iconst 1, 1) := by decide +kernel
theorem dL_book_45 : decode cL_book 45 = .ok (.if_icmp .ne 7, 3) := by decide +kernel
theorem dL_book_48 : decode cL_book 48 = .ok (.iconst 1, 1) := by decide +kernel
theorem dL_book_49 : decode cL_book 49 = .ok (.goto 4, 3) := by decide +kernel
theorem dL_book_52 : decode cL_book 52 = .ok (.iconst 0, 1) := by decide +kernel
theorem dL_book_53 : decode cL_book 53 = .ok (.istore 8, 2) := by decide +kernel
theorem dL_book_55 : decode cL_book 55 = .ok (.aload_n 0, 1) := by decide +kernel
theorem dL_book_56 : decode cL_book 56 = .ok (.iload 7, 2) := by decide +kernel
theorem dL_book_58 : decode cL_book 58 = .ok (.invokestatic 253, 3) := by decide +kernel
theorem dL_book_61 : decode cL_book 61 = .ok (.istore 9, 2) := by decide +kernel
theorem dL_book_63 : decode cL_book 63 = .ok (.iload 4, 2) := by decide +kernel
theorem dL_book_65 : decode cL_book 65 = .ok (.iload 8, 2) := by decide +kernel
theorem dL_book_67 : decode cL_book 67 = .ok (.ifCond .eq 7, 3) := by decide +kernel
theorem dL_book_70 : decode cL_book 70 = .ok (.iconst 1, 1) := by decide +kernel
theorem dL_book_71 : decode cL_book 71 = .ok (.goto 4, 3) := by decide +kernel
theorem dL_book_74 : decode cL_book 74 = .ok (.iconst 0, 1) := by decide +kernel
theorem dL_book_75 : decode cL_book 75 = .ok (.iadd, 1) := by decide +kernel
theorem dL_book_76 : decode cL_book 76 = .ok (.istore 4, 2) := by decide +kernel
theorem dL_book_78 : decode cL_book 78 = .ok (.aload 5, 2) := by decide +kernel
theorem dL_book_80 : decode cL_book 80 = .ok (.iload 8, 2) := by decide +kernel
theorem dL_book_82 : decode cL_book 82 = .ok (.ifCond .eq 8, 3) := by decide +kernel
theorem dL_book_85 : decode cL_book 85 = .ok (.iload 9, 2) := by decide +kernel
theorem dL_book_87 : decode cL_book 87 = .ok (.goto 8, 3) := by decide +kernel
theorem dL_book_90 : decode cL_book 90 = .ok (.bipush 100, 2) := by decide +kernel
theorem dL_book_92 : decode cL_book 92 = .ok (.iload 9, 2) := by decide +kernel
theorem dL_book_94 : decode cL_book 94 = .ok (.iadd, 1) := by decide +kernel
theorem dL_book_95 : decode cL_book 95 = .ok (.dup2, 1) := by decide +kernel
theorem dL_book_96 : decode cL_book 96 = .ok (.iaload, 1) := by decide +kernel
theorem dL_book_97 : decode cL_book 97 = .ok (.aload_n 0, 1) := by decide +kernel
theorem dL_book_98 : decode cL_book 98 = .ok (.iload 7, 2) := by decide +kernel
theorem dL_book_100 : decode cL_book 100 = .ok (.invokestatic 255, 3) := by decide +kernel
theorem dL_book_103 : decode cL_book 103 = .ok (.iadd, 1) := by decide +kernel
theorem dL_book_104 : decode cL_book 104 = .ok (.iastore, 1) := by decide +kernel
theorem dL_book_105 : decode cL_book 105 = .ok (.iload 8, 2) := by decide +kernel
theorem dL_book_107 : decode cL_book 107 = .ok (.ifCond .eq 22, 3) := by decide +kernel
theorem dL_book_110 : decode cL_book 110 = .ok (.iload_n 2, 1) := by decide +kernel
theorem dL_book_111 : decode cL_book 111 = .ok (.ifCond .lt 13, 3) := by decide +kernel
theorem dL_book_114 : decode cL_book 114 = .ok (.iload 9, 2) := by decide +kernel
theorem dL_book_116 : decode cL_book 116 = .ok (.aload_n 0, 1) := by decide +kernel
theorem dL_book_117 : decode cL_book 117 = .ok (.iload_n 2, 1) := by decide +kernel
theorem dL_book_118 : decode cL_book 118 = .ok (.invokestatic 253, 3) := by decide +kernel
theorem dL_book_121 : decode cL_book 121 = .ok (.if_icmp .le 8, 3) := by decide +kernel
theorem dL_book_124 : decode cL_book 124 = .ok (.iload 7, 2) := by decide +kernel
theorem dL_book_126 : decode cL_book 126 = .ok (.goto 4, 3) := by decide +kernel
theorem dL_book_129 : decode cL_book 129 = .ok (.iload_n 2, 1) := by decide +kernel
theorem dL_book_130 : decode cL_book 130 = .ok (.istore_n 2, 1) := by decide +kernel
theorem dL_book_131 : decode cL_book 131 = .ok (.iload 8, 2) := by decide +kernel
theorem dL_book_133 : decode cL_book 133 = .ok (.ifCond .ne 22, 3) := by decide +kernel
theorem dL_book_136 : decode cL_book 136 = .ok (.iload_n 3, 1) := by decide +kernel
theorem dL_book_137 : decode cL_book 137 = .ok (.ifCond .lt 13, 3) := by decide +kernel
theorem dL_book_140 : decode cL_book 140 = .ok (.iload 9, 2) := by decide +kernel
theorem dL_book_142 : decode cL_book 142 = .ok (.aload_n 0, 1) := by decide +kernel
theorem dL_book_143 : decode cL_book 143 = .ok (.iload_n 3, 1) := by decide +kernel
theorem dL_book_144 : decode cL_book 144 = .ok (.invokestatic 253, 3) := by decide +kernel
theorem dL_book_147 : decode cL_book 147 = .ok (.if_icmp .ge 8, 3) := by decide +kernel
theorem dL_book_150 : decode cL_book 150 = .ok (.iload 7, 2) := by decide +kernel
theorem dL_book_152 : decode cL_book 152 = .ok (.goto 4, 3) := by decide +kernel
theorem dL_book_155 : decode cL_book 155 = .ok (.iload_n 3, 1) := by decide +kernel
theorem dL_book_156 : decode cL_book 156 = .ok (.istore_n 3, 1) := by decide +kernel
theorem dL_book_157 : decode cL_book 157 = .ok (.aload_n 0, 1) := by decide +kernel
theorem dL_book_158 : decode cL_book 158 = .ok (.iload 7, 2) := by decide +kernel
theorem dL_book_160 : decode cL_book 160 = .ok (.invokestatic 257, 3) := by decide +kernel
theorem dL_book_163 : decode cL_book 163 = .ok (.istore 10, 2) := by decide +kernel
theorem dL_book_165 : decode cL_book 165 = .ok (.iload 6, 2) := by decide +kernel
theorem dL_book_167 : decode cL_book 167 = .ok (.ifCond .le 16, 3) := by decide +kernel
theorem dL_book_170 : decode cL_book 170 = .ok (.aload_n 0, 1) := by decide +kernel
theorem dL_book_171 : decode cL_book 171 = .ok (.iload 6, 2) := by decide +kernel
theorem dL_book_173 : decode cL_book 173 = .ok (.iconst 1, 1) := by decide +kernel
theorem dL_book_174 : decode cL_book 174 = .ok (.isub, 1) := by decide +kernel
theorem dL_book_175 : decode cL_book 175 = .ok (.invokestatic 249, 3) := by decide +kernel
theorem dL_book_178 : decode cL_book 178 = .ok (.iload 7, 2) := by decide +kernel
theorem dL_book_180 : decode cL_book 180 = .ok (.if_icmp .ge 66, 3) := by decide +kernel
theorem dL_book_183 : decode cL_book 183 = .ok (.iload 9, 2) := by decide +kernel
theorem dL_book_185 : decode cL_book 185 = .ok (.iconst 1, 1) := by decide +kernel
theorem dL_book_186 : decode cL_book 186 = .ok (.if_icmp .lt 60, 3) := by decide +kernel
theorem dL_book_189 : decode cL_book 189 = .ok (.iload 9, 2) := by decide +kernel
theorem dL_book_191 : decode cL_book 191 = .ok (.bipush 99, 2) := by decide +kernel
theorem dL_book_193 : decode cL_book 193 = .ok (.if_icmp .gt 53, 3) := by decide +kernel
theorem dL_book_196 : decode cL_book 196 = .ok (.aload_n 0, 1) := by decide +kernel
theorem dL_book_197 : decode cL_book 197 = .ok (.iload 7, 2) := by decide +kernel
theorem dL_book_199 : decode cL_book 199 = .ok (.invokestatic 255, 3) := by decide +kernel
theorem dL_book_202 : decode cL_book 202 = .ok (.iconst 1, 1) := by decide +kernel
theorem dL_book_203 : decode cL_book 203 = .ok (.if_icmp .lt 43, 3) := by decide +kernel
theorem dL_book_206 : decode cL_book 206 = .ok (.aload_n 0, 1) := by decide +kernel
theorem dL_book_207 : decode cL_book 207 = .ok (.iload 7, 2) := by decide +kernel
theorem dL_book_209 : decode cL_book 209 = .ok (.invokestatic 255, 3) := by decide +kernel
theorem dL_book_212 : decode cL_book 212 = .ok (.bipush 50, 2) := by decide +kernel
theorem dL_book_214 : decode cL_book 214 = .ok (.if_icmp .gt 32, 3) := by decide +kernel
theorem dL_book_217 : decode cL_book 217 = .ok (.aload_n 0, 1) := by decide +kernel
theorem dL_book_218 : decode cL_book 218 = .ok (.iload 7, 2) := by decide +kernel
theorem dL_book_220 : decode cL_book 220 = .ok (.invokestatic 259, 3) := by decide +kernel
theorem dL_book_223 : decode cL_book 223 = .ok (.ifCond .lt 23, 3) := by decide +kernel
theorem dL_book_226 : decode cL_book 226 = .ok (.iload 10, 2) := by decide +kernel
theorem dL_book_228 : decode cL_book 228 = .ok (.bipush (-14), 2) := by decide +kernel
theorem dL_book_230 : decode cL_book 230 = .ok (.if_icmp .eq 18, 3) := by decide +kernel
theorem dL_book_233 : decode cL_book 233 = .ok (.iload 10, 2) := by decide +kernel
theorem dL_book_235 : decode cL_book 235 = .ok (.iconst 1, 1) := by decide +kernel
theorem dL_book_236 : decode cL_book 236 = .ok (.if_icmp .lt 10, 3) := by decide +kernel
theorem dL_book_239 : decode cL_book 239 = .ok (.iload 10, 2) := by decide +kernel
theorem dL_book_241 : decode cL_book 241 = .ok (.bipush 60, 2) := by decide +kernel
theorem dL_book_243 : decode cL_book 243 = .ok (.if_icmp .le 5, 3) := by decide +kernel
theorem dL_book_246 : decode cL_book 246 = .ok (.iconst 0, 1) := by decide +kernel
theorem dL_book_247 : decode cL_book 247 = .ok (.ireturn, 1) := by decide +kernel
theorem dL_book_248 : decode cL_book 248 = .ok (.iinc 6 1, 3) := by decide +kernel
theorem dL_book_251 : decode cL_book 251 = .ok (.goto (-227), 3) := by decide +kernel
theorem dL_book_254 : decode cL_book 254 = .ok (.iconst 1, 1) := by decide +kernel
theorem dL_book_255 : decode cL_book 255 = .ok (.istore 6, 2) := by decide +kernel
theorem dL_book_257 : decode cL_book 257 = .ok (.iload 6, 2) := by decide +kernel
theorem dL_book_259 : decode cL_book 259 = .ok (.bipush 100, 2) := by decide +kernel
theorem dL_book_261 : decode cL_book 261 = .ok (.if_icmp .ge 42, 3) := by decide +kernel
theorem dL_book_264 : decode cL_book 264 = .ok (.aload_n 0, 1) := by decide +kernel
theorem dL_book_265 : decode cL_book 265 = .ok (.iload 6, 2) := by decide +kernel
theorem dL_book_267 : decode cL_book 267 = .ok (.invokestatic 261, 3) := by decide +kernel
theorem dL_book_270 : decode cL_book 270 = .ok (.aload 5, 2) := by decide +kernel
theorem dL_book_272 : decode cL_book 272 = .ok (.iload 6, 2) := by decide +kernel
theorem dL_book_274 : decode cL_book 274 = .ok (.iaload, 1) := by decide +kernel
theorem dL_book_275 : decode cL_book 275 = .ok (.if_icmp .ne 20, 3) := by decide +kernel
theorem dL_book_278 : decode cL_book 278 = .ok (.aload_n 0, 1) := by decide +kernel
theorem dL_book_279 : decode cL_book 279 = .ok (.iload 6, 2) := by decide +kernel
theorem dL_book_281 : decode cL_book 281 = .ok (.invokestatic 263, 3) := by decide +kernel
theorem dL_book_284 : decode cL_book 284 = .ok (.aload 5, 2) := by decide +kernel
theorem dL_book_286 : decode cL_book 286 = .ok (.bipush 100, 2) := by decide +kernel
theorem dL_book_288 : decode cL_book 288 = .ok (.iload 6, 2) := by decide +kernel
theorem dL_book_290 : decode cL_book 290 = .ok (.iadd, 1) := by decide +kernel
theorem dL_book_291 : decode cL_book 291 = .ok (.iaload, 1) := by decide +kernel
theorem dL_book_292 : decode cL_book 292 = .ok (.if_icmp .eq 5, 3) := by decide +kernel
theorem dL_book_295 : decode cL_book 295 = .ok (.iconst 0, 1) := by decide +kernel
theorem dL_book_296 : decode cL_book 296 = .ok (.ireturn, 1) := by decide +kernel
theorem dL_book_297 : decode cL_book 297 = .ok (.iinc 6 1, 3) := by decide +kernel
theorem dL_book_300 : decode cL_book 300 = .ok (.goto (-43), 3) := by decide +kernel
theorem dL_book_303 : decode cL_book 303 = .ok (.iload_n 2, 1) := by decide +kernel
theorem dL_book_304 : decode cL_book 304 = .ok (.ifCond .lt 7, 3) := by decide +kernel
theorem dL_book_307 : decode cL_book 307 = .ok (.iload_n 3, 1) := by decide +kernel
theorem dL_book_308 : decode cL_book 308 = .ok (.ifCond .ge 9, 3) := by decide +kernel
theorem dL_book_311 : decode cL_book 311 = .ok (.sipush (-1300), 3) := by decide +kernel
theorem dL_book_314 : decode cL_book 314 = .ok (.goto 14, 3) := by decide +kernel
theorem dL_book_317 : decode cL_book 317 = .ok (.aload_n 0, 1) := by decide +kernel
theorem dL_book_318 : decode cL_book 318 = .ok (.iload_n 3, 1) := by decide +kernel
theorem dL_book_319 : decode cL_book 319 = .ok (.invokestatic 253, 3) := by decide +kernel
theorem dL_book_322 : decode cL_book 322 = .ok (.aload_n 0, 1) := by decide +kernel
theorem dL_book_323 : decode cL_book 323 = .ok (.iload_n 2, 1) := by decide +kernel
theorem dL_book_324 : decode cL_book 324 = .ok (.invokestatic 253, 3) := by decide +kernel
theorem dL_book_327 : decode cL_book 327 = .ok (.isub, 1) := by decide +kernel
theorem dL_book_328 : decode cL_book 328 = .ok (.istore 6, 2) := by decide +kernel
theorem dL_book_330 : decode cL_book 330 = .ok (.iload_n 1, 1) := by decide +kernel
theorem dL_book_331 : decode cL_book 331 = .ok (.ifCond .eq 17, 3) := by decide +kernel
theorem dL_book_334 : decode cL_book 334 = .ok (.aload_n 0, 1) := by decide +kernel
theorem dL_book_335 : decode cL_book 335 = .ok (.invokevirtual 265, 3) := by decide +kernel
theorem dL_book_338 : decode cL_book 338 = .ok (.iload 4, 2) := by decide +kernel
theorem dL_book_340 : decode cL_book 340 = .ok (.i2f, 1) := by decide +kernel
theorem dL_book_341 : decode cL_book 341 = .ok (.iload_n 1, 1) := by decide +kernel
theorem dL_book_342 : decode cL_book 342 = .ok (.i2f, 1) := by decide +kernel
theorem dL_book_343 : decode cL_book 343 = .ok (.fdiv, 1) := by decide +kernel
theorem dL_book_344 : decode cL_book 344 = .ok (.fcmp .l, 1) := by decide +kernel
theorem dL_book_345 : decode cL_book 345 = .ok (.ifCond .ne 7, 3) := by decide +kernel
theorem dL_book_348 : decode cL_book 348 = .ok (.iconst 1, 1) := by decide +kernel
theorem dL_book_349 : decode cL_book 349 = .ok (.goto 4, 3) := by decide +kernel
theorem dL_book_352 : decode cL_book 352 = .ok (.iconst 0, 1) := by decide +kernel
theorem dL_book_353 : decode cL_book 353 = .ok (.istore 7, 2) := by decide +kernel
theorem dL_book_355 : decode cL_book 355 = .ok (.iload 7, 2) := by decide +kernel
theorem dL_book_357 : decode cL_book 357 = .ok (.ifCond .eq 67, 3) := by decide +kernel
theorem dL_book_360 : decode cL_book 360 = .ok (.iload_n 1, 1) := by decide +kernel
theorem dL_book_361 : decode cL_book 361 = .ok (.bipush 20, 2) := by decide +kernel
theorem dL_book_363 : decode cL_book 363 = .ok (.if_icmp .gt 61, 3) := by decide +kernel
theorem dL_book_366 : decode cL_book 366 = .ok (.aload_n 0, 1) := by decide +kernel
theorem dL_book_367 : decode cL_book 367 = .ok (.invokestatic 269, 3) := by decide +kernel
theorem dL_book_370 : decode cL_book 370 = .ok (.iload_n 2, 1) := by decide +kernel
theorem dL_book_371 : decode cL_book 371 = .ok (.if_icmp .ne 53, 3) := by decide +kernel
theorem dL_book_374 : decode cL_book 374 = .ok (.aload_n 0, 1) := by decide +kernel
theorem dL_book_375 : decode cL_book 375 = .ok (.invokestatic 271, 3) := by decide +kernel
theorem dL_book_378 : decode cL_book 378 = .ok (.iload_n 3, 1) := by decide +kernel
theorem dL_book_379 : decode cL_book 379 = .ok (.if_icmp .ne 45, 3) := by decide +kernel
theorem dL_book_382 : decode cL_book 382 = .ok (.aload_n 0, 1) := by decide +kernel
theorem dL_book_383 : decode cL_book 383 = .ok (.invokestatic 273, 3) := by decide +kernel
theorem dL_book_386 : decode cL_book 386 = .ok (.iload 6, 2) := by decide +kernel
theorem dL_book_388 : decode cL_book 388 = .ok (.if_icmp .ne 36, 3) := by decide +kernel
theorem dL_book_391 : decode cL_book 391 = .ok (.aload_n 0, 1) := by decide +kernel
theorem dL_book_392 : decode cL_book 392 = .ok (.invokestatic 275, 3) := by decide +kernel
theorem dL_book_395 : decode cL_book 395 = .ok (.iload 6, 2) := by decide +kernel
theorem dL_book_397 : decode cL_book 397 = .ok (.if_icmp .ne 27, 3) := by decide +kernel
theorem dL_book_400 : decode cL_book 400 = .ok (.aload_n 0, 1) := by decide +kernel
theorem dL_book_401 : decode cL_book 401 = .ok (.invokevirtual 191, 3) := by decide +kernel
theorem dL_book_404 : decode cL_book 404 = .ok (.ifCond .ne 16, 3) := by decide +kernel
theorem dL_book_407 : decode cL_book 407 = .ok (.iload 6, 2) := by decide +kernel
theorem dL_book_409 : decode cL_book 409 = .ok (.sipush (-1300), 3) := by decide +kernel
theorem dL_book_412 : decode cL_book 412 = .ok (.if_icmp .eq 8, 3) := by decide +kernel
theorem dL_book_415 : decode cL_book 415 = .ok (.iload 6, 2) := by decide +kernel
theorem dL_book_417 : decode cL_book 417 = .ok (.ifCond .le 7, 3) := by decide +kernel
theorem dL_book_420 : decode cL_book 420 = .ok (.iconst 1, 1) := by decide +kernel
theorem dL_book_421 : decode cL_book 421 = .ok (.goto 4, 3) := by decide +kernel
theorem dL_book_424 : decode cL_book 424 = .ok (.iconst 0, 1) := by decide +kernel
theorem dL_book_425 : decode cL_book 425 = .ok (.istore 8, 2) := by decide +kernel
theorem dL_book_427 : decode cL_book 427 = .ok (.iload 8, 2) := by decide +kernel
theorem dL_book_429 : decode cL_book 429 = .ok (.ifCond .eq 127, 3) := by decide +kernel
theorem dL_book_432 : decode cL_book 432 = .ok (.aload_n 0, 1) := by decide +kernel
theorem dL_book_433 : decode cL_book 433 = .ok (.iload_n 1, 1) := by decide +kernel
theorem dL_book_434 : decode cL_book 434 = .ok (.invokestatic 249, 3) := by decide +kernel
theorem dL_book_437 : decode cL_book 437 = .ok (.bipush (-11), 2) := by decide +kernel
theorem dL_book_439 : decode cL_book 439 = .ok (.if_icmp .ne 117, 3) := by decide +kernel
theorem dL_book_442 : decode cL_book 442 = .ok (.aload_n 0, 1) := by decide +kernel
theorem dL_book_443 : decode cL_book 443 = .ok (.iconst (-1), 1) := by decide +kernel
theorem dL_book_444 : decode cL_book 444 = .ok (.invokestatic 249, 3) := by decide +kernel
theorem dL_book_447 : decode cL_book 447 = .ok (.bipush (-11), 2) := by decide +kernel
theorem dL_book_449 : decode cL_book 449 = .ok (.if_icmp .ne 107, 3) := by decide +kernel
theorem dL_book_452 : decode cL_book 452 = .ok (.aload_n 0, 1) := by decide +kernel
theorem dL_book_453 : decode cL_book 453 = .ok (.sipush 9999, 3) := by decide +kernel
theorem dL_book_456 : decode cL_book 456 = .ok (.invokestatic 259, 3) := by decide +kernel
theorem dL_book_459 : decode cL_book 459 = .ok (.bipush (-13), 2) := by decide +kernel
theorem dL_book_461 : decode cL_book 461 = .ok (.if_icmp .ne 95, 3) := by decide +kernel
theorem dL_book_464 : decode cL_book 464 = .ok (.aload_n 0, 1) := by decide +kernel
theorem dL_book_465 : decode cL_book 465 = .ok (.iconst (-1), 1) := by decide +kernel
theorem dL_book_466 : decode cL_book 466 = .ok (.invokestatic 251, 3) := by decide +kernel
theorem dL_book_469 : decode cL_book 469 = .ok (.bipush (-13), 2) := by decide +kernel
theorem dL_book_471 : decode cL_book 471 = .ok (.if_icmp .ne 85, 3) := by decide +kernel
theorem dL_book_474 : decode cL_book 474 = .ok (.aload_n 0, 1) := by decide +kernel
theorem dL_book_475 : decode cL_book 475 = .ok (.sipush 9999, 3) := by decide +kernel
theorem dL_book_478 : decode cL_book 478 = .ok (.invokestatic 253, 3) := by decide +kernel
theorem dL_book_481 : decode cL_book 481 = .ok (.bipush (-13), 2) := by decide +kernel
theorem dL_book_483 : decode cL_book 483 = .ok (.if_icmp .ne 73, 3) := by decide +kernel
theorem dL_book_486 : decode cL_book 486 = .ok (.aload_n 0, 1) := by decide +kernel
theorem dL_book_487 : decode cL_book 487 = .ok (.sipush 9999, 3) := by decide +kernel
theorem dL_book_490 : decode cL_book 490 = .ok (.invokestatic 255, 3) := by decide +kernel
theorem dL_book_493 : decode cL_book 493 = .ok (.bipush (-13), 2) := by decide +kernel
theorem dL_book_495 : decode cL_book 495 = .ok (.if_icmp .ne 61, 3) := by decide +kernel
theorem dL_book_498 : decode cL_book 498 = .ok (.aload_n 0, 1) := by decide +kernel
theorem dL_book_499 : decode cL_book 499 = .ok (.sipush 9999, 3) := by decide +kernel
theorem dL_book_502 : decode cL_book 502 = .ok (.invokestatic 257, 3) := by decide +kernel
theorem dL_book_505 : decode cL_book 505 = .ok (.bipush (-13), 2) := by decide +kernel
theorem dL_book_507 : decode cL_book 507 = .ok (.if_icmp .ne 49, 3) := by decide +kernel
theorem dL_book_510 : decode cL_book 510 = .ok (.aload_n 0, 1) := by decide +kernel
theorem dL_book_511 : decode cL_book 511 = .ok (.iconst 0, 1) := by decide +kernel
theorem dL_book_512 : decode cL_book 512 = .ok (.invokestatic 261, 3) := by decide +kernel
theorem dL_book_515 : decode cL_book 515 = .ok (.bipush (-12), 2) := by decide +kernel
theorem dL_book_517 : decode cL_book 517 = .ok (.if_icmp .ne 39, 3) := by decide +kernel
theorem dL_book_520 : decode cL_book 520 = .ok (.aload_n 0, 1) := by decide +kernel
theorem dL_book_521 : decode cL_book 521 = .ok (.bipush 100, 2) := by decide +kernel
theorem dL_book_523 : decode cL_book 523 = .ok (.invokestatic 261, 3) := by decide +kernel
theorem dL_book_526 : decode cL_book 526 = .ok (.bipush (-12), 2) := by decide +kernel
theorem dL_book_528 : decode cL_book 528 = .ok (.if_icmp .ne 28, 3) := by decide +kernel
theorem dL_book_531 : decode cL_book 531 = .ok (.aload_n 0, 1) := by decide +kernel
theorem dL_book_532 : decode cL_book 532 = .ok (.iconst 0, 1) := by decide +kernel
theorem dL_book_533 : decode cL_book 533 = .ok (.invokestatic 263, 3) := by decide +kernel
theorem dL_book_536 : decode cL_book 536 = .ok (.bipush (-12), 2) := by decide +kernel
theorem dL_book_538 : decode cL_book 538 = .ok (.if_icmp .ne 18, 3) := by decide +kernel
theorem dL_book_541 : decode cL_book 541 = .ok (.aload_n 0, 1) := by decide +kernel
theorem dL_book_542 : decode cL_book 542 = .ok (.bipush 100, 2) := by decide +kernel
theorem dL_book_544 : decode cL_book 544 = .ok (.invokestatic 263, 3) := by decide +kernel
theorem dL_book_547 : decode cL_book 547 = .ok (.bipush (-12), 2) := by decide +kernel
theorem dL_book_549 : decode cL_book 549 = .ok (.if_icmp .ne 7, 3) := by decide +kernel
theorem dL_book_552 : decode cL_book 552 = .ok (.iconst 1, 1) := by decide +kernel
theorem dL_book_553 : decode cL_book 553 = .ok (.goto 4, 3) := by decide +kernel
theorem dL_book_556 : decode cL_book 556 = .ok (.iconst 0, 1) := by decide +kernel
theorem dL_book_557 : decode cL_book 557 = .ok (.ireturn, 1) := by decide +kernel
