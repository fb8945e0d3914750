/-! The law: decode rows (pool, lines, sum) -/
theorem dL_pool_0 : decode cL_pool 0 = .ok (.bipush (-13), 2) := by decide +kernel
theorem dL_pool_2 : decode cL_pool 2 = .ok (.istore_n 1, 1) := by decide +kernel
theorem dL_pool_3 : decode cL_pool 3 = .ok (.iconst 0, 1) := by decide +kernel
theorem dL_pool_4 : decode cL_pool 4 = .ok (.istore_n 2, 1) := by decide +kernel
theorem dL_pool_5 : decode cL_pool 5 = .ok (.iconst 0, 1) := by decide +kernel
theorem dL_pool_6 : decode cL_pool 6 = .ok (.istore_n 3, 1) := by decide +kernel
theorem dL_pool_7 : decode cL_pool 7 = .ok (.bipush 99, 2) := by decide +kernel
theorem dL_pool_9 : decode cL_pool 9 = .ok (.istore 4, 2) := by decide +kernel
theorem dL_pool_11 : decode cL_pool 11 = .ok (.iload 4, 2) := by decide +kernel
theorem dL_pool_13 : decode cL_pool 13 = .ok (.ifCond .le 192, 3) := by decide +kernel
theorem dL_pool_16 : decode cL_pool 16 = .ok (.iconst 0, 1) := by decide +kernel
theorem dL_pool_17 : decode cL_pool 17 = .ok (.istore 5, 2) := by decide +kernel
theorem dL_pool_19 : decode cL_pool 19 = .ok (.iconst 0, 1) := by decide +kernel
theorem dL_pool_20 : decode cL_pool 20 = .ok (.istore 6, 2) := by decide +kernel
theorem dL_pool_22 : decode cL_pool 22 = .ok (.iconst 1, 1) := by decide +kernel
theorem dL_pool_23 : decode cL_pool 23 = .ok (.istore 7, 2) := by decide +kernel
theorem dL_pool_25 : decode cL_pool 25 = .ok (.iload 7, 2) := by decide +kernel
theorem dL_pool_27 : decode cL_pool 27 = .ok (.bipush 100, 2) := by decide +kernel
theorem dL_pool_29 : decode cL_pool 29 = .ok (.if_icmp .ge 53, 3) := by decide +kernel
theorem dL_pool_32 : decode cL_pool 32 = .ok (.iload 5, 2) := by decide +kernel
theorem dL_pool_34 : decode cL_pool 34 = .ok (.iload 7, 2) := by decide +kernel
theorem dL_pool_36 : decode cL_pool 36 = .ok (.iload 4, 2) := by decide +kernel
theorem dL_pool_38 : decode cL_pool 38 = .ok (.if_icmp .lt 12, 3) := by decide +kernel
theorem dL_pool_41 : decode cL_pool 41 = .ok (.aload_n 0, 1) := by decide +kernel
theorem dL_pool_42 : decode cL_pool 42 = .ok (.iload 7, 2) := by decide +kernel
theorem dL_pool_44 : decode cL_pool 44 = .ok (.invokevirtual 104, 3) := by decide +kernel
theorem dL_pool_47 : decode cL_pool 47 = .ok (.goto 4, 3) := by decide +kernel
theorem dL_pool_50 : decode cL_pool 50 = .ok (.iconst 0, 1) := by decide +kernel
theorem dL_pool_51 : decode cL_pool 51 = .ok (.iadd, 1) := by decide +kernel
theorem dL_pool_52 : decode cL_pool 52 = .ok (.istore 5, 2) := by decide +kernel
theorem dL_pool_54 : decode cL_pool 54 = .ok (.iload 6, 2) := by decide +kernel
theorem dL_pool_56 : decode cL_pool 56 = .ok (.iload 7, 2) := by decide +kernel
theorem dL_pool_58 : decode cL_pool 58 = .ok (.iload 4, 2) := by decide +kernel
theorem dL_pool_60 : decode cL_pool 60 = .ok (.if_icmp .gt 12, 3) := by decide +kernel
theorem dL_pool_63 : decode cL_pool 63 = .ok (.aload_n 0, 1) := by decide +kernel
theorem dL_pool_64 : decode cL_pool 64 = .ok (.iload 7, 2) := by decide +kernel
theorem dL_pool_66 : decode cL_pool 66 = .ok (.invokevirtual 107, 3) := by decide +kernel
theorem dL_pool_69 : decode cL_pool 69 = .ok (.goto 4, 3) := by decide +kernel
theorem dL_pool_72 : decode cL_pool 72 = .ok (.iconst 0, 1) := by decide +kernel
theorem dL_pool_73 : decode cL_pool 73 = .ok (.iadd, 1) := by decide +kernel
theorem dL_pool_74 : decode cL_pool 74 = .ok (.istore 6, 2) := by decide +kernel
theorem dL_pool_76 : decode cL_pool 76 = .ok (.iinc 7 1, 3) := by decide +kernel
theorem dL_pool_79 : decode cL_pool 79 = .ok (.goto (-54), 3) := by decide +kernel
theorem dL_pool_82 : decode cL_pool 82 = .ok (.iload 5, 2) := by decide +kernel
theorem dL_pool_84 : decode cL_pool 84 = .ok (.iload 6, 2) := by decide +kernel
theorem dL_pool_86 : decode cL_pool 86 = .ok (.if_icmp .ge 8, 3) := by decide +kernel
theorem dL_pool_89 : decode cL_pool 89 = .ok (.iload 5, 2) := by decide +kernel
theorem dL_pool_91 : decode cL_pool 91 = .ok (.goto 5, 3) := by decide +kernel
theorem dL_pool_94 : decode cL_pool 94 = .ok (.iload 6, 2) := by decide +kernel
theorem dL_pool_96 : decode cL_pool 96 = .ok (.istore 7, 2) := by decide +kernel
theorem dL_pool_98 : decode cL_pool 98 = .ok (.iload 5, 2) := by decide +kernel
theorem dL_pool_100 : decode cL_pool 100 = .ok (.iload 6, 2) := by decide +kernel
theorem dL_pool_102 : decode cL_pool 102 = .ok (.if_icmp .ge 11, 3) := by decide +kernel
theorem dL_pool_105 : decode cL_pool 105 = .ok (.iload 6, 2) := by decide +kernel
theorem dL_pool_107 : decode cL_pool 107 = .ok (.iload 5, 2) := by decide +kernel
theorem dL_pool_109 : decode cL_pool 109 = .ok (.isub, 1) := by decide +kernel
theorem dL_pool_110 : decode cL_pool 110 = .ok (.goto 8, 3) := by decide +kernel
theorem dL_pool_113 : decode cL_pool 113 = .ok (.iload 5, 2) := by decide +kernel
theorem dL_pool_115 : decode cL_pool 115 = .ok (.iload 6, 2) := by decide +kernel
theorem dL_pool_117 : decode cL_pool 117 = .ok (.isub, 1) := by decide +kernel
theorem dL_pool_118 : decode cL_pool 118 = .ok (.istore 8, 2) := by decide +kernel
theorem dL_pool_120 : decode cL_pool 120 = .ok (.iload 7, 2) := by decide +kernel
theorem dL_pool_122 : decode cL_pool 122 = .ok (.iload_n 2, 1) := by decide +kernel
theorem dL_pool_123 : decode cL_pool 123 = .ok (.if_icmp .gt 20, 3) := by decide +kernel
theorem dL_pool_126 : decode cL_pool 126 = .ok (.iload 7, 2) := by decide +kernel
theorem dL_pool_128 : decode cL_pool 128 = .ok (.iload_n 2, 1) := by decide +kernel
theorem dL_pool_129 : decode cL_pool 129 = .ok (.if_icmp .ne 18, 3) := by decide +kernel
theorem dL_pool_132 : decode cL_pool 132 = .ok (.iload 7, 2) := by decide +kernel
theorem dL_pool_134 : decode cL_pool 134 = .ok (.ifCond .le 13, 3) := by decide +kernel
theorem dL_pool_137 : decode cL_pool 137 = .ok (.iload 8, 2) := by decide +kernel
theorem dL_pool_139 : decode cL_pool 139 = .ok (.iload_n 3, 1) := by decide +kernel
theorem dL_pool_140 : decode cL_pool 140 = .ok (.if_icmp .gt 7, 3) := by decide +kernel
theorem dL_pool_143 : decode cL_pool 143 = .ok (.iconst 1, 1) := by decide +kernel
theorem dL_pool_144 : decode cL_pool 144 = .ok (.goto 4, 3) := by decide +kernel
theorem dL_pool_147 : decode cL_pool 147 = .ok (.iconst 0, 1) := by decide +kernel
theorem dL_pool_148 : decode cL_pool 148 = .ok (.istore 9, 2) := by decide +kernel
theorem dL_pool_150 : decode cL_pool 150 = .ok (.iload 9, 2) := by decide +kernel
theorem dL_pool_152 : decode cL_pool 152 = .ok (.ifCond .eq 8, 3) := by decide +kernel
theorem dL_pool_155 : decode cL_pool 155 = .ok (.iload 4, 2) := by decide +kernel
theorem dL_pool_157 : decode cL_pool 157 = .ok (.goto 4, 3) := by decide +kernel
theorem dL_pool_160 : decode cL_pool 160 = .ok (.iload_n 1, 1) := by decide +kernel
theorem dL_pool_161 : decode cL_pool 161 = .ok (.istore_n 1, 1) := by decide +kernel
theorem dL_pool_162 : decode cL_pool 162 = .ok (.iload 9, 2) := by decide +kernel
theorem dL_pool_164 : decode cL_pool 164 = .ok (.ifCond .eq 8, 3) := by decide +kernel
theorem dL_pool_167 : decode cL_pool 167 = .ok (.iload 8, 2) := by decide +kernel
theorem dL_pool_169 : decode cL_pool 169 = .ok (.goto 4, 3) := by decide +kernel
theorem dL_pool_172 : decode cL_pool 172 = .ok (.iload_n 3, 1) := by decide +kernel
theorem dL_pool_173 : decode cL_pool 173 = .ok (.istore_n 3, 1) := by decide +kernel
theorem dL_pool_174 : decode cL_pool 174 = .ok (.iload 9, 2) := by decide +kernel
theorem dL_pool_176 : decode cL_pool 176 = .ok (.ifCond .eq 8, 3) := by decide +kernel
theorem dL_pool_179 : decode cL_pool 179 = .ok (.iload 7, 2) := by decide +kernel
theorem dL_pool_181 : decode cL_pool 181 = .ok (.goto 4, 3) := by decide +kernel
theorem dL_pool_184 : decode cL_pool 184 = .ok (.iload_n 2, 1) := by decide +kernel
theorem dL_pool_185 : decode cL_pool 185 = .ok (.istore_n 2, 1) := by decide +kernel
theorem dL_pool_186 : decode cL_pool 186 = .ok (.aload_n 0, 1) := by decide +kernel
theorem dL_pool_187 : decode cL_pool 187 = .ok (.iload 4, 2) := by decide +kernel
theorem dL_pool_189 : decode cL_pool 189 = .ok (.invokestatic 277, 3) := by decide +kernel
theorem dL_pool_192 : decode cL_pool 192 = .ok (.iload 7, 2) := by decide +kernel
theorem dL_pool_194 : decode cL_pool 194 = .ok (.if_icmp .eq 5, 3) := by decide +kernel
theorem dL_pool_197 : decode cL_pool 197 = .ok (.iconst 0, 1) := by decide +kernel
theorem dL_pool_198 : decode cL_pool 198 = .ok (.ireturn, 1) := by decide +kernel
theorem dL_pool_199 : decode cL_pool 199 = .ok (.iinc 4 (-1), 3) := by decide +kernel
theorem dL_pool_202 : decode cL_pool 202 = .ok (.goto (-191), 3) := by decide +kernel
theorem dL_pool_205 : decode cL_pool 205 = .ok (.aload_n 0, 1) := by decide +kernel
theorem dL_pool_206 : decode cL_pool 206 = .ok (.invokevirtual 279, 3) := by decide +kernel
theorem dL_pool_209 : decode cL_pool 209 = .ok (.ifCond .eq 22, 3) := by decide +kernel
theorem dL_pool_212 : decode cL_pool 212 = .ok (.aload_n 0, 1) := by decide +kernel
theorem dL_pool_213 : decode cL_pool 213 = .ok (.invokevirtual 282, 3) := by decide +kernel
theorem dL_pool_216 : decode cL_pool 216 = .ok (.aload_n 0, 1) := by decide +kernel
theorem dL_pool_217 : decode cL_pool 217 = .ok (.invokevirtual 286, 3) := by decide +kernel
theorem dL_pool_220 : decode cL_pool 220 = .ok (.l2d, 1) := by decide +kernel
theorem dL_pool_221 : decode cL_pool 221 = .ok (.aload_n 0, 1) := by decide +kernel
theorem dL_pool_222 : decode cL_pool 222 = .ok (.invokevirtual 290, 3) := by decide +kernel
theorem dL_pool_225 : decode cL_pool 225 = .ok (.i2d, 1) := by decide +kernel
theorem dL_pool_226 : decode cL_pool 226 = .ok (.ddiv, 1) := by decide +kernel
theorem dL_pool_227 : decode cL_pool 227 = .ok (.dcmp .l, 1) := by decide +kernel
theorem dL_pool_228 : decode cL_pool 228 = .ok (.ifCond .ne 7, 3) := by decide +kernel
theorem dL_pool_231 : decode cL_pool 231 = .ok (.iconst 1, 1) := by decide +kernel
theorem dL_pool_232 : decode cL_pool 232 = .ok (.goto 4, 3) := by decide +kernel
theorem dL_pool_235 : decode cL_pool 235 = .ok (.iconst 0, 1) := by decide +kernel
theorem dL_pool_236 : decode cL_pool 236 = .ok (.istore 4, 2) := by decide +kernel
theorem dL_pool_238 : decode cL_pool 238 = .ok (.aload_n 0, 1) := by decide +kernel
theorem dL_pool_239 : decode cL_pool 239 = .ok (.invokevirtual 279, 3) := by decide +kernel
theorem dL_pool_242 : decode cL_pool 242 = .ok (.ifCond .ne 7, 3) := by decide +kernel
theorem dL_pool_245 : decode cL_pool 245 = .ok (.iconst 1, 1) := by decide +kernel
theorem dL_pool_246 : decode cL_pool 246 = .ok (.goto 4, 3) := by decide +kernel
theorem dL_pool_249 : decode cL_pool 249 = .ok (.iconst 0, 1) := by decide +kernel
theorem dL_pool_250 : decode cL_pool 250 = .ok (.aload_n 0, 1) := by decide +kernel
theorem dL_pool_251 : decode cL_pool 251 = .ok (.invokestatic 293, 3) := by decide +kernel
theorem dL_pool_254 : decode cL_pool 254 = .ok (.bipush (-13), 2) := by decide +kernel
theorem dL_pool_256 : decode cL_pool 256 = .ok (.if_icmp .ne 7, 3) := by decide +kernel
theorem dL_pool_259 : decode cL_pool 259 = .ok (.iconst 1, 1) := by decide +kernel
theorem dL_pool_260 : decode cL_pool 260 = .ok (.goto 4, 3) := by decide +kernel
theorem dL_pool_263 : decode cL_pool 263 = .ok (.iconst 0, 1) := by decide +kernel
theorem dL_pool_264 : decode cL_pool 264 = .ok (.if_icmp .ne 31, 3) := by decide +kernel
theorem dL_pool_267 : decode cL_pool 267 = .ok (.aload_n 0, 1) := by decide +kernel
theorem dL_pool_268 : decode cL_pool 268 = .ok (.invokevirtual 290, 3) := by decide +kernel
theorem dL_pool_271 : decode cL_pool 271 = .ok (.aload_n 0, 1) := by decide +kernel
theorem dL_pool_272 : decode cL_pool 272 = .ok (.invokevirtual 279, 3) := by decide +kernel
theorem dL_pool_275 : decode cL_pool 275 = .ok (.if_icmp .lt 20, 3) := by decide +kernel
theorem dL_pool_278 : decode cL_pool 278 = .ok (.aload_n 0, 1) := by decide +kernel
theorem dL_pool_279 : decode cL_pool 279 = .ok (.invokevirtual 286, 3) := by decide +kernel
theorem dL_pool_282 : decode cL_pool 282 = .ok (.aload_n 0, 1) := by decide +kernel
theorem dL_pool_283 : decode cL_pool 283 = .ok (.invokevirtual 290, 3) := by decide +kernel
theorem dL_pool_286 : decode cL_pool 286 = .ok (.i2l, 1) := by decide +kernel
theorem dL_pool_287 : decode cL_pool 287 = .ok (.lcmp, 1) := by decide +kernel
theorem dL_pool_288 : decode cL_pool 288 = .ok (.ifCond .lt 7, 3) := by decide +kernel
theorem dL_pool_291 : decode cL_pool 291 = .ok (.iconst 1, 1) := by decide +kernel
theorem dL_pool_292 : decode cL_pool 292 = .ok (.goto 4, 3) := by decide +kernel
theorem dL_pool_295 : decode cL_pool 295 = .ok (.iconst 0, 1) := by decide +kernel
theorem dL_pool_296 : decode cL_pool 296 = .ok (.istore 5, 2) := by decide +kernel
theorem dL_pool_298 : decode cL_pool 298 = .ok (.aload_n 0, 1) := by decide +kernel
theorem dL_pool_299 : decode cL_pool 299 = .ok (.invokestatic 295, 3) := by decide +kernel
theorem dL_pool_302 : decode cL_pool 302 = .ok (.iload_n 1, 1) := by decide +kernel
theorem dL_pool_303 : decode cL_pool 303 = .ok (.if_icmp .ne 53, 3) := by decide +kernel
theorem dL_pool_306 : decode cL_pool 306 = .ok (.aload_n 0, 1) := by decide +kernel
theorem dL_pool_307 : decode cL_pool 307 = .ok (.invokestatic 297, 3) := by decide +kernel
theorem dL_pool_310 : decode cL_pool 310 = .ok (.iload_n 1, 1) := by decide +kernel
theorem dL_pool_311 : decode cL_pool 311 = .ok (.if_icmp .ne 45, 3) := by decide +kernel
theorem dL_pool_314 : decode cL_pool 314 = .ok (.iload 4, 2) := by decide +kernel
theorem dL_pool_316 : decode cL_pool 316 = .ok (.ifCond .eq 40, 3) := by decide +kernel
theorem dL_pool_319 : decode cL_pool 319 = .ok (.iload 5, 2) := by decide +kernel
theorem dL_pool_321 : decode cL_pool 321 = .ok (.ifCond .eq 35, 3) := by decide +kernel
theorem dL_pool_324 : decode cL_pool 324 = .ok (.aload_n 0, 1) := by decide +kernel
theorem dL_pool_325 : decode cL_pool 325 = .ok (.iconst 0, 1) := by decide +kernel
theorem dL_pool_326 : decode cL_pool 326 = .ok (.invokestatic 277, 3) := by decide +kernel
theorem dL_pool_329 : decode cL_pool 329 = .ok (.bipush (-12), 2) := by decide +kernel
theorem dL_pool_331 : decode cL_pool 331 = .ok (.if_icmp .ne 25, 3) := by decide +kernel
theorem dL_pool_334 : decode cL_pool 334 = .ok (.aload_n 0, 1) := by decide +kernel
theorem dL_pool_335 : decode cL_pool 335 = .ok (.bipush 100, 2) := by decide +kernel
theorem dL_pool_337 : decode cL_pool 337 = .ok (.invokestatic 277, 3) := by decide +kernel
theorem dL_pool_340 : decode cL_pool 340 = .ok (.bipush (-12), 2) := by decide +kernel
theorem dL_pool_342 : decode cL_pool 342 = .ok (.if_icmp .ne 14, 3) := by decide +kernel
theorem dL_pool_345 : decode cL_pool 345 = .ok (.aload_n 0, 1) := by decide +kernel
theorem dL_pool_346 : decode cL_pool 346 = .ok (.invokevirtual 300, 3) := by decide +kernel
theorem dL_pool_349 : decode cL_pool 349 = .ok (.ifCond .eq 7, 3) := by decide +kernel
theorem dL_pool_352 : decode cL_pool 352 = .ok (.iconst 1, 1) := by decide +kernel
theorem dL_pool_353 : decode cL_pool 353 = .ok (.goto 4, 3) := by decide +kernel
theorem dL_pool_356 : decode cL_pool 356 = .ok (.iconst 0, 1) := by decide +kernel
theorem dL_pool_357 : decode cL_pool 357 = .ok (.ireturn, 1) := by decide +kernel
theorem dL_lines_0 : decode cL_lines 0 = .ok (.iconst 0, 1) := by decide +kernel
theorem dL_lines_1 : decode cL_lines 1 = .ok (.istore_n 1, 1) := by decide +kernel
theorem dL_lines_2 : decode cL_lines 2 = .ok (.iload_n 1, 1) := by decide +kernel
theorem dL_lines_3 : decode cL_lines 3 = .ok (.aload_n 0, 1) := by decide +kernel
theorem dL_lines_4 : decode cL_lines 4 = .ok (.invokevirtual 231, 3) := by decide +kernel
theorem dL_lines_7 : decode cL_lines 7 = .ok (.if_icmp .ge 87, 3) := by decide +kernel
theorem dL_lines_10 : decode cL_lines 10 = .ok (.aload_n 0, 1) := by decide +kernel
theorem dL_lines_11 : decode cL_lines 11 = .ok (.iload_n 1, 1) := by decide +kernel
theorem dL_lines_12 : decode cL_lines 12 = .ok (.invokevirtual 73, 3) := by decide +kernel
theorem dL_lines_15 : decode cL_lines 15 = .ok (.istore_n 2, 1) := by decide +kernel
theorem dL_lines_16 : decode cL_lines 16 = .ok (.new 305, 3) := by decide +kernel
theorem dL_lines_19 : decode cL_lines 19 = .ok (.dup, 1) := by decide +kernel
theorem dL_lines_20 : decode cL_lines 20 = .ok (.invokespecial 307, 3) := by decide +kernel
theorem dL_lines_23 : decode cL_lines 23 = .ok (.iload_n 2, 1) := by decide +kernel
theorem dL_lines_24 : decode cL_lines 24 = .ok (.invokevirtual 308, 3) := by decide +kernel
theorem dL_lines_27 : decode cL_lines 27 = .ok (.aload_n 0, 1) := by decide +kernel
theorem dL_lines_28 : decode cL_lines 28 = .ok (.iload_n 2, 1) := by decide +kernel
theorem dL_lines_29 : decode cL_lines 29 = .ok (.invokevirtual 79, 3) := by decide +kernel
theorem dL_lines_32 : decode cL_lines 32 = .ok (.ifCond .eq 9, 3) := by decide +kernel
theorem dL_lines_35 : decode cL_lines 35 = .ok (.ldc_w 312, 3) := by decide +kernel
theorem dL_lines_38 : decode cL_lines 38 = .ok (.goto 6, 3) := by decide +kernel
theorem dL_lines_41 : decode cL_lines 41 = .ok (.ldc_w 314, 3) := by decide +kernel
theorem dL_lines_44 : decode cL_lines 44 = .ok (.invokevirtual 316, 3) := by decide +kernel
theorem dL_lines_47 : decode cL_lines 47 = .ok (.aload_n 0, 1) := by decide +kernel
theorem dL_lines_48 : decode cL_lines 48 = .ok (.iload_n 2, 1) := by decide +kernel
theorem dL_lines_49 : decode cL_lines 49 = .ok (.invokevirtual 86, 3) := by decide +kernel
theorem dL_lines_52 : decode cL_lines 52 = .ok (.invokevirtual 308, 3) := by decide +kernel
theorem dL_lines_55 : decode cL_lines 55 = .ok (.ldc_w 319, 3) := by decide +kernel
theorem dL_lines_58 : decode cL_lines 58 = .ok (.invokevirtual 316, 3) := by decide +kernel
theorem dL_lines_61 : decode cL_lines 61 = .ok (.aload_n 0, 1) := by decide +kernel
theorem dL_lines_62 : decode cL_lines 62 = .ok (.iload_n 2, 1) := by decide +kernel
theorem dL_lines_63 : decode cL_lines 63 = .ok (.invokevirtual 83, 3) := by decide +kernel
theorem dL_lines_66 : decode cL_lines 66 = .ok (.invokevirtual 308, 3) := by decide +kernel
theorem dL_lines_69 : decode cL_lines 69 = .ok (.invokevirtual 321, 3) := by decide +kernel
theorem dL_lines_72 : decode cL_lines 72 = .ok (.astore_n 3, 1) := by decide +kernel
theorem dL_lines_73 : decode cL_lines 73 = .ok (.aload_n 0, 1) := by decide +kernel
theorem dL_lines_74 : decode cL_lines 74 = .ok (.aload_n 0, 1) := by decide +kernel
theorem dL_lines_75 : decode cL_lines 75 = .ok (.iload_n 2, 1) := by decide +kernel
theorem dL_lines_76 : decode cL_lines 76 = .ok (.invokestatic 325, 3) := by decide +kernel
theorem dL_lines_79 : decode cL_lines 79 = .ok (.aload_n 3, 1) := by decide +kernel
theorem dL_lines_80 : decode cL_lines 80 = .ok (.invokestatic 327, 3) := by decide +kernel
theorem dL_lines_83 : decode cL_lines 83 = .ok (.ifCond .ne 5, 3) := by decide +kernel
theorem dL_lines_86 : decode cL_lines 86 = .ok (.iconst 0, 1) := by decide +kernel
theorem dL_lines_87 : decode cL_lines 87 = .ok (.ireturn, 1) := by decide +kernel
theorem dL_lines_88 : decode cL_lines 88 = .ok (.iinc 1 1, 3) := by decide +kernel
theorem dL_lines_91 : decode cL_lines 91 = .ok (.goto (-89), 3) := by decide +kernel
theorem dL_lines_94 : decode cL_lines 94 = .ok (.aload_n 0, 1) := by decide +kernel
theorem dL_lines_95 : decode cL_lines 95 = .ok (.invokestatic 269, 3) := by decide +kernel
theorem dL_lines_98 : decode cL_lines 98 = .ok (.istore_n 1, 1) := by decide +kernel
theorem dL_lines_99 : decode cL_lines 99 = .ok (.aload_n 0, 1) := by decide +kernel
theorem dL_lines_100 : decode cL_lines 100 = .ok (.invokestatic 271, 3) := by decide +kernel
theorem dL_lines_103 : decode cL_lines 103 = .ok (.istore_n 2, 1) := by decide +kernel
theorem dL_lines_104 : decode cL_lines 104 = .ok (.iload_n 1, 1) := by decide +kernel
theorem dL_lines_105 : decode cL_lines 105 = .ok (.ifCond .ge 9, 3) := by decide +kernel
theorem dL_lines_108 : decode cL_lines 108 = .ok (.ldc_w 331, 3) := by decide +kernel
theorem dL_lines_111 : decode cL_lines 111 = .ok (.goto 39, 3) := by decide +kernel
theorem dL_lines_114 : decode cL_lines 114 = .ok (.new 305, 3) := by decide +kernel
theorem dL_lines_117 : decode cL_lines 117 = .ok (.dup, 1) := by decide +kernel
theorem dL_lines_118 : decode cL_lines 118 = .ok (.invokespecial 307, 3) := by decide +kernel
theorem dL_lines_121 : decode cL_lines 121 = .ok (.aload_n 0, 1) := by decide +kernel
theorem dL_lines_122 : decode cL_lines 122 = .ok (.aload_n 0, 1) := by decide +kernel
theorem dL_lines_123 : decode cL_lines 123 = .ok (.iload_n 1, 1) := by decide +kernel
theorem dL_lines_124 : decode cL_lines 124 = .ok (.invokevirtual 83, 3) := by decide +kernel
theorem dL_lines_127 : decode cL_lines 127 = .ok (.invokevirtual 104, 3) := by decide +kernel
theorem dL_lines_130 : decode cL_lines 130 = .ok (.invokevirtual 308, 3) := by decide +kernel
theorem dL_lines_133 : decode cL_lines 133 = .ok (.ldc_w 319, 3) := by decide +kernel
theorem dL_lines_136 : decode cL_lines 136 = .ok (.invokevirtual 316, 3) := by decide +kernel
theorem dL_lines_139 : decode cL_lines 139 = .ok (.aload_n 0, 1) := by decide +kernel
theorem dL_lines_140 : decode cL_lines 140 = .ok (.iload_n 1, 1) := by decide +kernel
theorem dL_lines_141 : decode cL_lines 141 = .ok (.invokevirtual 83, 3) := by decide +kernel
theorem dL_lines_144 : decode cL_lines 144 = .ok (.invokevirtual 308, 3) := by decide +kernel
theorem dL_lines_147 : decode cL_lines 147 = .ok (.invokevirtual 321, 3) := by decide +kernel
theorem dL_lines_150 : decode cL_lines 150 = .ok (.astore_n 3, 1) := by decide +kernel
theorem dL_lines_151 : decode cL_lines 151 = .ok (.new 305, 3) := by decide +kernel
theorem dL_lines_154 : decode cL_lines 154 = .ok (.dup, 1) := by decide +kernel
theorem dL_lines_155 : decode cL_lines 155 = .ok (.invokespecial 307, 3) := by decide +kernel
theorem dL_lines_158 : decode cL_lines 158 = .ok (.aload_n 3, 1) := by decide +kernel
theorem dL_lines_159 : decode cL_lines 159 = .ok (.invokevirtual 316, 3) := by decide +kernel
theorem dL_lines_162 : decode cL_lines 162 = .ok (.ldc_w 333, 3) := by decide +kernel
theorem dL_lines_165 : decode cL_lines 165 = .ok (.invokevirtual 316, 3) := by decide +kernel
theorem dL_lines_168 : decode cL_lines 168 = .ok (.iload_n 2, 1) := by decide +kernel
theorem dL_lines_169 : decode cL_lines 169 = .ok (.ifCond .ge 9, 3) := by decide +kernel
theorem dL_lines_172 : decode cL_lines 172 = .ok (.ldc_w 331, 3) := by decide +kernel
theorem dL_lines_175 : decode cL_lines 175 = .ok (.goto 39, 3) := by decide +kernel
theorem dL_lines_178 : decode cL_lines 178 = .ok (.new 305, 3) := by decide +kernel
theorem dL_lines_181 : decode cL_lines 181 = .ok (.dup, 1) := by decide +kernel
theorem dL_lines_182 : decode cL_lines 182 = .ok (.invokespecial 307, 3) := by decide +kernel
theorem dL_lines_185 : decode cL_lines 185 = .ok (.aload_n 0, 1) := by decide +kernel
theorem dL_lines_186 : decode cL_lines 186 = .ok (.aload_n 0, 1) := by decide +kernel
theorem dL_lines_187 : decode cL_lines 187 = .ok (.iload_n 2, 1) := by decide +kernel
theorem dL_lines_188 : decode cL_lines 188 = .ok (.invokevirtual 83, 3) := by decide +kernel
theorem dL_lines_191 : decode cL_lines 191 = .ok (.invokevirtual 107, 3) := by decide +kernel
theorem dL_lines_194 : decode cL_lines 194 = .ok (.invokevirtual 308, 3) := by decide +kernel
theorem dL_lines_197 : decode cL_lines 197 = .ok (.ldc_w 319, 3) := by decide +kernel
theorem dL_lines_200 : decode cL_lines 200 = .ok (.invokevirtual 316, 3) := by decide +kernel
theorem dL_lines_203 : decode cL_lines 203 = .ok (.aload_n 0, 1) := by decide +kernel
theorem dL_lines_204 : decode cL_lines 204 = .ok (.iload_n 2, 1) := by decide +kernel
theorem dL_lines_205 : decode cL_lines 205 = .ok (.invokevirtual 83, 3) := by decide +kernel
theorem dL_lines_208 : decode cL_lines 208 = .ok (.invokevirtual 308, 3) := by decide +kernel
theorem dL_lines_211 : decode cL_lines 211 = .ok (.invokevirtual 321, 3) := by decide +kernel
theorem dL_lines_214 : decode cL_lines 214 = .ok (.invokevirtual 316, 3) := by decide +kernel
theorem dL_lines_217 : decode cL_lines 217 = .ok (.invokevirtual 321, 3) := by decide +kernel
theorem dL_lines_220 : decode cL_lines 220 = .ok (.astore_n 3, 1) := by decide +kernel
theorem dL_lines_221 : decode cL_lines 221 = .ok (.aload_n 0, 1) := by decide +kernel
theorem dL_lines_222 : decode cL_lines 222 = .ok (.aload_n 0, 1) := by decide +kernel
theorem dL_lines_223 : decode cL_lines 223 = .ok (.invokevirtual 335, 3) := by decide +kernel
theorem dL_lines_226 : decode cL_lines 226 = .ok (.aload_n 3, 1) := by decide +kernel
theorem dL_lines_227 : decode cL_lines 227 = .ok (.invokestatic 327, 3) := by decide +kernel
theorem dL_lines_230 : decode cL_lines 230 = .ok (.ifCond .eq 29, 3) := by decide +kernel
theorem dL_lines_233 : decode cL_lines 233 = .ok (.aload_n 0, 1) := by decide +kernel
theorem dL_lines_234 : decode cL_lines 234 = .ok (.sipush 9999, 3) := by decide +kernel
theorem dL_lines_237 : decode cL_lines 237 = .ok (.invokestatic 325, 3) := by decide +kernel
theorem dL_lines_240 : decode cL_lines 240 = .ok (.bipush (-13), 2) := by decide +kernel
theorem dL_lines_242 : decode cL_lines 242 = .ok (.if_icmp .ne 17, 3) := by decide +kernel
theorem dL_lines_245 : decode cL_lines 245 = .ok (.aload_n 0, 1) := by decide +kernel
theorem dL_lines_246 : decode cL_lines 246 = .ok (.iconst (-1), 1) := by decide +kernel
theorem dL_lines_247 : decode cL_lines 247 = .ok (.invokestatic 325, 3) := by decide +kernel
theorem dL_lines_250 : decode cL_lines 250 = .ok (.bipush (-13), 2) := by decide +kernel
theorem dL_lines_252 : decode cL_lines 252 = .ok (.if_icmp .ne 7, 3) := by decide +kernel
theorem dL_lines_255 : decode cL_lines 255 = .ok (.iconst 1, 1) := by decide +kernel
theorem dL_lines_256 : decode cL_lines 256 = .ok (.goto 4, 3) := by decide +kernel
theorem dL_lines_259 : decode cL_lines 259 = .ok (.iconst 0, 1) := by decide +kernel
theorem dL_lines_260 : decode cL_lines 260 = .ok (.ireturn, 1) := by decide +kernel
theorem dL_sum_0 : decode cL_sum 0 = .ok (.ldc2_w 338, 3) := by decide +kernel
theorem dL_sum_3 : decode cL_sum 3 = .ok (.aload_n 0, 1) := by decide +kernel
theorem dL_sum_4 : decode cL_sum 4 = .ok (.invokevirtual 340, 3) := by decide +kernel
theorem dL_sum_7 : decode cL_sum 7 = .ok (.i2l, 1) := by decide +kernel
theorem dL_sum_8 : decode cL_sum 8 = .ok (.ladd, 1) := by decide +kernel
theorem dL_sum_9 : decode cL_sum 9 = .ok (.lstore_n 1, 1) := by decide +kernel
theorem dL_sum_10 : decode cL_sum 10 = .ok (.ldc2_w 343, 3) := by decide +kernel
theorem dL_sum_13 : decode cL_sum 13 = .ok (.lload_n 1, 1) := by decide +kernel
theorem dL_sum_14 : decode cL_sum 14 = .ok (.lmul, 1) := by decide +kernel
theorem dL_sum_15 : decode cL_sum 15 = .ok (.aload_n 0, 1) := by decide +kernel
theorem dL_sum_16 : decode cL_sum 16 = .ok (.invokevirtual 191, 3) := by decide +kernel
theorem dL_sum_19 : decode cL_sum 19 = .ok (.ifCond .eq 7, 3) := by decide +kernel
theorem dL_sum_22 : decode cL_sum 22 = .ok (.iconst 1, 1) := by decide +kernel
theorem dL_sum_23 : decode cL_sum 23 = .ok (.goto 4, 3) := by decide +kernel
theorem dL_sum_26 : decode cL_sum 26 = .ok (.iconst 0, 1) := by decide +kernel
theorem dL_sum_27 : decode cL_sum 27 = .ok (.i2l, 1) := by decide +kernel
theorem dL_sum_28 : decode cL_sum 28 = .ok (.ladd, 1) := by decide +kernel
theorem dL_sum_29 : decode cL_sum 29 = .ok (.lstore_n 1, 1) := by decide +kernel
theorem dL_sum_30 : decode cL_sum 30 = .ok (.ldc2_w 343, 3) := by decide +kernel
theorem dL_sum_33 : decode cL_sum 33 = .ok (.lload_n 1, 1) := by decide +kernel
theorem dL_sum_34 : decode cL_sum 34 = .ok (.lmul, 1) := by decide +kernel
theorem dL_sum_35 : decode cL_sum 35 = .ok (.bipush 100, 2) := by decide +kernel
theorem dL_sum_37 : decode cL_sum 37 = .ok (.aload_n 0, 1) := by decide +kernel
theorem dL_sum_38 : decode cL_sum 38 = .ok (.invokevirtual 279, 3) := by decide +kernel
theorem dL_sum_41 : decode cL_sum 41 = .ok (.imul, 1) := by decide +kernel
theorem dL_sum_42 : decode cL_sum 42 = .ok (.i2l, 1) := by decide +kernel
theorem dL_sum_43 : decode cL_sum 43 = .ok (.ladd, 1) := by decide +kernel
theorem dL_sum_44 : decode cL_sum 44 = .ok (.aload_n 0, 1) := by decide +kernel
theorem dL_sum_45 : decode cL_sum 45 = .ok (.invokestatic 293, 3) := by decide +kernel
theorem dL_sum_48 : decode cL_sum 48 = .ok (.i2l, 1) := by decide +kernel
theorem dL_sum_49 : decode cL_sum 49 = .ok (.ladd, 1) := by decide +kernel
theorem dL_sum_50 : decode cL_sum 50 = .ok (.lstore_n 1, 1) := by decide +kernel
theorem dL_sum_51 : decode cL_sum 51 = .ok (.ldc2_w 343, 3) := by decide +kernel
theorem dL_sum_54 : decode cL_sum 54 = .ok (.lload_n 1, 1) := by decide +kernel
theorem dL_sum_55 : decode cL_sum 55 = .ok (.lmul, 1) := by decide +kernel
theorem dL_sum_56 : decode cL_sum 56 = .ok (.aload_n 0, 1) := by decide +kernel
theorem dL_sum_57 : decode cL_sum 57 = .ok (.invokevirtual 286, 3) := by decide +kernel
theorem dL_sum_60 : decode cL_sum 60 = .ok (.ladd, 1) := by decide +kernel
theorem dL_sum_61 : decode cL_sum 61 = .ok (.lstore_n 1, 1) := by decide +kernel
theorem dL_sum_62 : decode cL_sum 62 = .ok (.iconst 0, 1) := by decide +kernel
theorem dL_sum_63 : decode cL_sum 63 = .ok (.istore_n 3, 1) := by decide +kernel
theorem dL_sum_64 : decode cL_sum 64 = .ok (.iload_n 3, 1) := by decide +kernel
theorem dL_sum_65 : decode cL_sum 65 = .ok (.aload_n 0, 1) := by decide +kernel
theorem dL_sum_66 : decode cL_sum 66 = .ok (.invokevirtual 222, 3) := by decide +kernel
theorem dL_sum_69 : decode cL_sum 69 = .ok (.if_icmp .ge 35, 3) := by decide +kernel
theorem dL_sum_72 : decode cL_sum 72 = .ok (.ldc2_w 345, 3) := by decide +kernel
theorem dL_sum_75 : decode cL_sum 75 = .ok (.lload_n 1, 1) := by decide +kernel
theorem dL_sum_76 : decode cL_sum 76 = .ok (.lmul, 1) := by decide +kernel
theorem dL_sum_77 : decode cL_sum 77 = .ok (.aload_n 0, 1) := by decide +kernel
theorem dL_sum_78 : decode cL_sum 78 = .ok (.iload_n 3, 1) := by decide +kernel
theorem dL_sum_79 : decode cL_sum 79 = .ok (.invokevirtual 58, 3) := by decide +kernel
theorem dL_sum_82 : decode cL_sum 82 = .ok (.i2l, 1) := by decide +kernel
theorem dL_sum_83 : decode cL_sum 83 = .ok (.ladd, 1) := by decide +kernel
theorem dL_sum_84 : decode cL_sum 84 = .ok (.lstore_n 1, 1) := by decide +kernel
theorem dL_sum_85 : decode cL_sum 85 = .ok (.ldc2_w 347, 3) := by decide +kernel
theorem dL_sum_88 : decode cL_sum 88 = .ok (.lload_n 1, 1) := by decide +kernel
theorem dL_sum_89 : decode cL_sum 89 = .ok (.lmul, 1) := by decide +kernel
theorem dL_sum_90 : decode cL_sum 90 = .ok (.aload_n 0, 1) := by decide +kernel
theorem dL_sum_91 : decode cL_sum 91 = .ok (.iload_n 3, 1) := by decide +kernel
theorem dL_sum_92 : decode cL_sum 92 = .ok (.invokevirtual 61, 3) := by decide +kernel
theorem dL_sum_95 : decode cL_sum 95 = .ok (.i2l, 1) := by decide +kernel
theorem dL_sum_96 : decode cL_sum 96 = .ok (.ladd, 1) := by decide +kernel
theorem dL_sum_97 : decode cL_sum 97 = .ok (.lstore_n 1, 1) := by decide +kernel
theorem dL_sum_98 : decode cL_sum 98 = .ok (.iinc 3 1, 3) := by decide +kernel
theorem dL_sum_101 : decode cL_sum 101 = .ok (.goto (-37), 3) := by decide +kernel
theorem dL_sum_104 : decode cL_sum 104 = .ok (.iconst 0, 1) := by decide +kernel
theorem dL_sum_105 : decode cL_sum 105 = .ok (.istore_n 3, 1) := by decide +kernel
theorem dL_sum_106 : decode cL_sum 106 = .ok (.iload_n 3, 1) := by decide +kernel
theorem dL_sum_107 : decode cL_sum 107 = .ok (.aload_n 0, 1) := by decide +kernel
theorem dL_sum_108 : decode cL_sum 108 = .ok (.invokevirtual 231, 3) := by decide +kernel
theorem dL_sum_111 : decode cL_sum 111 = .ok (.if_icmp .ge 95, 3) := by decide +kernel
theorem dL_sum_114 : decode cL_sum 114 = .ok (.aload_n 0, 1) := by decide +kernel
theorem dL_sum_115 : decode cL_sum 115 = .ok (.iload_n 3, 1) := by decide +kernel
theorem dL_sum_116 : decode cL_sum 116 = .ok (.invokevirtual 73, 3) := by decide +kernel
theorem dL_sum_119 : decode cL_sum 119 = .ok (.istore 4, 2) := by decide +kernel
theorem dL_sum_121 : decode cL_sum 121 = .ok (.ldc2_w 349, 3) := by decide +kernel
theorem dL_sum_124 : decode cL_sum 124 = .ok (.lload_n 1, 1) := by decide +kernel
theorem dL_sum_125 : decode cL_sum 125 = .ok (.lmul, 1) := by decide +kernel
theorem dL_sum_126 : decode cL_sum 126 = .ok (.bipush 10, 2) := by decide +kernel
theorem dL_sum_128 : decode cL_sum 128 = .ok (.iload 4, 2) := by decide +kernel
theorem dL_sum_130 : decode cL_sum 130 = .ok (.imul, 1) := by decide +kernel
theorem dL_sum_131 : decode cL_sum 131 = .ok (.i2l, 1) := by decide +kernel
theorem dL_sum_132 : decode cL_sum 132 = .ok (.ladd, 1) := by decide +kernel
theorem dL_sum_133 : decode cL_sum 133 = .ok (.aload_n 0, 1) := by decide +kernel
theorem dL_sum_134 : decode cL_sum 134 = .ok (.iload 4, 2) := by decide +kernel
theorem dL_sum_136 : decode cL_sum 136 = .ok (.invokevirtual 76, 3) := by decide +kernel
theorem dL_sum_139 : decode cL_sum 139 = .ok (.i2l, 1) := by decide +kernel
theorem dL_sum_140 : decode cL_sum 140 = .ok (.ladd, 1) := by decide +kernel
theorem dL_sum_141 : decode cL_sum 141 = .ok (.lstore_n 1, 1) := by decide +kernel
theorem dL_sum_142 : decode cL_sum 142 = .ok (.ldc2_w 351, 3) := by decide +kernel
theorem dL_sum_145 : decode cL_sum 145 = .ok (.lload_n 1, 1) := by decide +kernel
theorem dL_sum_146 : decode cL_sum 146 = .ok (.lmul, 1) := by decide +kernel
theorem dL_sum_147 : decode cL_sum 147 = .ok (.sipush 200, 3) := by decide +kernel
theorem dL_sum_150 : decode cL_sum 150 = .ok (.aload_n 0, 1) := by decide +kernel
theorem dL_sum_151 : decode cL_sum 151 = .ok (.iload 4, 2) := by decide +kernel
theorem dL_sum_153 : decode cL_sum 153 = .ok (.invokevirtual 86, 3) := by decide +kernel
theorem dL_sum_156 : decode cL_sum 156 = .ok (.imul, 1) := by decide +kernel
theorem dL_sum_157 : decode cL_sum 157 = .ok (.i2l, 1) := by decide +kernel
theorem dL_sum_158 : decode cL_sum 158 = .ok (.ladd, 1) := by decide +kernel
theorem dL_sum_159 : decode cL_sum 159 = .ok (.iconst 2, 1) := by decide +kernel
theorem dL_sum_160 : decode cL_sum 160 = .ok (.aload_n 0, 1) := by decide +kernel
theorem dL_sum_161 : decode cL_sum 161 = .ok (.iload 4, 2) := by decide +kernel
theorem dL_sum_163 : decode cL_sum 163 = .ok (.invokevirtual 83, 3) := by decide +kernel
theorem dL_sum_166 : decode cL_sum 166 = .ok (.imul, 1) := by decide +kernel
theorem dL_sum_167 : decode cL_sum 167 = .ok (.i2l, 1) := by decide +kernel
theorem dL_sum_168 : decode cL_sum 168 = .ok (.ladd, 1) := by decide +kernel
theorem dL_sum_169 : decode cL_sum 169 = .ok (.aload_n 0, 1) := by decide +kernel
theorem dL_sum_170 : decode cL_sum 170 = .ok (.iload 4, 2) := by decide +kernel
theorem dL_sum_172 : decode cL_sum 172 = .ok (.invokevirtual 79, 3) := by decide +kernel
theorem dL_sum_175 : decode cL_sum 175 = .ok (.ifCond .eq 7, 3) := by decide +kernel
theorem dL_sum_178 : decode cL_sum 178 = .ok (.iconst 1, 1) := by decide +kernel
theorem dL_sum_179 : decode cL_sum 179 = .ok (.goto 4, 3) := by decide +kernel
theorem dL_sum_182 : decode cL_sum 182 = .ok (.iconst 0, 1) := by decide +kernel
theorem dL_sum_183 : decode cL_sum 183 = .ok (.i2l, 1) := by decide +kernel
theorem dL_sum_184 : decode cL_sum 184 = .ok (.ladd, 1) := by decide +kernel
theorem dL_sum_185 : decode cL_sum 185 = .ok (.lstore_n 1, 1) := by decide +kernel
theorem dL_sum_186 : decode cL_sum 186 = .ok (.ldc2_w 353, 3) := by decide +kernel
theorem dL_sum_189 : decode cL_sum 189 = .ok (.lload_n 1, 1) := by decide +kernel
theorem dL_sum_190 : decode cL_sum 190 = .ok (.lmul, 1) := by decide +kernel
theorem dL_sum_191 : decode cL_sum 191 = .ok (.aload_n 0, 1) := by decide +kernel
theorem dL_sum_192 : decode cL_sum 192 = .ok (.iload 4, 2) := by decide +kernel
theorem dL_sum_194 : decode cL_sum 194 = .ok (.invokestatic 257, 3) := by decide +kernel
theorem dL_sum_197 : decode cL_sum 197 = .ok (.i2l, 1) := by decide +kernel
theorem dL_sum_198 : decode cL_sum 198 = .ok (.ladd, 1) := by decide +kernel
theorem dL_sum_199 : decode cL_sum 199 = .ok (.lstore_n 1, 1) := by decide +kernel
theorem dL_sum_200 : decode cL_sum 200 = .ok (.iinc 3 1, 3) := by decide +kernel
theorem dL_sum_203 : decode cL_sum 203 = .ok (.goto (-97), 3) := by decide +kernel
theorem dL_sum_206 : decode cL_sum 206 = .ok (.lload_n 1, 1) := by decide +kernel
theorem dL_sum_207 : decode cL_sum 207 = .ok (.lreturn, 1) := by decide +kernel
