theorem dL_areGoods_50 : decode cL_areGoods 50 = .ok (.iload 8, 2) := by decide +kernel
theorem dL_areGoods_52 : decode cL_areGoods 52 = .ok (.invokevirtual 61, 3) := by decide +kernel
theorem dL_areGoods_55 : decode cL_areGoods 55 = .ok (.istore 10, 2) := by decide +kernel
theorem dL_areGoods_57 : decode cL_areGoods 57 = .ok (.iload 9, 2) := by decide +kernel
theorem dL_areGoods_59 : decode cL_areGoods 59 = .ok (.ifCond .lt 64, 3) := by decide +kernel
theorem dL_areGoods_62 : decode cL_areGoods 62 = .ok (.aload_n 2, 1) := by decide +kernel
theorem dL_areGoods_63 : decode cL_areGoods 63 = .ok (.bipush 20, 2) := by decide +kernel
theorem dL_areGoods_65 : decode cL_areGoods 65 = .ok (.aload_n 3, 1) := by decide +kernel
theorem dL_areGoods_66 : decode cL_areGoods 66 = .ok (.iconst 3, 1) := by decide +kernel
theorem dL_areGoods_67 : decode cL_areGoods 67 = .ok (.iload 8, 2) := by decide +kernel
theorem dL_areGoods_69 : decode cL_areGoods 69 = .ok (.imul, 1) := by decide +kernel
theorem dL_areGoods_70 : decode cL_areGoods 70 = .ok (.iaload, 1) := by decide +kernel
theorem dL_areGoods_71 : decode cL_areGoods 71 = .ok (.iadd, 1) := by decide +kernel
theorem dL_areGoods_72 : decode cL_areGoods 72 = .ok (.iaload, 1) := by decide +kernel
theorem dL_areGoods_73 : decode cL_areGoods 73 = .ok (.iload 9, 2) := by decide +kernel
theorem dL_areGoods_75 : decode cL_areGoods 75 = .ok (.iconst 2, 1) := by decide +kernel
theorem dL_areGoods_76 : decode cL_areGoods 76 = .ok (.irem, 1) := by decide +kernel
theorem dL_areGoods_77 : decode cL_areGoods 77 = .ok (.ishr, 1) := by decide +kernel
theorem dL_areGoods_78 : decode cL_areGoods 78 = .ok (.iconst 1, 1) := by decide +kernel
theorem dL_areGoods_79 : decode cL_areGoods 79 = .ok (.iand, 1) := by decide +kernel
theorem dL_areGoods_80 : decode cL_areGoods 80 = .ok (.iconst 1, 1) := by decide +kernel
theorem dL_areGoods_81 : decode cL_areGoods 81 = .ok (.if_icmp .eq 38, 3) := by decide +kernel
theorem dL_areGoods_84 : decode cL_areGoods 84 = .ok (.aload_n 3, 1) := by decide +kernel
theorem dL_areGoods_85 : decode cL_areGoods 85 = .ok (.iconst 3, 1) := by decide +kernel
theorem dL_areGoods_86 : decode cL_areGoods 86 = .ok (.iload 8, 2) := by decide +kernel
theorem dL_areGoods_88 : decode cL_areGoods 88 = .ok (.imul, 1) := by decide +kernel
theorem dL_areGoods_89 : decode cL_areGoods 89 = .ok (.iconst 1, 1) := by decide +kernel
theorem dL_areGoods_90 : decode cL_areGoods 90 = .ok (.iadd, 1) := by decide +kernel
theorem dL_areGoods_91 : decode cL_areGoods 91 = .ok (.iaload, 1) := by decide +kernel
theorem dL_areGoods_92 : decode cL_areGoods 92 = .ok (.ifCond .le 31, 3) := by decide +kernel
theorem dL_areGoods_95 : decode cL_areGoods 95 = .ok (.aload_n 2, 1) := by decide +kernel
theorem dL_areGoods_96 : decode cL_areGoods 96 = .ok (.bipush 20, 2) := by decide +kernel
theorem dL_areGoods_98 : decode cL_areGoods 98 = .ok (.aload_n 3, 1) := by decide +kernel
theorem dL_areGoods_99 : decode cL_areGoods 99 = .ok (.iconst 3, 1) := by decide +kernel
theorem dL_areGoods_100 : decode cL_areGoods 100 = .ok (.iload 8, 2) := by decide +kernel
theorem dL_areGoods_102 : decode cL_areGoods 102 = .ok (.imul, 1) := by decide +kernel
theorem dL_areGoods_103 : decode cL_areGoods 103 = .ok (.iconst 1, 1) := by decide +kernel
theorem dL_areGoods_104 : decode cL_areGoods 104 = .ok (.iadd, 1) := by decide +kernel
theorem dL_areGoods_105 : decode cL_areGoods 105 = .ok (.iaload, 1) := by decide +kernel
theorem dL_areGoods_106 : decode cL_areGoods 106 = .ok (.iadd, 1) := by decide +kernel
theorem dL_areGoods_107 : decode cL_areGoods 107 = .ok (.iaload, 1) := by decide +kernel
theorem dL_areGoods_108 : decode cL_areGoods 108 = .ok (.iload 9, 2) := by decide +kernel
theorem dL_areGoods_110 : decode cL_areGoods 110 = .ok (.iconst 2, 1) := by decide +kernel
theorem dL_areGoods_111 : decode cL_areGoods 111 = .ok (.irem, 1) := by decide +kernel
theorem dL_areGoods_112 : decode cL_areGoods 112 = .ok (.ishr, 1) := by decide +kernel
theorem dL_areGoods_113 : decode cL_areGoods 113 = .ok (.iconst 1, 1) := by decide +kernel
theorem dL_areGoods_114 : decode cL_areGoods 114 = .ok (.iand, 1) := by decide +kernel
theorem dL_areGoods_115 : decode cL_areGoods 115 = .ok (.iconst 1, 1) := by decide +kernel
theorem dL_areGoods_116 : decode cL_areGoods 116 = .ok (.if_icmp .ne 7, 3) := by decide +kernel
theorem dL_areGoods_119 : decode cL_areGoods 119 = .ok (.iconst 1, 1) := by decide +kernel
theorem dL_areGoods_120 : decode cL_areGoods 120 = .ok (.goto 4, 3) := by decide +kernel
theorem dL_areGoods_123 : decode cL_areGoods 123 = .ok (.iconst 0, 1) := by decide +kernel
theorem dL_areGoods_124 : decode cL_areGoods 124 = .ok (.istore 11, 2) := by decide +kernel
theorem dL_areGoods_126 : decode cL_areGoods 126 = .ok (.iload 6, 2) := by decide +kernel
theorem dL_areGoods_128 : decode cL_areGoods 128 = .ok (.aload_n 0, 1) := by decide +kernel
theorem dL_areGoods_129 : decode cL_areGoods 129 = .ok (.iload 8, 2) := by decide +kernel
theorem dL_areGoods_131 : decode cL_areGoods 131 = .ok (.invokevirtual 58, 3) := by decide +kernel
theorem dL_areGoods_134 : decode cL_areGoods 134 = .ok (.ifCond .eq 7, 3) := by decide +kernel
theorem dL_areGoods_137 : decode cL_areGoods 137 = .ok (.iconst 1, 1) := by decide +kernel
theorem dL_areGoods_138 : decode cL_areGoods 138 = .ok (.goto 4, 3) := by decide +kernel
theorem dL_areGoods_141 : decode cL_areGoods 141 = .ok (.iconst 0, 1) := by decide +kernel
theorem dL_areGoods_142 : decode cL_areGoods 142 = .ok (.iadd, 1) := by decide +kernel
theorem dL_areGoods_143 : decode cL_areGoods 143 = .ok (.istore 6, 2) := by decide +kernel
theorem dL_areGoods_145 : decode cL_areGoods 145 = .ok (.iload 9, 2) := by decide +kernel
theorem dL_areGoods_147 : decode cL_areGoods 147 = .ok (.iconst (-1), 1) := by decide +kernel
theorem dL_areGoods_148 : decode cL_areGoods 148 = .ok (.if_icmp .lt 114, 3) := by decide +kernel
theorem dL_areGoods_151 : decode cL_areGoods 151 = .ok (.iload 9, 2) := by decide +kernel
theorem dL_areGoods_153 : decode cL_areGoods 153 = .ok (.bipush 48, 2) := by decide +kernel
theorem dL_areGoods_155 : decode cL_areGoods 155 = .ok (.if_icmp .ge 107, 3) := by decide +kernel
theorem dL_areGoods_158 : decode cL_areGoods 158 = .ok (.aload_n 0, 1) := by decide +kernel
theorem dL_areGoods_159 : decode cL_areGoods 159 = .ok (.iload 8, 2) := by decide +kernel
theorem dL_areGoods_161 : decode cL_areGoods 161 = .ok (.invokevirtual 48, 3) := by decide +kernel
theorem dL_areGoods_164 : decode cL_areGoods 164 = .ok (.aload_n 3, 1) := by decide +kernel
theorem dL_areGoods_165 : decode cL_areGoods 165 = .ok (.aload_n 2, 1) := by decide +kernel
theorem dL_areGoods_166 : decode cL_areGoods 166 = .ok (.iload 8, 2) := by decide +kernel
theorem dL_areGoods_168 : decode cL_areGoods 168 = .ok (.bipush 10, 2) := by decide +kernel
theorem dL_areGoods_170 : decode cL_areGoods 170 = .ok (.invokestatic 78, 3) := by decide +kernel
theorem dL_areGoods_173 : decode cL_areGoods 173 = .ok (.if_icmp .ne 89, 3) := by decide +kernel
theorem dL_areGoods_176 : decode cL_areGoods 176 = .ok (.aload_n 0, 1) := by decide +kernel
theorem dL_areGoods_177 : decode cL_areGoods 177 = .ok (.iload 8, 2) := by decide +kernel
theorem dL_areGoods_179 : decode cL_areGoods 179 = .ok (.invokevirtual 44, 3) := by decide +kernel
theorem dL_areGoods_182 : decode cL_areGoods 182 = .ok (.aload_n 0, 1) := by decide +kernel
theorem dL_areGoods_183 : decode cL_areGoods 183 = .ok (.iload 8, 2) := by decide +kernel
theorem dL_areGoods_185 : decode cL_areGoods 185 = .ok (.invokevirtual 48, 3) := by decide +kernel
theorem dL_areGoods_188 : decode cL_areGoods 188 = .ok (.ifCond .ne 18, 3) := by decide +kernel
theorem dL_areGoods_191 : decode cL_areGoods 191 = .ok (.aload_n 3, 1) := by decide +kernel
theorem dL_areGoods_192 : decode cL_areGoods 192 = .ok (.aload_n 2, 1) := by decide +kernel
theorem dL_areGoods_193 : decode cL_areGoods 193 = .ok (.iload 8, 2) := by decide +kernel
theorem dL_areGoods_195 : decode cL_areGoods 195 = .ok (.iconst 0, 1) := by decide +kernel
theorem dL_areGoods_196 : decode cL_areGoods 196 = .ok (.invokestatic 78, 3) := by decide +kernel
theorem dL_areGoods_199 : decode cL_areGoods 199 = .ok (.ifCond .eq 7, 3) := by decide +kernel
theorem dL_areGoods_202 : decode cL_areGoods 202 = .ok (.iconst 1, 1) := by decide +kernel
theorem dL_areGoods_203 : decode cL_areGoods 203 = .ok (.goto 4, 3) := by decide +kernel
theorem dL_areGoods_206 : decode cL_areGoods 206 = .ok (.iconst 0, 1) := by decide +kernel
theorem dL_areGoods_207 : decode cL_areGoods 207 = .ok (.if_icmp .ne 55, 3) := by decide +kernel
theorem dL_areGoods_210 : decode cL_areGoods 210 = .ok (.aload_n 0, 1) := by decide +kernel
theorem dL_areGoods_211 : decode cL_areGoods 211 = .ok (.iload 8, 2) := by decide +kernel
theorem dL_areGoods_213 : decode cL_areGoods 213 = .ok (.invokevirtual 58, 3) := by decide +kernel
theorem dL_areGoods_216 : decode cL_areGoods 216 = .ok (.iload 11, 2) := by decide +kernel
theorem dL_areGoods_218 : decode cL_areGoods 218 = .ok (.ifCond .eq 16, 3) := by decide +kernel
theorem dL_areGoods_221 : decode cL_areGoods 221 = .ok (.aload_n 0, 1) := by decide +kernel
theorem dL_areGoods_222 : decode cL_areGoods 222 = .ok (.iload 8, 2) := by decide +kernel
theorem dL_areGoods_224 : decode cL_areGoods 224 = .ok (.invokevirtual 48, 3) := by decide +kernel
theorem dL_areGoods_227 : decode cL_areGoods 227 = .ok (.ifCond .ne 7, 3) := by decide +kernel
theorem dL_areGoods_230 : decode cL_areGoods 230 = .ok (.iconst 1, 1) := by decide +kernel
theorem dL_areGoods_231 : decode cL_areGoods 231 = .ok (.goto 4, 3) := by decide +kernel
theorem dL_areGoods_234 : decode cL_areGoods 234 = .ok (.iconst 0, 1) := by decide +kernel
theorem dL_areGoods_235 : decode cL_areGoods 235 = .ok (.if_icmp .ne 27, 3) := by decide +kernel
theorem dL_areGoods_238 : decode cL_areGoods 238 = .ok (.iload 10, 2) := by decide +kernel
theorem dL_areGoods_240 : decode cL_areGoods 240 = .ok (.aload 4, 2) := by decide +kernel
theorem dL_areGoods_242 : decode cL_areGoods 242 = .ok (.iconst 0, 1) := by decide +kernel
theorem dL_areGoods_243 : decode cL_areGoods 243 = .ok (.iaload, 1) := by decide +kernel
theorem dL_areGoods_244 : decode cL_areGoods 244 = .ok (.ishr, 1) := by decide +kernel
theorem dL_areGoods_245 : decode cL_areGoods 245 = .ok (.ifCond .ne 17, 3) := by decide +kernel
theorem dL_areGoods_248 : decode cL_areGoods 248 = .ok (.iload 10, 2) := by decide +kernel
theorem dL_areGoods_250 : decode cL_areGoods 250 = .ok (.iload 8, 2) := by decide +kernel
theorem dL_areGoods_252 : decode cL_areGoods 252 = .ok (.ishr, 1) := by decide +kernel
theorem dL_areGoods_253 : decode cL_areGoods 253 = .ok (.iconst 1, 1) := by decide +kernel
theorem dL_areGoods_254 : decode cL_areGoods 254 = .ok (.iand, 1) := by decide +kernel
theorem dL_areGoods_255 : decode cL_areGoods 255 = .ok (.ifCond .ne 7, 3) := by decide +kernel
theorem dL_areGoods_258 : decode cL_areGoods 258 = .ok (.iconst 1, 1) := by decide +kernel
theorem dL_areGoods_259 : decode cL_areGoods 259 = .ok (.goto 4, 3) := by decide +kernel
theorem dL_areGoods_262 : decode cL_areGoods 262 = .ok (.iconst 0, 1) := by decide +kernel
theorem dL_areGoods_263 : decode cL_areGoods 263 = .ok (.istore 7, 2) := by decide +kernel
theorem dL_areGoods_265 : decode cL_areGoods 265 = .ok (.iconst 0, 1) := by decide +kernel
theorem dL_areGoods_266 : decode cL_areGoods 266 = .ok (.istore 12, 2) := by decide +kernel
theorem dL_areGoods_268 : decode cL_areGoods 268 = .ok (.iload 12, 2) := by decide +kernel
theorem dL_areGoods_270 : decode cL_areGoods 270 = .ok (.aload 4, 2) := by decide +kernel
theorem dL_areGoods_272 : decode cL_areGoods 272 = .ok (.iconst 0, 1) := by decide +kernel
theorem dL_areGoods_273 : decode cL_areGoods 273 = .ok (.iaload, 1) := by decide +kernel
theorem dL_areGoods_274 : decode cL_areGoods 274 = .ok (.if_icmp .ge 169, 3) := by decide +kernel
theorem dL_areGoods_277 : decode cL_areGoods 277 = .ok (.iload 7, 2) := by decide +kernel
theorem dL_areGoods_279 : decode cL_areGoods 279 = .ok (.ifCond .eq 164, 3) := by decide +kernel
theorem dL_areGoods_282 : decode cL_areGoods 282 = .ok (.aload_n 0, 1) := by decide +kernel
theorem dL_areGoods_283 : decode cL_areGoods 283 = .ok (.iload 12, 2) := by decide +kernel
theorem dL_areGoods_285 : decode cL_areGoods 285 = .ok (.invokevirtual 40, 3) := by decide +kernel
theorem dL_areGoods_288 : decode cL_areGoods 288 = .ok (.istore 13, 2) := by decide +kernel
theorem dL_areGoods_290 : decode cL_areGoods 290 = .ok (.iload 12, 2) := by decide +kernel
theorem dL_areGoods_292 : decode cL_areGoods 292 = .ok (.iload 8, 2) := by decide +kernel
theorem dL_areGoods_294 : decode cL_areGoods 294 = .ok (.if_icmp .eq 38, 3) := by decide +kernel
theorem dL_areGoods_297 : decode cL_areGoods 297 = .ok (.iload 9, 2) := by decide +kernel
theorem dL_areGoods_299 : decode cL_areGoods 299 = .ok (.ifCond .lt 33, 3) := by decide +kernel
theorem dL_areGoods_302 : decode cL_areGoods 302 = .ok (.iload 13, 2) := by decide +kernel
theorem dL_areGoods_304 : decode cL_areGoods 304 = .ok (.ifCond .lt 28, 3) := by decide +kernel
theorem dL_areGoods_307 : decode cL_areGoods 307 = .ok (.aload_n 0, 1) := by decide +kernel
theorem dL_areGoods_308 : decode cL_areGoods 308 = .ok (.iload 9, 2) := by decide +kernel
theorem dL_areGoods_310 : decode cL_areGoods 310 = .ok (.iload 13, 2) := by decide +kernel
theorem dL_areGoods_312 : decode cL_areGoods 312 = .ok (.invokevirtual 19, 3) := by decide +kernel
theorem dL_areGoods_315 : decode cL_areGoods 315 = .ok (.aload_n 1, 1) := by decide +kernel
theorem dL_areGoods_316 : decode cL_areGoods 316 = .ok (.aload_n 2, 1) := by decide +kernel
theorem dL_areGoods_317 : decode cL_areGoods 317 = .ok (.aload_n 3, 1) := by decide +kernel
theorem dL_areGoods_318 : decode cL_areGoods 318 = .ok (.iload 8, 2) := by decide +kernel
theorem dL_areGoods_320 : decode cL_areGoods 320 = .ok (.iload 12, 2) := by decide +kernel
theorem dL_areGoods_322 : decode cL_areGoods 322 = .ok (.invokestatic 106, 3) := by decide +kernel
theorem dL_areGoods_325 : decode cL_areGoods 325 = .ok (.if_icmp .ge 7, 3) := by decide +kernel
theorem dL_areGoods_328 : decode cL_areGoods 328 = .ok (.iconst 1, 1) := by decide +kernel
theorem dL_areGoods_329 : decode cL_areGoods 329 = .ok (.goto 4, 3) := by decide +kernel
theorem dL_areGoods_332 : decode cL_areGoods 332 = .ok (.iconst 0, 1) := by decide +kernel
theorem dL_areGoods_333 : decode cL_areGoods 333 = .ok (.istore 14, 2) := by decide +kernel
theorem dL_areGoods_335 : decode cL_areGoods 335 = .ok (.iload 5, 2) := by decide +kernel
theorem dL_areGoods_337 : decode cL_areGoods 337 = .ok (.iload 14, 2) := by decide +kernel
theorem dL_areGoods_339 : decode cL_areGoods 339 = .ok (.ifCond .eq 7, 3) := by decide +kernel
theorem dL_areGoods_342 : decode cL_areGoods 342 = .ok (.iconst 1, 1) := by decide +kernel
theorem dL_areGoods_343 : decode cL_areGoods 343 = .ok (.goto 4, 3) := by decide +kernel
theorem dL_areGoods_346 : decode cL_areGoods 346 = .ok (.iconst 0, 1) := by decide +kernel
theorem dL_areGoods_347 : decode cL_areGoods 347 = .ok (.iadd, 1) := by decide +kernel
theorem dL_areGoods_348 : decode cL_areGoods 348 = .ok (.istore 5, 2) := by decide +kernel
theorem dL_areGoods_350 : decode cL_areGoods 350 = .ok (.iload 10, 2) := by decide +kernel
theorem dL_areGoods_352 : decode cL_areGoods 352 = .ok (.iload 12, 2) := by decide +kernel
theorem dL_areGoods_354 : decode cL_areGoods 354 = .ok (.ishr, 1) := by decide +kernel
theorem dL_areGoods_355 : decode cL_areGoods 355 = .ok (.iconst 1, 1) := by decide +kernel
theorem dL_areGoods_356 : decode cL_areGoods 356 = .ok (.iand, 1) := by decide +kernel
theorem dL_areGoods_357 : decode cL_areGoods 357 = .ok (.iload 14, 2) := by decide +kernel
theorem dL_areGoods_359 : decode cL_areGoods 359 = .ok (.ifCond .eq 7, 3) := by decide +kernel
theorem dL_areGoods_362 : decode cL_areGoods 362 = .ok (.iconst 1, 1) := by decide +kernel
theorem dL_areGoods_363 : decode cL_areGoods 363 = .ok (.goto 4, 3) := by decide +kernel
theorem dL_areGoods_366 : decode cL_areGoods 366 = .ok (.iconst 0, 1) := by decide +kernel
theorem dL_areGoods_367 : decode cL_areGoods 367 = .ok (.if_icmp .ne 67, 3) := by decide +kernel
theorem dL_areGoods_370 : decode cL_areGoods 370 = .ok (.iload 12, 2) := by decide +kernel
theorem dL_areGoods_372 : decode cL_areGoods 372 = .ok (.iload 8, 2) := by decide +kernel
theorem dL_areGoods_374 : decode cL_areGoods 374 = .ok (.if_icmp .eq 56, 3) := by decide +kernel
theorem dL_areGoods_377 : decode cL_areGoods 377 = .ok (.aload_n 0, 1) := by decide +kernel
theorem dL_areGoods_378 : decode cL_areGoods 378 = .ok (.iload 8, 2) := by decide +kernel
theorem dL_areGoods_380 : decode cL_areGoods 380 = .ok (.iload 12, 2) := by decide +kernel
theorem dL_areGoods_382 : decode cL_areGoods 382 = .ok (.invokevirtual 54, 3) := by decide +kernel
theorem dL_areGoods_385 : decode cL_areGoods 385 = .ok (.iload 14, 2) := by decide +kernel
theorem dL_areGoods_387 : decode cL_areGoods 387 = .ok (.if_icmp .ne 47, 3) := by decide +kernel
theorem dL_areGoods_390 : decode cL_areGoods 390 = .ok (.aload_n 0, 1) := by decide +kernel
theorem dL_areGoods_391 : decode cL_areGoods 391 = .ok (.iload 8, 2) := by decide +kernel
theorem dL_areGoods_393 : decode cL_areGoods 393 = .ok (.iload 12, 2) := by decide +kernel
theorem dL_areGoods_395 : decode cL_areGoods 395 = .ok (.invokevirtual 51, 3) := by decide +kernel
theorem dL_areGoods_398 : decode cL_areGoods 398 = .ok (.aload_n 1, 1) := by decide +kernel
theorem dL_areGoods_399 : decode cL_areGoods 399 = .ok (.aload_n 2, 1) := by decide +kernel
theorem dL_areGoods_400 : decode cL_areGoods 400 = .ok (.aload_n 3, 1) := by decide +kernel
theorem dL_areGoods_401 : decode cL_areGoods 401 = .ok (.iload 8, 2) := by decide +kernel
theorem dL_areGoods_403 : decode cL_areGoods 403 = .ok (.iload 12, 2) := by decide +kernel
theorem dL_areGoods_405 : decode cL_areGoods 405 = .ok (.invokestatic 106, 3) := by decide +kernel
theorem dL_areGoods_408 : decode cL_areGoods 408 = .ok (.if_icmp .ne 26, 3) := by decide +kernel
theorem dL_areGoods_411 : decode cL_areGoods 411 = .ok (.aload_n 0, 1) := by decide +kernel
theorem dL_areGoods_412 : decode cL_areGoods 412 = .ok (.iload 12, 2) := by decide +kernel
theorem dL_areGoods_414 : decode cL_areGoods 414 = .ok (.iload 8, 2) := by decide +kernel
theorem dL_areGoods_416 : decode cL_areGoods 416 = .ok (.invokevirtual 51, 3) := by decide +kernel
theorem dL_areGoods_419 : decode cL_areGoods 419 = .ok (.aload_n 0, 1) := by decide +kernel
theorem dL_areGoods_420 : decode cL_areGoods 420 = .ok (.iload 8, 2) := by decide +kernel
theorem dL_areGoods_422 : decode cL_areGoods 422 = .ok (.iload 12, 2) := by decide +kernel
theorem dL_areGoods_424 : decode cL_areGoods 424 = .ok (.invokevirtual 51, 3) := by decide +kernel
theorem dL_areGoods_427 : decode cL_areGoods 427 = .ok (.if_icmp .ne 7, 3) := by decide +kernel
theorem dL_areGoods_430 : decode cL_areGoods 430 = .ok (.iconst 1, 1) := by decide +kernel
theorem dL_areGoods_431 : decode cL_areGoods 431 = .ok (.goto 4, 3) := by decide +kernel
theorem dL_areGoods_434 : decode cL_areGoods 434 = .ok (.iconst 0, 1) := by decide +kernel
theorem dL_areGoods_435 : decode cL_areGoods 435 = .ok (.istore 7, 2) := by decide +kernel
theorem dL_areGoods_437 : decode cL_areGoods 437 = .ok (.iinc 12 1, 3) := by decide +kernel
theorem dL_areGoods_440 : decode cL_areGoods 440 = .ok (.goto (-172), 3) := by decide +kernel
theorem dL_areGoods_443 : decode cL_areGoods 443 = .ok (.iinc 8 1, 3) := by decide +kernel
theorem dL_areGoods_446 : decode cL_areGoods 446 = .ok (.goto (-419), 3) := by decide +kernel
theorem dL_areGoods_449 : decode cL_areGoods 449 = .ok (.iload 7, 2) := by decide +kernel
theorem dL_areGoods_451 : decode cL_areGoods 451 = .ok (.ifCond .eq 38, 3) := by decide +kernel
theorem dL_areGoods_454 : decode cL_areGoods 454 = .ok (.iload 5, 2) := by decide +kernel
theorem dL_areGoods_456 : decode cL_areGoods 456 = .ok (.iconst 2, 1) := by decide +kernel
theorem dL_areGoods_457 : decode cL_areGoods 457 = .ok (.aload_n 0, 1) := by decide +kernel
theorem dL_areGoods_458 : decode cL_areGoods 458 = .ok (.invokevirtual 88, 3) := by decide +kernel
theorem dL_areGoods_461 : decode cL_areGoods 461 = .ok (.imul, 1) := by decide +kernel
theorem dL_areGoods_462 : decode cL_areGoods 462 = .ok (.if_icmp .ne 27, 3) := by decide +kernel
theorem dL_areGoods_465 : decode cL_areGoods 465 = .ok (.aload_n 0, 1) := by decide +kernel
theorem dL_areGoods_466 : decode cL_areGoods 466 = .ok (.invokevirtual 109, 3) := by decide +kernel
theorem dL_areGoods_469 : decode cL_areGoods 469 = .ok (.iload 5, 2) := by decide +kernel
theorem dL_areGoods_471 : decode cL_areGoods 471 = .ok (.iload 6, 2) := by decide +kernel
theorem dL_areGoods_473 : decode cL_areGoods 473 = .ok (.iadd, 1) := by decide +kernel
theorem dL_areGoods_474 : decode cL_areGoods 474 = .ok (.ifCond .ne 7, 3) := by decide +kernel
theorem dL_areGoods_477 : decode cL_areGoods 477 = .ok (.iconst 1, 1) := by decide +kernel
theorem dL_areGoods_478 : decode cL_areGoods 478 = .ok (.goto 4, 3) := by decide +kernel
theorem dL_areGoods_481 : decode cL_areGoods 481 = .ok (.iconst 0, 1) := by decide +kernel
theorem dL_areGoods_482 : decode cL_areGoods 482 = .ok (.if_icmp .ne 7, 3) := by decide +kernel
theorem dL_areGoods_485 : decode cL_areGoods 485 = .ok (.iconst 1, 1) := by decide +kernel
theorem dL_areGoods_486 : decode cL_areGoods 486 = .ok (.goto 4, 3) := by decide +kernel
theorem dL_areGoods_489 : decode cL_areGoods 489 = .ok (.iconst 0, 1) := by decide +kernel
theorem dL_areGoods_490 : decode cL_areGoods 490 = .ok (.ireturn, 1) := by decide +kernel
theorem dL_isPlaceFor_0 : decode cL_isPlaceFor 0 = .ok (.aload_n 0, 1) := by decide +kernel
theorem dL_isPlaceFor_1 : decode cL_isPlaceFor 1 = .ok (.iload_n 1, 1) := by decide +kernel
theorem dL_isPlaceFor_2 : decode cL_isPlaceFor 2 = .ok (.invokevirtual 40, 3) := by decide +kernel
theorem dL_isPlaceFor_5 : decode cL_isPlaceFor 5 = .ok (.istore_n 3, 1) := by decide +kernel
theorem dL_isPlaceFor_6 : decode cL_isPlaceFor 6 = .ok (.aload_n 0, 1) := by decide +kernel
theorem dL_isPlaceFor_7 : decode cL_isPlaceFor 7 = .ok (.iload_n 1, 1) := by decide +kernel
theorem dL_isPlaceFor_8 : decode cL_isPlaceFor 8 = .ok (.invokevirtual 67, 3) := by decide +kernel
theorem dL_isPlaceFor_11 : decode cL_isPlaceFor 11 = .ok (.istore 4, 2) := by decide +kernel
theorem dL_isPlaceFor_13 : decode cL_isPlaceFor 13 = .ok (.aload_n 0, 1) := by decide +kernel
theorem dL_isPlaceFor_14 : decode cL_isPlaceFor 14 = .ok (.iload_n 1, 1) := by decide +kernel
theorem dL_isPlaceFor_15 : decode cL_isPlaceFor 15 = .ok (.iload_n 2, 1) := by decide +kernel
theorem dL_isPlaceFor_16 : decode cL_isPlaceFor 16 = .ok (.invokevirtual 64, 3) := by decide +kernel
theorem dL_isPlaceFor_19 : decode cL_isPlaceFor 19 = .ok (.istore 5, 2) := by decide +kernel
theorem dL_isPlaceFor_21 : decode cL_isPlaceFor 21 = .ok (.aload_n 0, 1) := by decide +kernel
theorem dL_isPlaceFor_22 : decode cL_isPlaceFor 22 = .ok (.iload_n 1, 1) := by decide +kernel
theorem dL_isPlaceFor_23 : decode cL_isPlaceFor 23 = .ok (.iload_n 2, 1) := by decide +kernel
theorem dL_isPlaceFor_24 : decode cL_isPlaceFor 24 = .ok (.invokevirtual 37, 3) := by decide +kernel
theorem dL_isPlaceFor_27 : decode cL_isPlaceFor 27 = .ok (.iload_n 3, 1) := by decide +kernel
theorem dL_isPlaceFor_28 : decode cL_isPlaceFor 28 = .ok (.if_icmp .ne 53, 3) := by decide +kernel
theorem dL_isPlaceFor_31 : decode cL_isPlaceFor 31 = .ok (.iload 5, 2) := by decide +kernel
theorem dL_isPlaceFor_33 : decode cL_isPlaceFor 33 = .ok (.aload_n 0, 1) := by decide +kernel
theorem dL_isPlaceFor_34 : decode cL_isPlaceFor 34 = .ok (.iload_n 1, 1) := by decide +kernel
theorem dL_isPlaceFor_35 : decode cL_isPlaceFor 35 = .ok (.invokevirtual 61, 3) := by decide +kernel
theorem dL_isPlaceFor_38 : decode cL_isPlaceFor 38 = .ok (.ifCond .ne 15, 3) := by decide +kernel
theorem dL_isPlaceFor_41 : decode cL_isPlaceFor 41 = .ok (.aload_n 0, 1) := by decide +kernel
theorem dL_isPlaceFor_42 : decode cL_isPlaceFor 42 = .ok (.iload_n 1, 1) := by decide +kernel
theorem dL_isPlaceFor_43 : decode cL_isPlaceFor 43 = .ok (.invokevirtual 58, 3) := by decide +kernel
theorem dL_isPlaceFor_46 : decode cL_isPlaceFor 46 = .ok (.ifCond .ne 7, 3) := by decide +kernel
theorem dL_isPlaceFor_49 : decode cL_isPlaceFor 49 = .ok (.iconst 1, 1) := by decide +kernel
theorem dL_isPlaceFor_50 : decode cL_isPlaceFor 50 = .ok (.goto 4, 3) := by decide +kernel
theorem dL_isPlaceFor_53 : decode cL_isPlaceFor 53 = .ok (.iconst 0, 1) := by decide +kernel
theorem dL_isPlaceFor_54 : decode cL_isPlaceFor 54 = .ok (.if_icmp .ne 27, 3) := by decide +kernel
theorem dL_isPlaceFor_57 : decode cL_isPlaceFor 57 = .ok (.aload_n 0, 1) := by decide +kernel
theorem dL_isPlaceFor_58 : decode cL_isPlaceFor 58 = .ok (.iload_n 1, 1) := by decide +kernel
theorem dL_isPlaceFor_59 : decode cL_isPlaceFor 59 = .ok (.invokevirtual 67, 3) := by decide +kernel
theorem dL_isPlaceFor_62 : decode cL_isPlaceFor 62 = .ok (.iload 4, 2) := by decide +kernel
theorem dL_isPlaceFor_64 : decode cL_isPlaceFor 64 = .ok (.if_icmp .ne 17, 3) := by decide +kernel
theorem dL_isPlaceFor_67 : decode cL_isPlaceFor 67 = .ok (.aload_n 0, 1) := by decide +kernel
theorem dL_isPlaceFor_68 : decode cL_isPlaceFor 68 = .ok (.iload_n 1, 1) := by decide +kernel
theorem dL_isPlaceFor_69 : decode cL_isPlaceFor 69 = .ok (.iload_n 3, 1) := by decide +kernel
theorem dL_isPlaceFor_70 : decode cL_isPlaceFor 70 = .ok (.invokevirtual 37, 3) := by decide +kernel
theorem dL_isPlaceFor_73 : decode cL_isPlaceFor 73 = .ok (.iload_n 2, 1) := by decide +kernel
theorem dL_isPlaceFor_74 : decode cL_isPlaceFor 74 = .ok (.if_icmp .ne 7, 3) := by decide +kernel
theorem dL_isPlaceFor_77 : decode cL_isPlaceFor 77 = .ok (.iconst 1, 1) := by decide +kernel
theorem dL_isPlaceFor_78 : decode cL_isPlaceFor 78 = .ok (.goto 4, 3) := by decide +kernel
theorem dL_isPlaceFor_81 : decode cL_isPlaceFor 81 = .ok (.iconst 0, 1) := by decide +kernel
theorem dL_isPlaceFor_82 : decode cL_isPlaceFor 82 = .ok (.istore 6, 2) := by decide +kernel
theorem dL_isPlaceFor_84 : decode cL_isPlaceFor 84 = .ok (.iconst 0, 1) := by decide +kernel
theorem dL_isPlaceFor_85 : decode cL_isPlaceFor 85 = .ok (.istore 7, 2) := by decide +kernel
theorem dL_isPlaceFor_87 : decode cL_isPlaceFor 87 = .ok (.iload 7, 2) := by decide +kernel
theorem dL_isPlaceFor_89 : decode cL_isPlaceFor 89 = .ok (.iload 4, 2) := by decide +kernel
theorem dL_isPlaceFor_91 : decode cL_isPlaceFor 91 = .ok (.ifCond .ge 8, 3) := by decide +kernel
theorem dL_isPlaceFor_94 : decode cL_isPlaceFor 94 = .ok (.bipush 48, 2) := by decide +kernel
theorem dL_isPlaceFor_96 : decode cL_isPlaceFor 96 = .ok (.goto 5, 3) := by decide +kernel
theorem dL_isPlaceFor_99 : decode cL_isPlaceFor 99 = .ok (.iload 4, 2) := by decide +kernel
theorem dL_isPlaceFor_101 : decode cL_isPlaceFor 101 = .ok (.if_icmp .ge 31, 3) := by decide +kernel
theorem dL_isPlaceFor_104 : decode cL_isPlaceFor 104 = .ok (.iload 6, 2) := by decide +kernel
theorem dL_isPlaceFor_106 : decode cL_isPlaceFor 106 = .ok (.ifCond .eq 26, 3) := by decide +kernel
theorem dL_isPlaceFor_109 : decode cL_isPlaceFor 109 = .ok (.aload_n 0, 1) := by decide +kernel
theorem dL_isPlaceFor_110 : decode cL_isPlaceFor 110 = .ok (.iload_n 1, 1) := by decide +kernel
theorem dL_isPlaceFor_111 : decode cL_isPlaceFor 111 = .ok (.iload 7, 2) := by decide +kernel
theorem dL_isPlaceFor_113 : decode cL_isPlaceFor 113 = .ok (.invokevirtual 64, 3) := by decide +kernel
theorem dL_isPlaceFor_116 : decode cL_isPlaceFor 116 = .ok (.ifCond .ne 7, 3) := by decide +kernel
theorem dL_isPlaceFor_119 : decode cL_isPlaceFor 119 = .ok (.iconst 1, 1) := by decide +kernel
theorem dL_isPlaceFor_120 : decode cL_isPlaceFor 120 = .ok (.goto 4, 3) := by decide +kernel
theorem dL_isPlaceFor_123 : decode cL_isPlaceFor 123 = .ok (.iconst 0, 1) := by decide +kernel
theorem dL_isPlaceFor_124 : decode cL_isPlaceFor 124 = .ok (.istore 6, 2) := by decide +kernel
theorem dL_isPlaceFor_126 : decode cL_isPlaceFor 126 = .ok (.iinc 7 1, 3) := by decide +kernel
theorem dL_isPlaceFor_129 : decode cL_isPlaceFor 129 = .ok (.goto (-42), 3) := by decide +kernel
theorem dL_isPlaceFor_132 : decode cL_isPlaceFor 132 = .ok (.iload 6, 2) := by decide +kernel
theorem dL_isPlaceFor_134 : decode cL_isPlaceFor 134 = .ok (.ifCond .eq 38, 3) := by decide +kernel
theorem dL_isPlaceFor_137 : decode cL_isPlaceFor 137 = .ok (.iload 4, 2) := by decide +kernel
theorem dL_isPlaceFor_139 : decode cL_isPlaceFor 139 = .ok (.ifCond .lt 13, 3) := by decide +kernel
theorem dL_isPlaceFor_142 : decode cL_isPlaceFor 142 = .ok (.aload_n 0, 1) := by decide +kernel
theorem dL_isPlaceFor_143 : decode cL_isPlaceFor 143 = .ok (.iload_n 1, 1) := by decide +kernel
theorem dL_isPlaceFor_144 : decode cL_isPlaceFor 144 = .ok (.iload 4, 2) := by decide +kernel
theorem dL_isPlaceFor_146 : decode cL_isPlaceFor 146 = .ok (.invokevirtual 64, 3) := by decide +kernel
theorem dL_isPlaceFor_149 : decode cL_isPlaceFor 149 = .ok (.ifCond .eq 23, 3) := by decide +kernel
theorem dL_isPlaceFor_152 : decode cL_isPlaceFor 152 = .ok (.iload 5, 2) := by decide +kernel
theorem dL_isPlaceFor_154 : decode cL_isPlaceFor 154 = .ok (.ifCond .eq 14, 3) := by decide +kernel
theorem dL_isPlaceFor_157 : decode cL_isPlaceFor 157 = .ok (.iload 4, 2) := by decide +kernel
theorem dL_isPlaceFor_159 : decode cL_isPlaceFor 159 = .ok (.ifCond .lt 13, 3) := by decide +kernel
theorem dL_isPlaceFor_162 : decode cL_isPlaceFor 162 = .ok (.iload 4, 2) := by decide +kernel
theorem dL_isPlaceFor_164 : decode cL_isPlaceFor 164 = .ok (.iload_n 2, 1) := by decide +kernel
theorem dL_isPlaceFor_165 : decode cL_isPlaceFor 165 = .ok (.if_icmp .gt 7, 3) := by decide +kernel
theorem dL_isPlaceFor_168 : decode cL_isPlaceFor 168 = .ok (.iconst 1, 1) := by decide +kernel
theorem dL_isPlaceFor_169 : decode cL_isPlaceFor 169 = .ok (.goto 4, 3) := by decide +kernel
theorem dL_isPlaceFor_172 : decode cL_isPlaceFor 172 = .ok (.iconst 0, 1) := by decide +kernel
theorem dL_isPlaceFor_173 : decode cL_isPlaceFor 173 = .ok (.ireturn, 1) := by decide +kernel
theorem dL_isLeaving_0 : decode cL_isLeaving 0 = .ok (.bipush 16, 2) := by decide +kernel
theorem dL_isLeaving_2 : decode cL_isLeaving 2 = .ok (.newarray .int, 2) := by decide +kernel
theorem dL_isLeaving_4 : decode cL_isLeaving 4 = .ok (.astore_n 2, 1) := by decide +kernel
theorem dL_isLeaving_5 : decode cL_isLeaving 5 = .ok (.aload_n 0, 1) := by decide +kernel
theorem dL_isLeaving_6 : decode cL_isLeaving 6 = .ok (.invokevirtual 93, 3) := by decide +kernel
theorem dL_isLeaving_9 : decode cL_isLeaving 9 = .ok (.istore_n 3, 1) := by decide +kernel
theorem dL_isLeaving_10 : decode cL_isLeaving 10 = .ok (.aload_n 0, 1) := by decide +kernel
theorem dL_isLeaving_11 : decode cL_isLeaving 11 = .ok (.invokevirtual 113, 3) := by decide +kernel
theorem dL_isLeaving_14 : decode cL_isLeaving 14 = .ok (.istore 4, 2) := by decide +kernel
theorem dL_isLeaving_16 : decode cL_isLeaving 16 = .ok (.iconst 0, 1) := by decide +kernel
theorem dL_isLeaving_17 : decode cL_isLeaving 17 = .ok (.istore 5, 2) := by decide +kernel
theorem dL_isLeaving_19 : decode cL_isLeaving 19 = .ok (.iload_n 3, 1) := by decide +kernel
theorem dL_isLeaving_20 : decode cL_isLeaving 20 = .ok (.aload_n 1, 1) := by decide +kernel
theorem dL_isLeaving_21 : decode cL_isLeaving 21 = .ok (.iconst 0, 1) := by decide +kernel
theorem dL_isLeaving_22 : decode cL_isLeaving 22 = .ok (.iaload, 1) := by decide +kernel
theorem dL_isLeaving_23 : decode cL_isLeaving 23 = .ok (.ishr, 1) := by decide +kernel
theorem dL_isLeaving_24 : decode cL_isLeaving 24 = .ok (.ifCond .ne 24, 3) := by decide +kernel
theorem dL_isLeaving_27 : decode cL_isLeaving 27 = .ok (.iload 4, 2) := by decide +kernel
theorem dL_isLeaving_29 : decode cL_isLeaving 29 = .ok (.ifCond .ne 7, 3) := by decide +kernel
theorem dL_isLeaving_32 : decode cL_isLeaving 32 = .ok (.iconst 1, 1) := by decide +kernel
theorem dL_isLeaving_33 : decode cL_isLeaving 33 = .ok (.goto 4, 3) := by decide +kernel
theorem dL_isLeaving_36 : decode cL_isLeaving 36 = .ok (.iconst 0, 1) := by decide +kernel
theorem dL_isLeaving_37 : decode cL_isLeaving 37 = .ok (.aload_n 0, 1) := by decide +kernel
theorem dL_isLeaving_38 : decode cL_isLeaving 38 = .ok (.invokevirtual 109, 3) := by decide +kernel
theorem dL_isLeaving_41 : decode cL_isLeaving 41 = .ok (.if_icmp .ne 7, 3) := by decide +kernel
theorem dL_isLeaving_44 : decode cL_isLeaving 44 = .ok (.iconst 1, 1) := by decide +kernel
theorem dL_isLeaving_45 : decode cL_isLeaving 45 = .ok (.goto 4, 3) := by decide +kernel
theorem dL_isLeaving_48 : decode cL_isLeaving 48 = .ok (.iconst 0, 1) := by decide +kernel
theorem dL_isLeaving_49 : decode cL_isLeaving 49 = .ok (.istore 6, 2) := by decide +kernel
theorem dL_isLeaving_51 : decode cL_isLeaving 51 = .ok (.iconst 0, 1) := by decide +kernel
theorem dL_isLeaving_52 : decode cL_isLeaving 52 = .ok (.istore 7, 2) := by decide +kernel
theorem dL_isLeaving_54 : decode cL_isLeaving 54 = .ok (.iload 7, 2) := by decide +kernel
theorem dL_isLeaving_56 : decode cL_isLeaving 56 = .ok (.aload_n 1, 1) := by decide +kernel
theorem dL_isLeaving_57 : decode cL_isLeaving 57 = .ok (.iconst 0, 1) := by decide +kernel
theorem dL_isLeaving_58 : decode cL_isLeaving 58 = .ok (.iaload, 1) := by decide +kernel
theorem dL_isLeaving_59 : decode cL_isLeaving 59 = .ok (.if_icmp .ge 30, 3) := by decide +kernel
theorem dL_isLeaving_62 : decode cL_isLeaving 62 = .ok (.aload_n 2, 1) := by decide +kernel
theorem dL_isLeaving_63 : decode cL_isLeaving 63 = .ok (.iload 7, 2) := by decide +kernel
theorem dL_isLeaving_65 : decode cL_isLeaving 65 = .ok (.aload_n 0, 1) := by decide +kernel
theorem dL_isLeaving_66 : decode cL_isLeaving 66 = .ok (.iload 7, 2) := by decide +kernel
theorem dL_isLeaving_68 : decode cL_isLeaving 68 = .ok (.invokevirtual 40, 3) := by decide +kernel
theorem dL_isLeaving_71 : decode cL_isLeaving 71 = .ok (.iastore, 1) := by decide +kernel
theorem dL_isLeaving_72 : decode cL_isLeaving 72 = .ok (.iload 5, 2) := by decide +kernel
theorem dL_isLeaving_74 : decode cL_isLeaving 74 = .ok (.iload_n 3, 1) := by decide +kernel
theorem dL_isLeaving_75 : decode cL_isLeaving 75 = .ok (.iload 7, 2) := by decide +kernel
theorem dL_isLeaving_77 : decode cL_isLeaving 77 = .ok (.ishr, 1) := by decide +kernel
theorem dL_isLeaving_78 : decode cL_isLeaving 78 = .ok (.iconst 1, 1) := by decide +kernel
theorem dL_isLeaving_79 : decode cL_isLeaving 79 = .ok (.iand, 1) := by decide +kernel
theorem dL_isLeaving_80 : decode cL_isLeaving 80 = .ok (.iadd, 1) := by decide +kernel
theorem dL_isLeaving_81 : decode cL_isLeaving 81 = .ok (.istore 5, 2) := by decide +kernel
theorem dL_isLeaving_83 : decode cL_isLeaving 83 = .ok (.iinc 7 1, 3) := by decide +kernel
theorem dL_isLeaving_86 : decode cL_isLeaving 86 = .ok (.goto (-32), 3) := by decide +kernel
theorem dL_isLeaving_89 : decode cL_isLeaving 89 = .ok (.iconst 0, 1) := by decide +kernel
theorem dL_isLeaving_90 : decode cL_isLeaving 90 = .ok (.istore 7, 2) := by decide +kernel
theorem dL_isLeaving_92 : decode cL_isLeaving 92 = .ok (.iload 7, 2) := by decide +kernel
theorem dL_isLeaving_94 : decode cL_isLeaving 94 = .ok (.aload_n 1, 1) := by decide +kernel
theorem dL_isLeaving_95 : decode cL_isLeaving 95 = .ok (.iconst 0, 1) := by decide +kernel
theorem dL_isLeaving_96 : decode cL_isLeaving 96 = .ok (.iaload, 1) := by decide +kernel
theorem dL_isLeaving_97 : decode cL_isLeaving 97 = .ok (.if_icmp .ge 51, 3) := by decide +kernel
theorem dL_isLeaving_100 : decode cL_isLeaving 100 = .ok (.iload 6, 2) := by decide +kernel
theorem dL_isLeaving_102 : decode cL_isLeaving 102 = .ok (.ifCond .eq 46, 3) := by decide +kernel
theorem dL_isLeaving_105 : decode cL_isLeaving 105 = .ok (.iload_n 3, 1) := by decide +kernel
theorem dL_isLeaving_106 : decode cL_isLeaving 106 = .ok (.iload 7, 2) := by decide +kernel
theorem dL_isLeaving_108 : decode cL_isLeaving 108 = .ok (.ishr, 1) := by decide +kernel
theorem dL_isLeaving_109 : decode cL_isLeaving 109 = .ok (.iconst 1, 1) := by decide +kernel
theorem dL_isLeaving_110 : decode cL_isLeaving 110 = .ok (.iand, 1) := by decide +kernel
theorem dL_isLeaving_111 : decode cL_isLeaving 111 = .ok (.ifCond .eq 24, 3) := by decide +kernel
theorem dL_isLeaving_114 : decode cL_isLeaving 114 = .ok (.aload_n 2, 1) := by decide +kernel
theorem dL_isLeaving_115 : decode cL_isLeaving 115 = .ok (.iload 7, 2) := by decide +kernel
theorem dL_isLeaving_117 : decode cL_isLeaving 117 = .ok (.iaload, 1) := by decide +kernel
theorem dL_isLeaving_118 : decode cL_isLeaving 118 = .ok (.ifCond .lt 21, 3) := by decide +kernel
theorem dL_isLeaving_121 : decode cL_isLeaving 121 = .ok (.aload_n 0, 1) := by decide +kernel
theorem dL_isLeaving_122 : decode cL_isLeaving 122 = .ok (.iload 7, 2) := by decide +kernel
theorem dL_isLeaving_124 : decode cL_isLeaving 124 = .ok (.iconst (-1), 1) := by decide +kernel
theorem dL_isLeaving_125 : decode cL_isLeaving 125 = .ok (.invokevirtual 37, 3) := by decide +kernel
theorem dL_isLeaving_128 : decode cL_isLeaving 128 = .ok (.aload_n 2, 1) := by decide +kernel
theorem dL_isLeaving_129 : decode cL_isLeaving 129 = .ok (.iload 7, 2) := by decide +kernel
theorem dL_isLeaving_131 : decode cL_isLeaving 131 = .ok (.iaload, 1) := by decide +kernel
theorem dL_isLeaving_132 : decode cL_isLeaving 132 = .ok (.if_icmp .ne 7, 3) := by decide +kernel
theorem dL_isLeaving_135 : decode cL_isLeaving 135 = .ok (.iconst 1, 1) := by decide +kernel
theorem dL_isLeaving_136 : decode cL_isLeaving 136 = .ok (.goto 4, 3) := by decide +kernel
theorem dL_isLeaving_139 : decode cL_isLeaving 139 = .ok (.iconst 0, 1) := by decide +kernel
theorem dL_isLeaving_140 : decode cL_isLeaving 140 = .ok (.istore 6, 2) := by decide +kernel
theorem dL_isLeaving_142 : decode cL_isLeaving 142 = .ok (.iinc 7 1, 3) := by decide +kernel
theorem dL_isLeaving_145 : decode cL_isLeaving 145 = .ok (.goto (-53), 3) := by decide +kernel
theorem dL_isLeaving_148 : decode cL_isLeaving 148 = .ok (.iload 6, 2) := by decide +kernel
theorem dL_isLeaving_150 : decode cL_isLeaving 150 = .ok (.ifCond .eq 21, 3) := by decide +kernel
theorem dL_isLeaving_153 : decode cL_isLeaving 153 = .ok (.iload 5, 2) := by decide +kernel
theorem dL_isLeaving_155 : decode cL_isLeaving 155 = .ok (.iload 4, 2) := by decide +kernel
theorem dL_isLeaving_157 : decode cL_isLeaving 157 = .ok (.if_icmp .ne 14, 3) := by decide +kernel
theorem dL_isLeaving_160 : decode cL_isLeaving 160 = .ok (.aload_n 0, 1) := by decide +kernel
theorem dL_isLeaving_161 : decode cL_isLeaving 161 = .ok (.invokevirtual 109, 3) := by decide +kernel
theorem dL_isLeaving_164 : decode cL_isLeaving 164 = .ok (.ifCond .eq 7, 3) := by decide +kernel
theorem dL_isLeaving_167 : decode cL_isLeaving 167 = .ok (.iconst 1, 1) := by decide +kernel
theorem dL_isLeaving_168 : decode cL_isLeaving 168 = .ok (.goto 4, 3) := by decide +kernel
theorem dL_isLeaving_171 : decode cL_isLeaving 171 = .ok (.iconst 0, 1) := by decide +kernel
theorem dL_isLeaving_172 : decode cL_isLeaving 172 = .ok (.istore 6, 2) := by decide +kernel
theorem dL_isLeaving_174 : decode cL_isLeaving 174 = .ok (.iconst 0, 1) := by decide +kernel
theorem dL_isLeaving_175 : decode cL_isLeaving 175 = .ok (.istore 7, 2) := by decide +kernel
theorem dL_isLeaving_177 : decode cL_isLeaving 177 = .ok (.iload 7, 2) := by decide +kernel
theorem dL_isLeaving_179 : decode cL_isLeaving 179 = .ok (.aload_n 1, 1) := by decide +kernel
theorem dL_isLeaving_180 : decode cL_isLeaving 180 = .ok (.iconst 0, 1) := by decide +kernel
theorem dL_isLeaving_181 : decode cL_isLeaving 181 = .ok (.iaload, 1) := by decide +kernel
theorem dL_isLeaving_182 : decode cL_isLeaving 182 = .ok (.if_icmp .ge 87, 3) := by decide +kernel
theorem dL_isLeaving_185 : decode cL_isLeaving 185 = .ok (.iload 6, 2) := by decide +kernel
theorem dL_isLeaving_187 : decode cL_isLeaving 187 = .ok (.ifCond .eq 82, 3) := by decide +kernel
theorem dL_isLeaving_190 : decode cL_isLeaving 190 = .ok (.iload_n 3, 1) := by decide +kernel
theorem dL_isLeaving_191 : decode cL_isLeaving 191 = .ok (.iload 7, 2) := by decide +kernel
theorem dL_isLeaving_193 : decode cL_isLeaving 193 = .ok (.ishr, 1) := by decide +kernel
theorem dL_isLeaving_194 : decode cL_isLeaving 194 = .ok (.iconst 1, 1) := by decide +kernel
theorem dL_isLeaving_195 : decode cL_isLeaving 195 = .ok (.iand, 1) := by decide +kernel
theorem dL_isLeaving_196 : decode cL_isLeaving 196 = .ok (.ifCond .eq 60, 3) := by decide +kernel
theorem dL_isLeaving_199 : decode cL_isLeaving 199 = .ok (.aload_n 0, 1) := by decide +kernel
theorem dL_isLeaving_200 : decode cL_isLeaving 200 = .ok (.iload 7, 2) := by decide +kernel
theorem dL_isLeaving_202 : decode cL_isLeaving 202 = .ok (.aload_n 2, 1) := by decide +kernel
theorem dL_isLeaving_203 : decode cL_isLeaving 203 = .ok (.iload 7, 2) := by decide +kernel
theorem dL_isLeaving_205 : decode cL_isLeaving 205 = .ok (.iaload, 1) := by decide +kernel
theorem dL_isLeaving_206 : decode cL_isLeaving 206 = .ok (.invokevirtual 64, 3) := by decide +kernel
theorem dL_isLeaving_209 : decode cL_isLeaving 209 = .ok (.ifCond .ne 51, 3) := by decide +kernel
theorem dL_isLeaving_212 : decode cL_isLeaving 212 = .ok (.aload_n 0, 1) := by decide +kernel
theorem dL_isLeaving_213 : decode cL_isLeaving 213 = .ok (.iload 7, 2) := by decide +kernel
theorem dL_isLeaving_215 : decode cL_isLeaving 215 = .ok (.aload_n 2, 1) := by decide +kernel
theorem dL_isLeaving_216 : decode cL_isLeaving 216 = .ok (.iload 7, 2) := by decide +kernel
theorem dL_isLeaving_218 : decode cL_isLeaving 218 = .ok (.iaload, 1) := by decide +kernel
theorem dL_isLeaving_219 : decode cL_isLeaving 219 = .ok (.invokevirtual 37, 3) := by decide +kernel
theorem dL_isLeaving_222 : decode cL_isLeaving 222 = .ok (.iconst (-1), 1) := by decide +kernel
theorem dL_isLeaving_223 : decode cL_isLeaving 223 = .ok (.if_icmp .ne 37, 3) := by decide +kernel
theorem dL_isLeaving_226 : decode cL_isLeaving 226 = .ok (.aload_n 0, 1) := by decide +kernel
theorem dL_isLeaving_227 : decode cL_isLeaving 227 = .ok (.invokevirtual 93, 3) := by decide +kernel
theorem dL_isLeaving_230 : decode cL_isLeaving 230 = .ok (.iconst 1, 1) := by decide +kernel
theorem dL_isLeaving_231 : decode cL_isLeaving 231 = .ok (.if_icmp .lt 29, 3) := by decide +kernel
theorem dL_isLeaving_234 : decode cL_isLeaving 234 = .ok (.aload_n 0, 1) := by decide +kernel
theorem dL_isLeaving_235 : decode cL_isLeaving 235 = .ok (.invokevirtual 113, 3) := by decide +kernel
theorem dL_isLeaving_238 : decode cL_isLeaving 238 = .ok (.iconst 1, 1) := by decide +kernel
theorem dL_isLeaving_239 : decode cL_isLeaving 239 = .ok (.if_icmp .ne 21, 3) := by decide +kernel
theorem dL_isLeaving_242 : decode cL_isLeaving 242 = .ok (.aload_n 0, 1) := by decide +kernel
theorem dL_isLeaving_243 : decode cL_isLeaving 243 = .ok (.iload 7, 2) := by decide +kernel
theorem dL_isLeaving_245 : decode cL_isLeaving 245 = .ok (.iconst (-1), 1) := by decide +kernel
theorem dL_isLeaving_246 : decode cL_isLeaving 246 = .ok (.invokevirtual 37, 3) := by decide +kernel
theorem dL_isLeaving_249 : decode cL_isLeaving 249 = .ok (.aload_n 2, 1) := by decide +kernel
theorem dL_isLeaving_250 : decode cL_isLeaving 250 = .ok (.iload 7, 2) := by decide +kernel
theorem dL_isLeaving_252 : decode cL_isLeaving 252 = .ok (.iaload, 1) := by decide +kernel
theorem dL_isLeaving_253 : decode cL_isLeaving 253 = .ok (.if_icmp .ne 7, 3) := by decide +kernel
theorem dL_isLeaving_256 : decode cL_isLeaving 256 = .ok (.iconst 1, 1) := by decide +kernel
theorem dL_isLeaving_257 : decode cL_isLeaving 257 = .ok (.goto 4, 3) := by decide +kernel
theorem dL_isLeaving_260 : decode cL_isLeaving 260 = .ok (.iconst 0, 1) := by decide +kernel
theorem dL_isLeaving_261 : decode cL_isLeaving 261 = .ok (.istore 6, 2) := by decide +kernel
theorem dL_isLeaving_263 : decode cL_isLeaving 263 = .ok (.iinc 7 1, 3) := by decide +kernel
theorem dL_isLeaving_266 : decode cL_isLeaving 266 = .ok (.goto (-89), 3) := by decide +kernel
theorem dL_isLeaving_269 : decode cL_isLeaving 269 = .ok (.iconst 0, 1) := by decide +kernel
theorem dL_isLeaving_270 : decode cL_isLeaving 270 = .ok (.istore 7, 2) := by decide +kernel
theorem dL_isLeaving_272 : decode cL_isLeaving 272 = .ok (.iload 7, 2) := by decide +kernel
theorem dL_isLeaving_274 : decode cL_isLeaving 274 = .ok (.aload_n 1, 1) := by decide +kernel
theorem dL_isLeaving_275 : decode cL_isLeaving 275 = .ok (.iconst 0, 1) := by decide +kernel
theorem dL_isLeaving_276 : decode cL_isLeaving 276 = .ok (.iaload, 1) := by decide +kernel
theorem dL_isLeaving_277 : decode cL_isLeaving 277 = .ok (.if_icmp .ge 44, 3) := by decide +kernel
theorem dL_isLeaving_280 : decode cL_isLeaving 280 = .ok (.iload 6, 2) := by decide +kernel
theorem dL_isLeaving_282 : decode cL_isLeaving 282 = .ok (.ifCond .eq 39, 3) := by decide +kernel
theorem dL_isLeaving_285 : decode cL_isLeaving 285 = .ok (.iload_n 3, 1) := by decide +kernel
theorem dL_isLeaving_286 : decode cL_isLeaving 286 = .ok (.iload 7, 2) := by decide +kernel
theorem dL_isLeaving_288 : decode cL_isLeaving 288 = .ok (.ishr, 1) := by decide +kernel
theorem dL_isLeaving_289 : decode cL_isLeaving 289 = .ok (.iconst 1, 1) := by decide +kernel
theorem dL_isLeaving_290 : decode cL_isLeaving 290 = .ok (.iand, 1) := by decide +kernel
theorem dL_isLeaving_291 : decode cL_isLeaving 291 = .ok (.ifCond .eq 17, 3) := by decide +kernel
theorem dL_isLeaving_294 : decode cL_isLeaving 294 = .ok (.aload_n 0, 1) := by decide +kernel
theorem dL_isLeaving_295 : decode cL_isLeaving 295 = .ok (.iload 7, 2) := by decide +kernel
theorem dL_isLeaving_297 : decode cL_isLeaving 297 = .ok (.aload_n 2, 1) := by decide +kernel
theorem dL_isLeaving_298 : decode cL_isLeaving 298 = .ok (.iload 7, 2) := by decide +kernel
theorem dL_isLeaving_300 : decode cL_isLeaving 300 = .ok (.iaload, 1) := by decide +kernel
theorem dL_isLeaving_301 : decode cL_isLeaving 301 = .ok (.invokevirtual 37, 3) := by decide +kernel
theorem dL_isLeaving_304 : decode cL_isLeaving 304 = .ok (.iconst (-1), 1) := by decide +kernel
theorem dL_isLeaving_305 : decode cL_isLeaving 305 = .ok (.if_icmp .ne 7, 3) := by decide +kernel
theorem dL_isLeaving_308 : decode cL_isLeaving 308 = .ok (.iconst 1, 1) := by decide +kernel
theorem dL_isLeaving_309 : decode cL_isLeaving 309 = .ok (.goto 4, 3) := by decide +kernel
