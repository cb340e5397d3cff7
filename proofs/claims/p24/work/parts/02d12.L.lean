theorem dL_isLeaving_312 : decode cL_isLeaving 312 = .ok (.iconst 0, 1) := by decide +kernel
theorem dL_isLeaving_313 : decode cL_isLeaving 313 = .ok (.istore 6, 2) := by decide +kernel
theorem dL_isLeaving_315 : decode cL_isLeaving 315 = .ok (.iinc 7 1, 3) := by decide +kernel
theorem dL_isLeaving_318 : decode cL_isLeaving 318 = .ok (.goto (-46), 3) := by decide +kernel
theorem dL_isLeaving_321 : decode cL_isLeaving 321 = .ok (.iload 6, 2) := by decide +kernel
theorem dL_isLeaving_323 : decode cL_isLeaving 323 = .ok (.ifCond .eq 24, 3) := by decide +kernel
theorem dL_isLeaving_326 : decode cL_isLeaving 326 = .ok (.aload_n 0, 1) := by decide +kernel
theorem dL_isLeaving_327 : decode cL_isLeaving 327 = .ok (.invokevirtual 93, 3) := by decide +kernel
theorem dL_isLeaving_330 : decode cL_isLeaving 330 = .ok (.iload_n 3, 1) := by decide +kernel
theorem dL_isLeaving_331 : decode cL_isLeaving 331 = .ok (.if_icmp .ne 16, 3) := by decide +kernel
theorem dL_isLeaving_334 : decode cL_isLeaving 334 = .ok (.aload_n 0, 1) := by decide +kernel
theorem dL_isLeaving_335 : decode cL_isLeaving 335 = .ok (.invokevirtual 113, 3) := by decide +kernel
theorem dL_isLeaving_338 : decode cL_isLeaving 338 = .ok (.iload 4, 2) := by decide +kernel
theorem dL_isLeaving_340 : decode cL_isLeaving 340 = .ok (.if_icmp .ne 7, 3) := by decide +kernel
theorem dL_isLeaving_343 : decode cL_isLeaving 343 = .ok (.iconst 1, 1) := by decide +kernel
theorem dL_isLeaving_344 : decode cL_isLeaving 344 = .ok (.goto 4, 3) := by decide +kernel
theorem dL_isLeaving_347 : decode cL_isLeaving 347 = .ok (.iconst 0, 1) := by decide +kernel
theorem dL_isLeaving_348 : decode cL_isLeaving 348 = .ok (.ireturn, 1) := by decide +kernel
theorem dL_isRefused_0 : decode cL_isRefused 0 = .ok (.iload_n 2, 1) := by decide +kernel
theorem dL_isRefused_1 : decode cL_isRefused 1 = .ok (.iconst 2, 1) := by decide +kernel
theorem dL_isRefused_2 : decode cL_isRefused 2 = .ok (.irem, 1) := by decide +kernel
theorem dL_isRefused_3 : decode cL_isRefused 3 = .ok (.ifCond .ne 7, 3) := by decide +kernel
theorem dL_isRefused_6 : decode cL_isRefused 6 = .ok (.iconst 1, 1) := by decide +kernel
theorem dL_isRefused_7 : decode cL_isRefused 7 = .ok (.goto 4, 3) := by decide +kernel
theorem dL_isRefused_10 : decode cL_isRefused 10 = .ok (.iconst 0, 1) := by decide +kernel
theorem dL_isRefused_11 : decode cL_isRefused 11 = .ok (.istore_n 3, 1) := by decide +kernel
theorem dL_isRefused_12 : decode cL_isRefused 12 = .ok (.iload_n 3, 1) := by decide +kernel
theorem dL_isRefused_13 : decode cL_isRefused 13 = .ok (.ifCond .eq 12, 3) := by decide +kernel
theorem dL_isRefused_16 : decode cL_isRefused 16 = .ok (.iconst 0, 1) := by decide +kernel
theorem dL_isRefused_17 : decode cL_isRefused 17 = .ok (.iload_n 2, 1) := by decide +kernel
theorem dL_isRefused_18 : decode cL_isRefused 18 = .ok (.bipush 40, 2) := by decide +kernel
theorem dL_isRefused_20 : decode cL_isRefused 20 = .ok (.irem, 1) := by decide +kernel
theorem dL_isRefused_21 : decode cL_isRefused 21 = .ok (.isub, 1) := by decide +kernel
theorem dL_isRefused_22 : decode cL_isRefused 22 = .ok (.goto 10, 3) := by decide +kernel
theorem dL_isRefused_25 : decode cL_isRefused 25 = .ok (.bipush 10, 2) := by decide +kernel
theorem dL_isRefused_27 : decode cL_isRefused 27 = .ok (.iload_n 2, 1) := by decide +kernel
theorem dL_isRefused_28 : decode cL_isRefused 28 = .ok (.bipush 40, 2) := by decide +kernel
theorem dL_isRefused_30 : decode cL_isRefused 30 = .ok (.irem, 1) := by decide +kernel
theorem dL_isRefused_31 : decode cL_isRefused 31 = .ok (.iadd, 1) := by decide +kernel
theorem dL_isRefused_32 : decode cL_isRefused 32 = .ok (.istore 4, 2) := by decide +kernel
theorem dL_isRefused_34 : decode cL_isRefused 34 = .ok (.iload_n 3, 1) := by decide +kernel
theorem dL_isRefused_35 : decode cL_isRefused 35 = .ok (.ifCond .eq 12, 3) := by decide +kernel
theorem dL_isRefused_38 : decode cL_isRefused 38 = .ok (.iconst (-1), 1) := by decide +kernel
theorem dL_isRefused_39 : decode cL_isRefused 39 = .ok (.iload_n 2, 1) := by decide +kernel
theorem dL_isRefused_40 : decode cL_isRefused 40 = .ok (.bipush 40, 2) := by decide +kernel
theorem dL_isRefused_42 : decode cL_isRefused 42 = .ok (.irem, 1) := by decide +kernel
theorem dL_isRefused_43 : decode cL_isRefused 43 = .ok (.isub, 1) := by decide +kernel
theorem dL_isRefused_44 : decode cL_isRefused 44 = .ok (.goto 11, 3) := by decide +kernel
theorem dL_isRefused_47 : decode cL_isRefused 47 = .ok (.aload_n 1, 1) := by decide +kernel
theorem dL_isRefused_48 : decode cL_isRefused 48 = .ok (.iconst 0, 1) := by decide +kernel
theorem dL_isRefused_49 : decode cL_isRefused 49 = .ok (.iaload, 1) := by decide +kernel
theorem dL_isRefused_50 : decode cL_isRefused 50 = .ok (.iload_n 2, 1) := by decide +kernel
theorem dL_isRefused_51 : decode cL_isRefused 51 = .ok (.bipush 40, 2) := by decide +kernel
theorem dL_isRefused_53 : decode cL_isRefused 53 = .ok (.irem, 1) := by decide +kernel
theorem dL_isRefused_54 : decode cL_isRefused 54 = .ok (.iadd, 1) := by decide +kernel
theorem dL_isRefused_55 : decode cL_isRefused 55 = .ok (.istore 5, 2) := by decide +kernel
theorem dL_isRefused_57 : decode cL_isRefused 57 = .ok (.iload_n 3, 1) := by decide +kernel
theorem dL_isRefused_58 : decode cL_isRefused 58 = .ok (.ifCond .eq 13, 3) := by decide +kernel
theorem dL_isRefused_61 : decode cL_isRefused 61 = .ok (.bipush (-2), 2) := by decide +kernel
theorem dL_isRefused_63 : decode cL_isRefused 63 = .ok (.iload_n 2, 1) := by decide +kernel
theorem dL_isRefused_64 : decode cL_isRefused 64 = .ok (.bipush 40, 2) := by decide +kernel
theorem dL_isRefused_66 : decode cL_isRefused 66 = .ok (.irem, 1) := by decide +kernel
theorem dL_isRefused_67 : decode cL_isRefused 67 = .ok (.isub, 1) := by decide +kernel
theorem dL_isRefused_68 : decode cL_isRefused 68 = .ok (.goto 10, 3) := by decide +kernel
theorem dL_isRefused_71 : decode cL_isRefused 71 = .ok (.bipush 48, 2) := by decide +kernel
theorem dL_isRefused_73 : decode cL_isRefused 73 = .ok (.iload_n 2, 1) := by decide +kernel
theorem dL_isRefused_74 : decode cL_isRefused 74 = .ok (.bipush 40, 2) := by decide +kernel
theorem dL_isRefused_76 : decode cL_isRefused 76 = .ok (.irem, 1) := by decide +kernel
theorem dL_isRefused_77 : decode cL_isRefused 77 = .ok (.iadd, 1) := by decide +kernel
theorem dL_isRefused_78 : decode cL_isRefused 78 = .ok (.istore 6, 2) := by decide +kernel
theorem dL_isRefused_80 : decode cL_isRefused 80 = .ok (.iload_n 3, 1) := by decide +kernel
theorem dL_isRefused_81 : decode cL_isRefused 81 = .ok (.ifCond .eq 12, 3) := by decide +kernel
theorem dL_isRefused_84 : decode cL_isRefused 84 = .ok (.iconst 0, 1) := by decide +kernel
theorem dL_isRefused_85 : decode cL_isRefused 85 = .ok (.iload_n 2, 1) := by decide +kernel
theorem dL_isRefused_86 : decode cL_isRefused 86 = .ok (.bipush 40, 2) := by decide +kernel
theorem dL_isRefused_88 : decode cL_isRefused 88 = .ok (.irem, 1) := by decide +kernel
theorem dL_isRefused_89 : decode cL_isRefused 89 = .ok (.isub, 1) := by decide +kernel
theorem dL_isRefused_90 : decode cL_isRefused 90 = .ok (.goto 11, 3) := by decide +kernel
theorem dL_isRefused_93 : decode cL_isRefused 93 = .ok (.sipush 10001, 3) := by decide +kernel
theorem dL_isRefused_96 : decode cL_isRefused 96 = .ok (.iload_n 2, 1) := by decide +kernel
theorem dL_isRefused_97 : decode cL_isRefused 97 = .ok (.bipush 40, 2) := by decide +kernel
theorem dL_isRefused_99 : decode cL_isRefused 99 = .ok (.irem, 1) := by decide +kernel
theorem dL_isRefused_100 : decode cL_isRefused 100 = .ok (.iadd, 1) := by decide +kernel
theorem dL_isRefused_101 : decode cL_isRefused 101 = .ok (.istore 7, 2) := by decide +kernel
theorem dL_isRefused_103 : decode cL_isRefused 103 = .ok (.aload_n 0, 1) := by decide +kernel
theorem dL_isRefused_104 : decode cL_isRefused 104 = .ok (.invokestatic 116, 3) := by decide +kernel
theorem dL_isRefused_107 : decode cL_isRefused 107 = .ok (.lstore 8, 2) := by decide +kernel
theorem dL_isRefused_109 : decode cL_isRefused 109 = .ok (.aload_n 0, 1) := by decide +kernel
theorem dL_isRefused_110 : decode cL_isRefused 110 = .ok (.iconst 0, 1) := by decide +kernel
theorem dL_isRefused_111 : decode cL_isRefused 111 = .ok (.iload 4, 2) := by decide +kernel
theorem dL_isRefused_113 : decode cL_isRefused 113 = .ok (.iconst 1, 1) := by decide +kernel
theorem dL_isRefused_114 : decode cL_isRefused 114 = .ok (.iconst 1, 1) := by decide +kernel
theorem dL_isRefused_115 : decode cL_isRefused 115 = .ok (.invokestatic 120, 3) := by decide +kernel
theorem dL_isRefused_118 : decode cL_isRefused 118 = .ok (.sipush (-702), 3) := by decide +kernel
theorem dL_isRefused_121 : decode cL_isRefused 121 = .ok (.if_icmp .ne 283, 3) := by decide +kernel
theorem dL_isRefused_124 : decode cL_isRefused 124 = .ok (.aload_n 0, 1) := by decide +kernel
theorem dL_isRefused_125 : decode cL_isRefused 125 = .ok (.iconst 0, 1) := by decide +kernel
theorem dL_isRefused_126 : decode cL_isRefused 126 = .ok (.iconst 1, 1) := by decide +kernel
theorem dL_isRefused_127 : decode cL_isRefused 127 = .ok (.iload 4, 2) := by decide +kernel
theorem dL_isRefused_129 : decode cL_isRefused 129 = .ok (.iconst 1, 1) := by decide +kernel
theorem dL_isRefused_130 : decode cL_isRefused 130 = .ok (.invokestatic 120, 3) := by decide +kernel
theorem dL_isRefused_133 : decode cL_isRefused 133 = .ok (.sipush (-702), 3) := by decide +kernel
theorem dL_isRefused_136 : decode cL_isRefused 136 = .ok (.if_icmp .ne 268, 3) := by decide +kernel
theorem dL_isRefused_139 : decode cL_isRefused 139 = .ok (.aload_n 0, 1) := by decide +kernel
theorem dL_isRefused_140 : decode cL_isRefused 140 = .ok (.iconst 0, 1) := by decide +kernel
theorem dL_isRefused_141 : decode cL_isRefused 141 = .ok (.iconst 1, 1) := by decide +kernel
theorem dL_isRefused_142 : decode cL_isRefused 142 = .ok (.iconst 2, 1) := by decide +kernel
theorem dL_isRefused_143 : decode cL_isRefused 143 = .ok (.iload_n 3, 1) := by decide +kernel
theorem dL_isRefused_144 : decode cL_isRefused 144 = .ok (.ifCond .eq 7, 3) := by decide +kernel
theorem dL_isRefused_147 : decode cL_isRefused 147 = .ok (.iconst (-1), 1) := by decide +kernel
theorem dL_isRefused_148 : decode cL_isRefused 148 = .ok (.goto 4, 3) := by decide +kernel
theorem dL_isRefused_151 : decode cL_isRefused 151 = .ok (.iconst 5, 1) := by decide +kernel
theorem dL_isRefused_152 : decode cL_isRefused 152 = .ok (.invokestatic 120, 3) := by decide +kernel
theorem dL_isRefused_155 : decode cL_isRefused 155 = .ok (.sipush (-702), 3) := by decide +kernel
theorem dL_isRefused_158 : decode cL_isRefused 158 = .ok (.if_icmp .ne 246, 3) := by decide +kernel
theorem dL_isRefused_161 : decode cL_isRefused 161 = .ok (.aload_n 0, 1) := by decide +kernel
theorem dL_isRefused_162 : decode cL_isRefused 162 = .ok (.iconst 1, 1) := by decide +kernel
theorem dL_isRefused_163 : decode cL_isRefused 163 = .ok (.iload 4, 2) := by decide +kernel
theorem dL_isRefused_165 : decode cL_isRefused 165 = .ok (.iconst 0, 1) := by decide +kernel
theorem dL_isRefused_166 : decode cL_isRefused 166 = .ok (.iconst 1, 1) := by decide +kernel
theorem dL_isRefused_167 : decode cL_isRefused 167 = .ok (.invokestatic 120, 3) := by decide +kernel
theorem dL_isRefused_170 : decode cL_isRefused 170 = .ok (.sipush (-702), 3) := by decide +kernel
theorem dL_isRefused_173 : decode cL_isRefused 173 = .ok (.if_icmp .ne 231, 3) := by decide +kernel
theorem dL_isRefused_176 : decode cL_isRefused 176 = .ok (.aload_n 0, 1) := by decide +kernel
theorem dL_isRefused_177 : decode cL_isRefused 177 = .ok (.iconst 1, 1) := by decide +kernel
theorem dL_isRefused_178 : decode cL_isRefused 178 = .ok (.iconst 1, 1) := by decide +kernel
theorem dL_isRefused_179 : decode cL_isRefused 179 = .ok (.iload_n 3, 1) := by decide +kernel
theorem dL_isRefused_180 : decode cL_isRefused 180 = .ok (.ifCond .eq 7, 3) := by decide +kernel
theorem dL_isRefused_183 : decode cL_isRefused 183 = .ok (.iconst (-1), 1) := by decide +kernel
theorem dL_isRefused_184 : decode cL_isRefused 184 = .ok (.goto 4, 3) := by decide +kernel
theorem dL_isRefused_187 : decode cL_isRefused 187 = .ok (.iconst 2, 1) := by decide +kernel
theorem dL_isRefused_188 : decode cL_isRefused 188 = .ok (.iconst 1, 1) := by decide +kernel
theorem dL_isRefused_189 : decode cL_isRefused 189 = .ok (.invokestatic 120, 3) := by decide +kernel
theorem dL_isRefused_192 : decode cL_isRefused 192 = .ok (.sipush (-702), 3) := by decide +kernel
theorem dL_isRefused_195 : decode cL_isRefused 195 = .ok (.if_icmp .ne 209, 3) := by decide +kernel
theorem dL_isRefused_198 : decode cL_isRefused 198 = .ok (.aload_n 0, 1) := by decide +kernel
theorem dL_isRefused_199 : decode cL_isRefused 199 = .ok (.iconst 2, 1) := by decide +kernel
theorem dL_isRefused_200 : decode cL_isRefused 200 = .ok (.iload 6, 2) := by decide +kernel
theorem dL_isRefused_202 : decode cL_isRefused 202 = .ok (.iconst 0, 1) := by decide +kernel
theorem dL_isRefused_203 : decode cL_isRefused 203 = .ok (.iconst 0, 1) := by decide +kernel
theorem dL_isRefused_204 : decode cL_isRefused 204 = .ok (.invokestatic 120, 3) := by decide +kernel
theorem dL_isRefused_207 : decode cL_isRefused 207 = .ok (.sipush (-702), 3) := by decide +kernel
theorem dL_isRefused_210 : decode cL_isRefused 210 = .ok (.if_icmp .ne 194, 3) := by decide +kernel
theorem dL_isRefused_213 : decode cL_isRefused 213 = .ok (.aload_n 0, 1) := by decide +kernel
theorem dL_isRefused_214 : decode cL_isRefused 214 = .ok (.iconst 2, 1) := by decide +kernel
theorem dL_isRefused_215 : decode cL_isRefused 215 = .ok (.iconst 0, 1) := by decide +kernel
theorem dL_isRefused_216 : decode cL_isRefused 216 = .ok (.iload 6, 2) := by decide +kernel
theorem dL_isRefused_218 : decode cL_isRefused 218 = .ok (.iconst 0, 1) := by decide +kernel
theorem dL_isRefused_219 : decode cL_isRefused 219 = .ok (.invokestatic 120, 3) := by decide +kernel
theorem dL_isRefused_222 : decode cL_isRefused 222 = .ok (.sipush (-702), 3) := by decide +kernel
theorem dL_isRefused_225 : decode cL_isRefused 225 = .ok (.if_icmp .ne 179, 3) := by decide +kernel
theorem dL_isRefused_228 : decode cL_isRefused 228 = .ok (.aload_n 0, 1) := by decide +kernel
theorem dL_isRefused_229 : decode cL_isRefused 229 = .ok (.iconst 2, 1) := by decide +kernel
theorem dL_isRefused_230 : decode cL_isRefused 230 = .ok (.iconst (-1), 1) := by decide +kernel
theorem dL_isRefused_231 : decode cL_isRefused 231 = .ok (.iconst 5, 1) := by decide +kernel
theorem dL_isRefused_232 : decode cL_isRefused 232 = .ok (.iconst 0, 1) := by decide +kernel
theorem dL_isRefused_233 : decode cL_isRefused 233 = .ok (.invokestatic 120, 3) := by decide +kernel
theorem dL_isRefused_236 : decode cL_isRefused 236 = .ok (.sipush (-702), 3) := by decide +kernel
theorem dL_isRefused_239 : decode cL_isRefused 239 = .ok (.if_icmp .ne 165, 3) := by decide +kernel
theorem dL_isRefused_242 : decode cL_isRefused 242 = .ok (.aload_n 0, 1) := by decide +kernel
theorem dL_isRefused_243 : decode cL_isRefused 243 = .ok (.iconst 3, 1) := by decide +kernel
theorem dL_isRefused_244 : decode cL_isRefused 244 = .ok (.iload 4, 2) := by decide +kernel
theorem dL_isRefused_246 : decode cL_isRefused 246 = .ok (.iconst (-1), 1) := by decide +kernel
theorem dL_isRefused_247 : decode cL_isRefused 247 = .ok (.iconst 5, 1) := by decide +kernel
theorem dL_isRefused_248 : decode cL_isRefused 248 = .ok (.invokestatic 120, 3) := by decide +kernel
theorem dL_isRefused_251 : decode cL_isRefused 251 = .ok (.sipush (-702), 3) := by decide +kernel
theorem dL_isRefused_254 : decode cL_isRefused 254 = .ok (.if_icmp .ne 150, 3) := by decide +kernel
theorem dL_isRefused_257 : decode cL_isRefused 257 = .ok (.aload_n 0, 1) := by decide +kernel
theorem dL_isRefused_258 : decode cL_isRefused 258 = .ok (.iconst 3, 1) := by decide +kernel
theorem dL_isRefused_259 : decode cL_isRefused 259 = .ok (.iconst 1, 1) := by decide +kernel
theorem dL_isRefused_260 : decode cL_isRefused 260 = .ok (.iload_n 3, 1) := by decide +kernel
theorem dL_isRefused_261 : decode cL_isRefused 261 = .ok (.ifCond .eq 7, 3) := by decide +kernel
theorem dL_isRefused_264 : decode cL_isRefused 264 = .ok (.iconst 0, 1) := by decide +kernel
theorem dL_isRefused_265 : decode cL_isRefused 265 = .ok (.goto 5, 3) := by decide +kernel
theorem dL_isRefused_268 : decode cL_isRefused 268 = .ok (.bipush 10, 2) := by decide +kernel
theorem dL_isRefused_270 : decode cL_isRefused 270 = .ok (.iconst 5, 1) := by decide +kernel
theorem dL_isRefused_271 : decode cL_isRefused 271 = .ok (.invokestatic 120, 3) := by decide +kernel
theorem dL_isRefused_274 : decode cL_isRefused 274 = .ok (.sipush (-702), 3) := by decide +kernel
theorem dL_isRefused_277 : decode cL_isRefused 277 = .ok (.if_icmp .ne 127, 3) := by decide +kernel
theorem dL_isRefused_280 : decode cL_isRefused 280 = .ok (.aload_n 0, 1) := by decide +kernel
theorem dL_isRefused_281 : decode cL_isRefused 281 = .ok (.iconst 3, 1) := by decide +kernel
theorem dL_isRefused_282 : decode cL_isRefused 282 = .ok (.iconst 1, 1) := by decide +kernel
theorem dL_isRefused_283 : decode cL_isRefused 283 = .ok (.iload_n 2, 1) := by decide +kernel
theorem dL_isRefused_284 : decode cL_isRefused 284 = .ok (.bipush 9, 2) := by decide +kernel
theorem dL_isRefused_286 : decode cL_isRefused 286 = .ok (.irem, 1) := by decide +kernel
theorem dL_isRefused_287 : decode cL_isRefused 287 = .ok (.iadd, 1) := by decide +kernel
theorem dL_isRefused_288 : decode cL_isRefused 288 = .ok (.iconst 1, 1) := by decide +kernel
theorem dL_isRefused_289 : decode cL_isRefused 289 = .ok (.iload_n 2, 1) := by decide +kernel
theorem dL_isRefused_290 : decode cL_isRefused 290 = .ok (.bipush 9, 2) := by decide +kernel
theorem dL_isRefused_292 : decode cL_isRefused 292 = .ok (.irem, 1) := by decide +kernel
theorem dL_isRefused_293 : decode cL_isRefused 293 = .ok (.iadd, 1) := by decide +kernel
theorem dL_isRefused_294 : decode cL_isRefused 294 = .ok (.iconst 5, 1) := by decide +kernel
theorem dL_isRefused_295 : decode cL_isRefused 295 = .ok (.invokestatic 120, 3) := by decide +kernel
theorem dL_isRefused_298 : decode cL_isRefused 298 = .ok (.sipush (-702), 3) := by decide +kernel
theorem dL_isRefused_301 : decode cL_isRefused 301 = .ok (.if_icmp .ne 103, 3) := by decide +kernel
theorem dL_isRefused_304 : decode cL_isRefused 304 = .ok (.aload_n 0, 1) := by decide +kernel
theorem dL_isRefused_305 : decode cL_isRefused 305 = .ok (.iconst 3, 1) := by decide +kernel
theorem dL_isRefused_306 : decode cL_isRefused 306 = .ok (.iconst 1, 1) := by decide +kernel
theorem dL_isRefused_307 : decode cL_isRefused 307 = .ok (.iconst (-1), 1) := by decide +kernel
theorem dL_isRefused_308 : decode cL_isRefused 308 = .ok (.iload 7, 2) := by decide +kernel
theorem dL_isRefused_310 : decode cL_isRefused 310 = .ok (.invokestatic 120, 3) := by decide +kernel
theorem dL_isRefused_313 : decode cL_isRefused 313 = .ok (.sipush (-702), 3) := by decide +kernel
theorem dL_isRefused_316 : decode cL_isRefused 316 = .ok (.if_icmp .ne 88, 3) := by decide +kernel
theorem dL_isRefused_319 : decode cL_isRefused 319 = .ok (.aload_n 1, 1) := by decide +kernel
theorem dL_isRefused_320 : decode cL_isRefused 320 = .ok (.iconst 0, 1) := by decide +kernel
theorem dL_isRefused_321 : decode cL_isRefused 321 = .ok (.iaload, 1) := by decide +kernel
theorem dL_isRefused_322 : decode cL_isRefused 322 = .ok (.bipush 16, 2) := by decide +kernel
theorem dL_isRefused_324 : decode cL_isRefused 324 = .ok (.if_icmp .lt 17, 3) := by decide +kernel
theorem dL_isRefused_327 : decode cL_isRefused 327 = .ok (.aload_n 0, 1) := by decide +kernel
theorem dL_isRefused_328 : decode cL_isRefused 328 = .ok (.iconst 3, 1) := by decide +kernel
theorem dL_isRefused_329 : decode cL_isRefused 329 = .ok (.iconst 1, 1) := by decide +kernel
theorem dL_isRefused_330 : decode cL_isRefused 330 = .ok (.iconst (-1), 1) := by decide +kernel
theorem dL_isRefused_331 : decode cL_isRefused 331 = .ok (.iconst 5, 1) := by decide +kernel
theorem dL_isRefused_332 : decode cL_isRefused 332 = .ok (.invokestatic 120, 3) := by decide +kernel
theorem dL_isRefused_335 : decode cL_isRefused 335 = .ok (.sipush (-703), 3) := by decide +kernel
theorem dL_isRefused_338 : decode cL_isRefused 338 = .ok (.if_icmp .ne 66, 3) := by decide +kernel
theorem dL_isRefused_341 : decode cL_isRefused 341 = .ok (.aload_n 0, 1) := by decide +kernel
theorem dL_isRefused_342 : decode cL_isRefused 342 = .ok (.iload 4, 2) := by decide +kernel
theorem dL_isRefused_344 : decode cL_isRefused 344 = .ok (.iconst 5, 1) := by decide +kernel
theorem dL_isRefused_345 : decode cL_isRefused 345 = .ok (.iconst 5, 1) := by decide +kernel
theorem dL_isRefused_346 : decode cL_isRefused 346 = .ok (.invokestatic 124, 3) := by decide +kernel
theorem dL_isRefused_349 : decode cL_isRefused 349 = .ok (.sipush (-702), 3) := by decide +kernel
theorem dL_isRefused_352 : decode cL_isRefused 352 = .ok (.if_icmp .ne 52, 3) := by decide +kernel
theorem dL_isRefused_355 : decode cL_isRefused 355 = .ok (.aload_n 0, 1) := by decide +kernel
theorem dL_isRefused_356 : decode cL_isRefused 356 = .ok (.iconst 1, 1) := by decide +kernel
theorem dL_isRefused_357 : decode cL_isRefused 357 = .ok (.iload_n 3, 1) := by decide +kernel
theorem dL_isRefused_358 : decode cL_isRefused 358 = .ok (.ifCond .eq 7, 3) := by decide +kernel
theorem dL_isRefused_361 : decode cL_isRefused 361 = .ok (.iconst (-1), 1) := by decide +kernel
theorem dL_isRefused_362 : decode cL_isRefused 362 = .ok (.goto 6, 3) := by decide +kernel
theorem dL_isRefused_365 : decode cL_isRefused 365 = .ok (.sipush 10001, 3) := by decide +kernel
theorem dL_isRefused_368 : decode cL_isRefused 368 = .ok (.iconst 0, 1) := by decide +kernel
theorem dL_isRefused_369 : decode cL_isRefused 369 = .ok (.invokestatic 124, 3) := by decide +kernel
theorem dL_isRefused_372 : decode cL_isRefused 372 = .ok (.sipush (-702), 3) := by decide +kernel
theorem dL_isRefused_375 : decode cL_isRefused 375 = .ok (.if_icmp .ne 29, 3) := by decide +kernel
theorem dL_isRefused_378 : decode cL_isRefused 378 = .ok (.aload_n 0, 1) := by decide +kernel
theorem dL_isRefused_379 : decode cL_isRefused 379 = .ok (.iconst 1, 1) := by decide +kernel
theorem dL_isRefused_380 : decode cL_isRefused 380 = .ok (.iconst 5, 1) := by decide +kernel
theorem dL_isRefused_381 : decode cL_isRefused 381 = .ok (.iload_n 3, 1) := by decide +kernel
theorem dL_isRefused_382 : decode cL_isRefused 382 = .ok (.ifCond .eq 7, 3) := by decide +kernel
theorem dL_isRefused_385 : decode cL_isRefused 385 = .ok (.iconst (-1), 1) := by decide +kernel
theorem dL_isRefused_386 : decode cL_isRefused 386 = .ok (.goto 5, 3) := by decide +kernel
theorem dL_isRefused_389 : decode cL_isRefused 389 = .ok (.bipush 6, 2) := by decide +kernel
theorem dL_isRefused_391 : decode cL_isRefused 391 = .ok (.invokestatic 124, 3) := by decide +kernel
theorem dL_isRefused_394 : decode cL_isRefused 394 = .ok (.sipush (-702), 3) := by decide +kernel
theorem dL_isRefused_397 : decode cL_isRefused 397 = .ok (.if_icmp .ne 7, 3) := by decide +kernel
theorem dL_isRefused_400 : decode cL_isRefused 400 = .ok (.iconst 1, 1) := by decide +kernel
theorem dL_isRefused_401 : decode cL_isRefused 401 = .ok (.goto 4, 3) := by decide +kernel
theorem dL_isRefused_404 : decode cL_isRefused 404 = .ok (.iconst 0, 1) := by decide +kernel
theorem dL_isRefused_405 : decode cL_isRefused 405 = .ok (.istore 10, 2) := by decide +kernel
theorem dL_isRefused_407 : decode cL_isRefused 407 = .ok (.iconst 0, 1) := by decide +kernel
theorem dL_isRefused_408 : decode cL_isRefused 408 = .ok (.istore 11, 2) := by decide +kernel
theorem dL_isRefused_410 : decode cL_isRefused 410 = .ok (.iload 11, 2) := by decide +kernel
theorem dL_isRefused_412 : decode cL_isRefused 412 = .ok (.bipush 11, 2) := by decide +kernel
theorem dL_isRefused_414 : decode cL_isRefused 414 = .ok (.if_icmp .ge 37, 3) := by decide +kernel
theorem dL_isRefused_417 : decode cL_isRefused 417 = .ok (.iload 10, 2) := by decide +kernel
theorem dL_isRefused_419 : decode cL_isRefused 419 = .ok (.ifCond .eq 32, 3) := by decide +kernel
theorem dL_isRefused_422 : decode cL_isRefused 422 = .ok (.aload_n 0, 1) := by decide +kernel
theorem dL_isRefused_423 : decode cL_isRefused 423 = .ok (.iload 11, 2) := by decide +kernel
theorem dL_isRefused_425 : decode cL_isRefused 425 = .ok (.iload 5, 2) := by decide +kernel
theorem dL_isRefused_427 : decode cL_isRefused 427 = .ok (.iload 6, 2) := by decide +kernel
theorem dL_isRefused_429 : decode cL_isRefused 429 = .ok (.invokestatic 127, 3) := by decide +kernel
theorem dL_isRefused_432 : decode cL_isRefused 432 = .ok (.sipush (-701), 3) := by decide +kernel
theorem dL_isRefused_435 : decode cL_isRefused 435 = .ok (.if_icmp .ne 7, 3) := by decide +kernel
theorem dL_isRefused_438 : decode cL_isRefused 438 = .ok (.iconst 1, 1) := by decide +kernel
theorem dL_isRefused_439 : decode cL_isRefused 439 = .ok (.goto 4, 3) := by decide +kernel
theorem dL_isRefused_442 : decode cL_isRefused 442 = .ok (.iconst 0, 1) := by decide +kernel
theorem dL_isRefused_443 : decode cL_isRefused 443 = .ok (.istore 10, 2) := by decide +kernel
theorem dL_isRefused_445 : decode cL_isRefused 445 = .ok (.iinc 11 1, 3) := by decide +kernel
theorem dL_isRefused_448 : decode cL_isRefused 448 = .ok (.goto (-38), 3) := by decide +kernel
theorem dL_isRefused_451 : decode cL_isRefused 451 = .ok (.iconst 0, 1) := by decide +kernel
theorem dL_isRefused_452 : decode cL_isRefused 452 = .ok (.istore 11, 2) := by decide +kernel
theorem dL_isRefused_454 : decode cL_isRefused 454 = .ok (.iload 11, 2) := by decide +kernel
theorem dL_isRefused_456 : decode cL_isRefused 456 = .ok (.aload_n 1, 1) := by decide +kernel
theorem dL_isRefused_457 : decode cL_isRefused 457 = .ok (.iconst 0, 1) := by decide +kernel
theorem dL_isRefused_458 : decode cL_isRefused 458 = .ok (.iaload, 1) := by decide +kernel
theorem dL_isRefused_459 : decode cL_isRefused 459 = .ok (.if_icmp .ge 144, 3) := by decide +kernel
theorem dL_isRefused_462 : decode cL_isRefused 462 = .ok (.iload 10, 2) := by decide +kernel
theorem dL_isRefused_464 : decode cL_isRefused 464 = .ok (.ifCond .eq 139, 3) := by decide +kernel
theorem dL_isRefused_467 : decode cL_isRefused 467 = .ok (.aload_n 0, 1) := by decide +kernel
theorem dL_isRefused_468 : decode cL_isRefused 468 = .ok (.iconst 0, 1) := by decide +kernel
theorem dL_isRefused_469 : decode cL_isRefused 469 = .ok (.iload 11, 2) := by decide +kernel
theorem dL_isRefused_471 : decode cL_isRefused 471 = .ok (.iload 7, 2) := by decide +kernel
theorem dL_isRefused_473 : decode cL_isRefused 473 = .ok (.invokestatic 127, 3) := by decide +kernel
theorem dL_isRefused_476 : decode cL_isRefused 476 = .ok (.sipush (-702), 3) := by decide +kernel
theorem dL_isRefused_479 : decode cL_isRefused 479 = .ok (.if_icmp .ne 115, 3) := by decide +kernel
theorem dL_isRefused_482 : decode cL_isRefused 482 = .ok (.aload_n 0, 1) := by decide +kernel
theorem dL_isRefused_483 : decode cL_isRefused 483 = .ok (.iconst 1, 1) := by decide +kernel
theorem dL_isRefused_484 : decode cL_isRefused 484 = .ok (.iload 11, 2) := by decide +kernel
theorem dL_isRefused_486 : decode cL_isRefused 486 = .ok (.iload 6, 2) := by decide +kernel
theorem dL_isRefused_488 : decode cL_isRefused 488 = .ok (.invokestatic 127, 3) := by decide +kernel
theorem dL_isRefused_491 : decode cL_isRefused 491 = .ok (.sipush (-702), 3) := by decide +kernel
theorem dL_isRefused_494 : decode cL_isRefused 494 = .ok (.if_icmp .ne 100, 3) := by decide +kernel
theorem dL_isRefused_497 : decode cL_isRefused 497 = .ok (.aload_n 0, 1) := by decide +kernel
theorem dL_isRefused_498 : decode cL_isRefused 498 = .ok (.iconst 5, 1) := by decide +kernel
theorem dL_isRefused_499 : decode cL_isRefused 499 = .ok (.iload 11, 2) := by decide +kernel
theorem dL_isRefused_501 : decode cL_isRefused 501 = .ok (.iload 11, 2) := by decide +kernel
theorem dL_isRefused_503 : decode cL_isRefused 503 = .ok (.invokestatic 127, 3) := by decide +kernel
theorem dL_isRefused_506 : decode cL_isRefused 506 = .ok (.sipush (-702), 3) := by decide +kernel
theorem dL_isRefused_509 : decode cL_isRefused 509 = .ok (.if_icmp .ne 85, 3) := by decide +kernel
theorem dL_isRefused_512 : decode cL_isRefused 512 = .ok (.aload_n 0, 1) := by decide +kernel
theorem dL_isRefused_513 : decode cL_isRefused 513 = .ok (.bipush 6, 2) := by decide +kernel
theorem dL_isRefused_515 : decode cL_isRefused 515 = .ok (.iload 11, 2) := by decide +kernel
theorem dL_isRefused_517 : decode cL_isRefused 517 = .ok (.iload 11, 2) := by decide +kernel
theorem dL_isRefused_519 : decode cL_isRefused 519 = .ok (.invokestatic 127, 3) := by decide +kernel
theorem dL_isRefused_522 : decode cL_isRefused 522 = .ok (.sipush (-702), 3) := by decide +kernel
theorem dL_isRefused_525 : decode cL_isRefused 525 = .ok (.if_icmp .ne 69, 3) := by decide +kernel
theorem dL_isRefused_528 : decode cL_isRefused 528 = .ok (.aload_n 0, 1) := by decide +kernel
theorem dL_isRefused_529 : decode cL_isRefused 529 = .ok (.bipush 9, 2) := by decide +kernel
theorem dL_isRefused_531 : decode cL_isRefused 531 = .ok (.iload 11, 2) := by decide +kernel
theorem dL_isRefused_533 : decode cL_isRefused 533 = .ok (.iload 6, 2) := by decide +kernel
theorem dL_isRefused_535 : decode cL_isRefused 535 = .ok (.invokestatic 127, 3) := by decide +kernel
theorem dL_isRefused_538 : decode cL_isRefused 538 = .ok (.sipush (-702), 3) := by decide +kernel
theorem dL_isRefused_541 : decode cL_isRefused 541 = .ok (.if_icmp .ne 53, 3) := by decide +kernel
theorem dL_isRefused_544 : decode cL_isRefused 544 = .ok (.aload_n 0, 1) := by decide +kernel
theorem dL_isRefused_545 : decode cL_isRefused 545 = .ok (.bipush 9, 2) := by decide +kernel
theorem dL_isRefused_547 : decode cL_isRefused 547 = .ok (.iload 11, 2) := by decide +kernel
theorem dL_isRefused_549 : decode cL_isRefused 549 = .ok (.iconst (-1), 1) := by decide +kernel
theorem dL_isRefused_550 : decode cL_isRefused 550 = .ok (.invokestatic 127, 3) := by decide +kernel
theorem dL_isRefused_553 : decode cL_isRefused 553 = .ok (.sipush (-702), 3) := by decide +kernel
theorem dL_isRefused_556 : decode cL_isRefused 556 = .ok (.if_icmp .ne 38, 3) := by decide +kernel
theorem dL_isRefused_559 : decode cL_isRefused 559 = .ok (.aload_n 0, 1) := by decide +kernel
theorem dL_isRefused_560 : decode cL_isRefused 560 = .ok (.iconst 5, 1) := by decide +kernel
theorem dL_isRefused_561 : decode cL_isRefused 561 = .ok (.iload 11, 2) := by decide +kernel
theorem dL_isRefused_563 : decode cL_isRefused 563 = .ok (.iload 5, 2) := by decide +kernel
theorem dL_isRefused_565 : decode cL_isRefused 565 = .ok (.invokestatic 127, 3) := by decide +kernel
theorem dL_isRefused_568 : decode cL_isRefused 568 = .ok (.sipush (-701), 3) := by decide +kernel
theorem dL_isRefused_571 : decode cL_isRefused 571 = .ok (.if_icmp .ne 23, 3) := by decide +kernel
theorem dL_isRefused_574 : decode cL_isRefused 574 = .ok (.aload_n 0, 1) := by decide +kernel
theorem dL_isRefused_575 : decode cL_isRefused 575 = .ok (.bipush 6, 2) := by decide +kernel
theorem dL_isRefused_577 : decode cL_isRefused 577 = .ok (.iload 5, 2) := by decide +kernel
theorem dL_isRefused_579 : decode cL_isRefused 579 = .ok (.iload 11, 2) := by decide +kernel
theorem dL_isRefused_581 : decode cL_isRefused 581 = .ok (.invokestatic 127, 3) := by decide +kernel
theorem dL_isRefused_584 : decode cL_isRefused 584 = .ok (.sipush (-701), 3) := by decide +kernel
theorem dL_isRefused_587 : decode cL_isRefused 587 = .ok (.if_icmp .ne 7, 3) := by decide +kernel
theorem dL_isRefused_590 : decode cL_isRefused 590 = .ok (.iconst 1, 1) := by decide +kernel
theorem dL_isRefused_591 : decode cL_isRefused 591 = .ok (.goto 4, 3) := by decide +kernel
theorem dL_isRefused_594 : decode cL_isRefused 594 = .ok (.iconst 0, 1) := by decide +kernel
theorem dL_isRefused_595 : decode cL_isRefused 595 = .ok (.istore 10, 2) := by decide +kernel
theorem dL_isRefused_597 : decode cL_isRefused 597 = .ok (.iinc 11 1, 3) := by decide +kernel
theorem dL_isRefused_600 : decode cL_isRefused 600 = .ok (.goto (-146), 3) := by decide +kernel
theorem dL_isRefused_603 : decode cL_isRefused 603 = .ok (.iload 10, 2) := by decide +kernel
theorem dL_isRefused_605 : decode cL_isRefused 605 = .ok (.ifCond .eq 17, 3) := by decide +kernel
theorem dL_isRefused_608 : decode cL_isRefused 608 = .ok (.aload_n 0, 1) := by decide +kernel
theorem dL_isRefused_609 : decode cL_isRefused 609 = .ok (.invokestatic 116, 3) := by decide +kernel
theorem dL_isRefused_612 : decode cL_isRefused 612 = .ok (.lload 8, 2) := by decide +kernel
theorem dL_isRefused_614 : decode cL_isRefused 614 = .ok (.lcmp, 1) := by decide +kernel
theorem dL_isRefused_615 : decode cL_isRefused 615 = .ok (.ifCond .ne 7, 3) := by decide +kernel
theorem dL_isRefused_618 : decode cL_isRefused 618 = .ok (.iconst 1, 1) := by decide +kernel
theorem dL_isRefused_619 : decode cL_isRefused 619 = .ok (.goto 4, 3) := by decide +kernel
theorem dL_isRefused_622 : decode cL_isRefused 622 = .ok (.iconst 0, 1) := by decide +kernel
theorem dL_isRefused_623 : decode cL_isRefused 623 = .ok (.ireturn, 1) := by decide +kernel
