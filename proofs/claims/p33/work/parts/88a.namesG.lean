theorem dL_law_0 : decode cL_law 0 = .ok (.new 10, 3) := by decide +kernel
theorem dL_law_3 : decode cL_law 3 = .ok (.dup, 1) := by decide +kernel
theorem dL_law_4 : decode cL_law 4 = .ok (.invokespecial 198, 3) := by decide +kernel
theorem dL_law_7 : decode cL_law 7 = .ok (.astore_n 1, 1) := by decide +kernel
theorem dL_law_8 : decode cL_law 8 = .ok (.iconst 0, 1) := by decide +kernel
theorem dL_law_9 : decode cL_law 9 = .ok (.istore_n 2, 1) := by decide +kernel
theorem dL_law_10 : decode cL_law 10 = .ok (.iconst 0, 1) := by decide +kernel
theorem dL_law_11 : decode cL_law 11 = .ok (.istore_n 3, 1) := by decide +kernel
theorem dL_law_12 : decode cL_law 12 = .ok (.iconst 0, 1) := by decide +kernel
theorem dL_law_13 : decode cL_law 13 = .ok (.istore 4, 2) := by decide +kernel
theorem dL_law_15 : decode cL_law 15 = .ok (.aload_n 1, 1) := by decide +kernel
theorem dL_law_16 : decode cL_law 16 = .ok (.iconst 3, 1) := by decide +kernel
theorem dL_law_17 : decode cL_law 17 = .ok (.iconst 1, 1) := by decide +kernel
theorem dL_law_18 : decode cL_law 18 = .ok (.invokestatic 187, 3) := by decide +kernel
theorem dL_law_21 : decode cL_law 21 = .ok (.lconst 0, 1) := by decide +kernel
theorem dL_law_22 : decode cL_law 22 = .ok (.lcmp, 1) := by decide +kernel
theorem dL_law_23 : decode cL_law 23 = .ok (.ifCond .ne 24, 3) := by decide +kernel
theorem dL_law_26 : decode cL_law 26 = .ok (.aload_n 1, 1) := by decide +kernel
theorem dL_law_27 : decode cL_law 27 = .ok (.aload_n 0, 1) := by decide +kernel
theorem dL_law_28 : decode cL_law 28 = .ok (.iconst 0, 1) := by decide +kernel
theorem dL_law_29 : decode cL_law 29 = .ok (.invokestatic 199, 3) := by decide +kernel
theorem dL_law_32 : decode cL_law 32 = .ok (.iconst 3, 1) := by decide +kernel
theorem dL_law_33 : decode cL_law 33 = .ok (.irem, 1) := by decide +kernel
theorem dL_law_34 : decode cL_law 34 = .ok (.iconst 0, 1) := by decide +kernel
theorem dL_law_35 : decode cL_law 35 = .ok (.invokestatic 187, 3) := by decide +kernel
theorem dL_law_38 : decode cL_law 38 = .ok (.lconst 1, 1) := by decide +kernel
theorem dL_law_39 : decode cL_law 39 = .ok (.lcmp, 1) := by decide +kernel
theorem dL_law_40 : decode cL_law 40 = .ok (.ifCond .ne 7, 3) := by decide +kernel
theorem dL_law_43 : decode cL_law 43 = .ok (.iconst 1, 1) := by decide +kernel
theorem dL_law_44 : decode cL_law 44 = .ok (.goto 4, 3) := by decide +kernel
theorem dL_law_47 : decode cL_law 47 = .ok (.iconst 0, 1) := by decide +kernel
theorem dL_law_48 : decode cL_law 48 = .ok (.istore 5, 2) := by decide +kernel
theorem dL_law_50 : decode cL_law 50 = .ok (.iconst 0, 1) := by decide +kernel
theorem dL_law_51 : decode cL_law 51 = .ok (.istore 6, 2) := by decide +kernel
theorem dL_law_53 : decode cL_law 53 = .ok (.iload 6, 2) := by decide +kernel
theorem dL_law_55 : decode cL_law 55 = .ok (.bipush 56, 2) := by decide +kernel
theorem dL_law_57 : decode cL_law 57 = .ok (.if_icmp .ge 1258, 3) := by decide +kernel
theorem dL_law_60 : decode cL_law 60 = .ok (.iload 5, 2) := by decide +kernel
theorem dL_law_62 : decode cL_law 62 = .ok (.ifCond .eq 1253, 3) := by decide +kernel
theorem dL_law_65 : decode cL_law 65 = .ok (.aload_n 0, 1) := by decide +kernel
theorem dL_law_66 : decode cL_law 66 = .ok (.iconst 2, 1) := by decide +kernel
theorem dL_law_67 : decode cL_law 67 = .ok (.iload 6, 2) := by decide +kernel
theorem dL_law_69 : decode cL_law 69 = .ok (.imul, 1) := by decide +kernel
theorem dL_law_70 : decode cL_law 70 = .ok (.iconst 1, 1) := by decide +kernel
theorem dL_law_71 : decode cL_law 71 = .ok (.iadd, 1) := by decide +kernel
theorem dL_law_72 : decode cL_law 72 = .ok (.invokestatic 199, 3) := by decide +kernel
theorem dL_law_75 : decode cL_law 75 = .ok (.istore 7, 2) := by decide +kernel
theorem dL_law_77 : decode cL_law 77 = .ok (.aload_n 0, 1) := by decide +kernel
theorem dL_law_78 : decode cL_law 78 = .ok (.iconst 2, 1) := by decide +kernel
theorem dL_law_79 : decode cL_law 79 = .ok (.iload 6, 2) := by decide +kernel
theorem dL_law_81 : decode cL_law 81 = .ok (.imul, 1) := by decide +kernel
theorem dL_law_82 : decode cL_law 82 = .ok (.iconst 2, 1) := by decide +kernel
theorem dL_law_83 : decode cL_law 83 = .ok (.iadd, 1) := by decide +kernel
theorem dL_law_84 : decode cL_law 84 = .ok (.invokestatic 199, 3) := by decide +kernel
theorem dL_law_87 : decode cL_law 87 = .ok (.istore 8, 2) := by decide +kernel
theorem dL_law_89 : decode cL_law 89 = .ok (.aload_n 1, 1) := by decide +kernel
theorem dL_law_90 : decode cL_law 90 = .ok (.invokevirtual 153, 3) := by decide +kernel
theorem dL_law_93 : decode cL_law 93 = .ok (.istore 9, 2) := by decide +kernel
theorem dL_law_95 : decode cL_law 95 = .ok (.iload 7, 2) := by decide +kernel
theorem dL_law_97 : decode cL_law 97 = .ok (.bipush 16, 2) := by decide +kernel
theorem dL_law_99 : decode cL_law 99 = .ok (.idiv, 1) := by decide +kernel
theorem dL_law_100 : decode cL_law 100 = .ok (.iconst 3, 1) := by decide +kernel
theorem dL_law_101 : decode cL_law 101 = .ok (.irem, 1) := by decide +kernel
theorem dL_law_102 : decode cL_law 102 = .ok (.ifCond .ne 13, 3) := by decide +kernel
theorem dL_law_105 : decode cL_law 105 = .ok (.iload 9, 2) := by decide +kernel
theorem dL_law_107 : decode cL_law 107 = .ok (.iload 8, 2) := by decide +kernel
theorem dL_law_109 : decode cL_law 109 = .ok (.iconst 3, 1) := by decide +kernel
theorem dL_law_110 : decode cL_law 110 = .ok (.irem, 1) := by decide +kernel
theorem dL_law_111 : decode cL_law 111 = .ok (.isub, 1) := by decide +kernel
theorem dL_law_112 : decode cL_law 112 = .ok (.goto 13, 3) := by decide +kernel
theorem dL_law_115 : decode cL_law 115 = .ok (.iload 7, 2) := by decide +kernel
theorem dL_law_117 : decode cL_law 117 = .ok (.bipush 64, 2) := by decide +kernel
theorem dL_law_119 : decode cL_law 119 = .ok (.idiv, 1) := by decide +kernel
theorem dL_law_120 : decode cL_law 120 = .ok (.iload 9, 2) := by decide +kernel
theorem dL_law_122 : decode cL_law 122 = .ok (.iconst 1, 1) := by decide +kernel
theorem dL_law_123 : decode cL_law 123 = .ok (.iadd, 1) := by decide +kernel
theorem dL_law_124 : decode cL_law 124 = .ok (.irem, 1) := by decide +kernel
theorem dL_law_125 : decode cL_law 125 = .ok (.istore 10, 2) := by decide +kernel
theorem dL_law_127 : decode cL_law 127 = .ok (.iload 6, 2) := by decide +kernel
theorem dL_law_129 : decode cL_law 129 = .ok (.iconst 3, 1) := by decide +kernel
theorem dL_law_130 : decode cL_law 130 = .ok (.if_icmp .ge 7, 3) := by decide +kernel
theorem dL_law_133 : decode cL_law 133 = .ok (.iconst 0, 1) := by decide +kernel
theorem dL_law_134 : decode cL_law 134 = .ok (.goto 8, 3) := by decide +kernel
theorem dL_law_137 : decode cL_law 137 = .ok (.iload 7, 2) := by decide +kernel
theorem dL_law_139 : decode cL_law 139 = .ok (.bipush 13, 2) := by decide +kernel
theorem dL_law_141 : decode cL_law 141 = .ok (.irem, 1) := by decide +kernel
theorem dL_law_142 : decode cL_law 142 = .ok (.istore 11, 2) := by decide +kernel
theorem dL_law_144 : decode cL_law 144 = .ok (.ldc2_w 124, 3) := by decide +kernel
theorem dL_law_147 : decode cL_law 147 = .ok (.lstore 12, 2) := by decide +kernel
theorem dL_law_149 : decode cL_law 149 = .ok (.iload 11, 2) := by decide +kernel
theorem dL_law_151 : decode cL_law 151 = .ok (.iconst 3, 1) := by decide +kernel
theorem dL_law_152 : decode cL_law 152 = .ok (.if_icmp .ge 173, 3) := by decide +kernel
theorem dL_law_155 : decode cL_law 155 = .ok (.aload_n 1, 1) := by decide +kernel
theorem dL_law_156 : decode cL_law 156 = .ok (.iload 10, 2) := by decide +kernel
theorem dL_law_158 : decode cL_law 158 = .ok (.iload_n 2, 1) := by decide +kernel
theorem dL_law_159 : decode cL_law 159 = .ok (.ifCond .eq 10, 3) := by decide +kernel
theorem dL_law_162 : decode cL_law 162 = .ok (.iload 8, 2) := by decide +kernel
theorem dL_law_164 : decode cL_law 164 = .ok (.iconst 3, 1) := by decide +kernel
theorem dL_law_165 : decode cL_law 165 = .ok (.irem, 1) := by decide +kernel
theorem dL_law_166 : decode cL_law 166 = .ok (.ifCond .ne 7, 3) := by decide +kernel
theorem dL_law_169 : decode cL_law 169 = .ok (.iconst (-1), 1) := by decide +kernel
theorem dL_law_170 : decode cL_law 170 = .ok (.goto 9, 3) := by decide +kernel
theorem dL_law_173 : decode cL_law 173 = .ok (.iload 8, 2) := by decide +kernel
theorem dL_law_175 : decode cL_law 175 = .ok (.iconst 4, 1) := by decide +kernel
theorem dL_law_176 : decode cL_law 176 = .ok (.idiv, 1) := by decide +kernel
theorem dL_law_177 : decode cL_law 177 = .ok (.iload_n 2, 1) := by decide +kernel
theorem dL_law_178 : decode cL_law 178 = .ok (.irem, 1) := by decide +kernel
theorem dL_law_179 : decode cL_law 179 = .ok (.iload 8, 2) := by decide +kernel
theorem dL_law_181 : decode cL_law 181 = .ok (.sipush 128, 3) := by decide +kernel
theorem dL_law_184 : decode cL_law 184 = .ok (.idiv, 1) := by decide +kernel
theorem dL_law_185 : decode cL_law 185 = .ok (.bipush 16, 2) := by decide +kernel
theorem dL_law_187 : decode cL_law 187 = .ok (.irem, 1) := by decide +kernel
theorem dL_law_188 : decode cL_law 188 = .ok (.iload 8, 2) := by decide +kernel
theorem dL_law_190 : decode cL_law 190 = .ok (.sipush 2048, 3) := by decide +kernel
theorem dL_law_193 : decode cL_law 193 = .ok (.idiv, 1) := by decide +kernel
theorem dL_law_194 : decode cL_law 194 = .ok (.iconst 5, 1) := by decide +kernel
theorem dL_law_195 : decode cL_law 195 = .ok (.irem, 1) := by decide +kernel
theorem dL_law_196 : decode cL_law 196 = .ok (.invokestatic 159, 3) := by decide +kernel
theorem dL_law_199 : decode cL_law 199 = .ok (.lstore 12, 2) := by decide +kernel
theorem dL_law_201 : decode cL_law 201 = .ok (.iload_n 2, 1) := by decide +kernel
theorem dL_law_202 : decode cL_law 202 = .ok (.bipush 24, 2) := by decide +kernel
theorem dL_law_204 : decode cL_law 204 = .ok (.if_icmp .ge 7, 3) := by decide +kernel
theorem dL_law_207 : decode cL_law 207 = .ok (.iconst 1, 1) := by decide +kernel
theorem dL_law_208 : decode cL_law 208 = .ok (.goto 4, 3) := by decide +kernel
theorem dL_law_211 : decode cL_law 211 = .ok (.iconst 0, 1) := by decide +kernel
theorem dL_law_212 : decode cL_law 212 = .ok (.istore 14, 2) := by decide +kernel
theorem dL_law_214 : decode cL_law 214 = .ok (.lload 12, 2) := by decide +kernel
theorem dL_law_216 : decode cL_law 216 = .ok (.iload 14, 2) := by decide +kernel
theorem dL_law_218 : decode cL_law 218 = .ok (.ifCond .eq 8, 3) := by decide +kernel
theorem dL_law_221 : decode cL_law 221 = .ok (.iload_n 2, 1) := by decide +kernel
theorem dL_law_222 : decode cL_law 222 = .ok (.i2l, 1) := by decide +kernel
theorem dL_law_223 : decode cL_law 223 = .ok (.goto 6, 3) := by decide +kernel
theorem dL_law_226 : decode cL_law 226 = .ok (.ldc2_w 21, 3) := by decide +kernel
theorem dL_law_229 : decode cL_law 229 = .ok (.lcmp, 1) := by decide +kernel
theorem dL_law_230 : decode cL_law 230 = .ok (.ifCond .ne 7, 3) := by decide +kernel
theorem dL_law_233 : decode cL_law 233 = .ok (.iconst 1, 1) := by decide +kernel
theorem dL_law_234 : decode cL_law 234 = .ok (.goto 4, 3) := by decide +kernel
theorem dL_law_237 : decode cL_law 237 = .ok (.iconst 0, 1) := by decide +kernel
theorem dL_law_238 : decode cL_law 238 = .ok (.istore 5, 2) := by decide +kernel
theorem dL_law_240 : decode cL_law 240 = .ok (.iload 14, 2) := by decide +kernel
theorem dL_law_242 : decode cL_law 242 = .ok (.ifCond .eq 80, 3) := by decide +kernel
theorem dL_law_245 : decode cL_law 245 = .ok (.aload_n 1, 1) := by decide +kernel
theorem dL_law_246 : decode cL_law 246 = .ok (.iload_n 2, 1) := by decide +kernel
theorem dL_law_247 : decode cL_law 247 = .ok (.invokestatic 183, 3) := by decide +kernel
theorem dL_law_250 : decode cL_law 250 = .ok (.lstore 15, 2) := by decide +kernel
theorem dL_law_252 : decode cL_law 252 = .ok (.iload 5, 2) := by decide +kernel
theorem dL_law_254 : decode cL_law 254 = .ok (.ifCond .eq 56, 3) := by decide +kernel
theorem dL_law_257 : decode cL_law 257 = .ok (.aload_n 1, 1) := by decide +kernel
theorem dL_law_258 : decode cL_law 258 = .ok (.lload 15, 2) := by decide +kernel
theorem dL_law_260 : decode cL_law 260 = .ok (.l2i, 1) := by decide +kernel
theorem dL_law_261 : decode cL_law 261 = .ok (.invokestatic 185, 3) := by decide +kernel
theorem dL_law_264 : decode cL_law 264 = .ok (.iload_n 2, 1) := by decide +kernel
theorem dL_law_265 : decode cL_law 265 = .ok (.i2l, 1) := by decide +kernel
theorem dL_law_266 : decode cL_law 266 = .ok (.lcmp, 1) := by decide +kernel
theorem dL_law_267 : decode cL_law 267 = .ok (.ifCond .ne 43, 3) := by decide +kernel
theorem dL_law_270 : decode cL_law 270 = .ok (.aload_n 1, 1) := by decide +kernel
theorem dL_law_271 : decode cL_law 271 = .ok (.iload_n 3, 1) := by decide +kernel
theorem dL_law_272 : decode cL_law 272 = .ok (.iconst 0, 1) := by decide +kernel
theorem dL_law_273 : decode cL_law 273 = .ok (.invokestatic 173, 3) := by decide +kernel
theorem dL_law_276 : decode cL_law 276 = .ok (.lconst 0, 1) := by decide +kernel
theorem dL_law_277 : decode cL_law 277 = .ok (.lcmp, 1) := by decide +kernel
theorem dL_law_278 : decode cL_law 278 = .ok (.ifCond .ne 32, 3) := by decide +kernel
theorem dL_law_281 : decode cL_law 281 = .ok (.aload_n 1, 1) := by decide +kernel
theorem dL_law_282 : decode cL_law 282 = .ok (.iload_n 3, 1) := by decide +kernel
theorem dL_law_283 : decode cL_law 283 = .ok (.iconst 2, 1) := by decide +kernel
theorem dL_law_284 : decode cL_law 284 = .ok (.invokestatic 173, 3) := by decide +kernel
theorem dL_law_287 : decode cL_law 287 = .ok (.iload 10, 2) := by decide +kernel
theorem dL_law_289 : decode cL_law 289 = .ok (.i2l, 1) := by decide +kernel
theorem dL_law_290 : decode cL_law 290 = .ok (.lcmp, 1) := by decide +kernel
theorem dL_law_291 : decode cL_law 291 = .ok (.ifCond .ne 19, 3) := by decide +kernel
theorem dL_law_294 : decode cL_law 294 = .ok (.aload_n 1, 1) := by decide +kernel
theorem dL_law_295 : decode cL_law 295 = .ok (.iload_n 3, 1) := by decide +kernel
theorem dL_law_296 : decode cL_law 296 = .ok (.iconst 3, 1) := by decide +kernel
theorem dL_law_297 : decode cL_law 297 = .ok (.invokestatic 173, 3) := by decide +kernel
theorem dL_law_300 : decode cL_law 300 = .ok (.iload_n 2, 1) := by decide +kernel
theorem dL_law_301 : decode cL_law 301 = .ok (.i2l, 1) := by decide +kernel
theorem dL_law_302 : decode cL_law 302 = .ok (.lcmp, 1) := by decide +kernel
theorem dL_law_303 : decode cL_law 303 = .ok (.ifCond .ne 7, 3) := by decide +kernel
theorem dL_law_306 : decode cL_law 306 = .ok (.iconst 1, 1) := by decide +kernel
theorem dL_law_307 : decode cL_law 307 = .ok (.goto 4, 3) := by decide +kernel
theorem dL_law_310 : decode cL_law 310 = .ok (.iconst 0, 1) := by decide +kernel
theorem dL_law_311 : decode cL_law 311 = .ok (.istore 5, 2) := by decide +kernel
theorem dL_law_313 : decode cL_law 313 = .ok (.iinc 2 1, 3) := by decide +kernel
theorem dL_law_316 : decode cL_law 316 = .ok (.iinc 3 1, 3) := by decide +kernel
theorem dL_law_319 : decode cL_law 319 = .ok (.iinc 4 1, 3) := by decide +kernel
theorem dL_law_322 : decode cL_law 322 = .ok (.goto 728, 3) := by decide +kernel
theorem dL_law_325 : decode cL_law 325 = .ok (.iload 11, 2) := by decide +kernel
theorem dL_law_327 : decode cL_law 327 = .ok (.iconst 3, 1) := by decide +kernel
theorem dL_law_328 : decode cL_law 328 = .ok (.if_icmp .ne 40, 3) := by decide +kernel
theorem dL_law_331 : decode cL_law 331 = .ok (.aload_n 1, 1) := by decide +kernel
theorem dL_law_332 : decode cL_law 332 = .ok (.iload 8, 2) := by decide +kernel
theorem dL_law_334 : decode cL_law 334 = .ok (.iload_n 2, 1) := by decide +kernel
theorem dL_law_335 : decode cL_law 335 = .ok (.irem, 1) := by decide +kernel
theorem dL_law_336 : decode cL_law 336 = .ok (.iload 10, 2) := by decide +kernel
theorem dL_law_338 : decode cL_law 338 = .ok (.iload 8, 2) := by decide +kernel
theorem dL_law_340 : decode cL_law 340 = .ok (.bipush 32, 2) := by decide +kernel
theorem dL_law_342 : decode cL_law 342 = .ok (.idiv, 1) := by decide +kernel
theorem dL_law_343 : decode cL_law 343 = .ok (.bipush 16, 2) := by decide +kernel
theorem dL_law_345 : decode cL_law 345 = .ok (.irem, 1) := by decide +kernel
theorem dL_law_346 : decode cL_law 346 = .ok (.invokestatic 161, 3) := by decide +kernel
theorem dL_law_349 : decode cL_law 349 = .ok (.iload_n 3, 1) := by decide +kernel
theorem dL_law_350 : decode cL_law 350 = .ok (.i2l, 1) := by decide +kernel
theorem dL_law_351 : decode cL_law 351 = .ok (.lcmp, 1) := by decide +kernel
theorem dL_law_352 : decode cL_law 352 = .ok (.ifCond .ne 7, 3) := by decide +kernel
theorem dL_law_355 : decode cL_law 355 = .ok (.iconst 1, 1) := by decide +kernel
theorem dL_law_356 : decode cL_law 356 = .ok (.goto 4, 3) := by decide +kernel
theorem dL_law_359 : decode cL_law 359 = .ok (.iconst 0, 1) := by decide +kernel
theorem dL_law_360 : decode cL_law 360 = .ok (.istore 5, 2) := by decide +kernel
theorem dL_law_362 : decode cL_law 362 = .ok (.iinc 3 1, 3) := by decide +kernel
theorem dL_law_365 : decode cL_law 365 = .ok (.goto 685, 3) := by decide +kernel
theorem dL_law_368 : decode cL_law 368 = .ok (.iload 11, 2) := by decide +kernel
theorem dL_law_370 : decode cL_law 370 = .ok (.iconst 4, 1) := by decide +kernel
theorem dL_law_371 : decode cL_law 371 = .ok (.if_icmp .ne 39, 3) := by decide +kernel
theorem dL_law_374 : decode cL_law 374 = .ok (.aload_n 1, 1) := by decide +kernel
theorem dL_law_375 : decode cL_law 375 = .ok (.iload 8, 2) := by decide +kernel
theorem dL_law_377 : decode cL_law 377 = .ok (.iload_n 2, 1) := by decide +kernel
theorem dL_law_378 : decode cL_law 378 = .ok (.irem, 1) := by decide +kernel
theorem dL_law_379 : decode cL_law 379 = .ok (.iload 10, 2) := by decide +kernel
theorem dL_law_381 : decode cL_law 381 = .ok (.iload 8, 2) := by decide +kernel
theorem dL_law_383 : decode cL_law 383 = .ok (.bipush 32, 2) := by decide +kernel
theorem dL_law_385 : decode cL_law 385 = .ok (.idiv, 1) := by decide +kernel
theorem dL_law_386 : decode cL_law 386 = .ok (.iconst 5, 1) := by decide +kernel
theorem dL_law_387 : decode cL_law 387 = .ok (.irem, 1) := by decide +kernel
theorem dL_law_388 : decode cL_law 388 = .ok (.invokestatic 163, 3) := by decide +kernel
theorem dL_law_391 : decode cL_law 391 = .ok (.iload_n 3, 1) := by decide +kernel
theorem dL_law_392 : decode cL_law 392 = .ok (.i2l, 1) := by decide +kernel
theorem dL_law_393 : decode cL_law 393 = .ok (.lcmp, 1) := by decide +kernel
theorem dL_law_394 : decode cL_law 394 = .ok (.ifCond .ne 7, 3) := by decide +kernel
theorem dL_law_397 : decode cL_law 397 = .ok (.iconst 1, 1) := by decide +kernel
theorem dL_law_398 : decode cL_law 398 = .ok (.goto 4, 3) := by decide +kernel
theorem dL_law_401 : decode cL_law 401 = .ok (.iconst 0, 1) := by decide +kernel
theorem dL_law_402 : decode cL_law 402 = .ok (.istore 5, 2) := by decide +kernel
theorem dL_law_404 : decode cL_law 404 = .ok (.iinc 3 1, 3) := by decide +kernel
theorem dL_law_407 : decode cL_law 407 = .ok (.goto 643, 3) := by decide +kernel
theorem dL_law_410 : decode cL_law 410 = .ok (.iload 11, 2) := by decide +kernel
theorem dL_law_412 : decode cL_law 412 = .ok (.bipush 8, 2) := by decide +kernel
theorem dL_law_414 : decode cL_law 414 = .ok (.if_icmp .ge 109, 3) := by decide +kernel
theorem dL_law_417 : decode cL_law 417 = .ok (.iload 8, 2) := by decide +kernel
theorem dL_law_419 : decode cL_law 419 = .ok (.iload_n 2, 1) := by decide +kernel
theorem dL_law_420 : decode cL_law 420 = .ok (.irem, 1) := by decide +kernel
theorem dL_law_421 : decode cL_law 421 = .ok (.istore 14, 2) := by decide +kernel
