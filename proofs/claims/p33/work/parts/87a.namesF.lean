theorem dL_refuses_0 : decode cL_refuses 0 = .ok (.aload_n 0, 1) := by decide +kernel
theorem dL_refuses_1 : decode cL_refuses 1 = .ok (.invokevirtual 153, 3) := by decide +kernel
theorem dL_refuses_4 : decode cL_refuses 4 = .ok (.istore_n 2, 1) := by decide +kernel
theorem dL_refuses_5 : decode cL_refuses 5 = .ok (.aload_n 0, 1) := by decide +kernel
theorem dL_refuses_6 : decode cL_refuses 6 = .ok (.iconst 0, 1) := by decide +kernel
theorem dL_refuses_7 : decode cL_refuses 7 = .ok (.invokestatic 157, 3) := by decide +kernel
theorem dL_refuses_10 : decode cL_refuses 10 = .ok (.ldc2_w 17, 3) := by decide +kernel
theorem dL_refuses_13 : decode cL_refuses 13 = .ok (.lcmp, 1) := by decide +kernel
theorem dL_refuses_14 : decode cL_refuses 14 = .ok (.ifCond .ne 253, 3) := by decide +kernel
theorem dL_refuses_17 : decode cL_refuses 17 = .ok (.aload_n 0, 1) := by decide +kernel
theorem dL_refuses_18 : decode cL_refuses 18 = .ok (.iconst 0, 1) := by decide +kernel
theorem dL_refuses_19 : decode cL_refuses 19 = .ok (.iload_n 1, 1) := by decide +kernel
theorem dL_refuses_20 : decode cL_refuses 20 = .ok (.iconst 0, 1) := by decide +kernel
theorem dL_refuses_21 : decode cL_refuses 21 = .ok (.iconst 0, 1) := by decide +kernel
theorem dL_refuses_22 : decode cL_refuses 22 = .ok (.invokestatic 159, 3) := by decide +kernel
theorem dL_refuses_25 : decode cL_refuses 25 = .ok (.ldc2_w 29, 3) := by decide +kernel
theorem dL_refuses_28 : decode cL_refuses 28 = .ok (.lcmp, 1) := by decide +kernel
theorem dL_refuses_29 : decode cL_refuses 29 = .ok (.ifCond .ne 238, 3) := by decide +kernel
theorem dL_refuses_32 : decode cL_refuses 32 = .ok (.aload_n 0, 1) := by decide +kernel
theorem dL_refuses_33 : decode cL_refuses 33 = .ok (.iconst 0, 1) := by decide +kernel
theorem dL_refuses_34 : decode cL_refuses 34 = .ok (.iconst (-1), 1) := by decide +kernel
theorem dL_refuses_35 : decode cL_refuses 35 = .ok (.bipush 16, 2) := by decide +kernel
theorem dL_refuses_37 : decode cL_refuses 37 = .ok (.iconst 0, 1) := by decide +kernel
theorem dL_refuses_38 : decode cL_refuses 38 = .ok (.invokestatic 159, 3) := by decide +kernel
theorem dL_refuses_41 : decode cL_refuses 41 = .ok (.ldc2_w 29, 3) := by decide +kernel
theorem dL_refuses_44 : decode cL_refuses 44 = .ok (.lcmp, 1) := by decide +kernel
theorem dL_refuses_45 : decode cL_refuses 45 = .ok (.ifCond .ne 222, 3) := by decide +kernel
theorem dL_refuses_48 : decode cL_refuses 48 = .ok (.aload_n 0, 1) := by decide +kernel
theorem dL_refuses_49 : decode cL_refuses 49 = .ok (.iload_n 2, 1) := by decide +kernel
theorem dL_refuses_50 : decode cL_refuses 50 = .ok (.iconst 1, 1) := by decide +kernel
theorem dL_refuses_51 : decode cL_refuses 51 = .ok (.iadd, 1) := by decide +kernel
theorem dL_refuses_52 : decode cL_refuses 52 = .ok (.iconst (-1), 1) := by decide +kernel
theorem dL_refuses_53 : decode cL_refuses 53 = .ok (.iconst 0, 1) := by decide +kernel
theorem dL_refuses_54 : decode cL_refuses 54 = .ok (.iconst 0, 1) := by decide +kernel
theorem dL_refuses_55 : decode cL_refuses 55 = .ok (.invokestatic 159, 3) := by decide +kernel
theorem dL_refuses_58 : decode cL_refuses 58 = .ok (.ldc2_w 17, 3) := by decide +kernel
theorem dL_refuses_61 : decode cL_refuses 61 = .ok (.lcmp, 1) := by decide +kernel
theorem dL_refuses_62 : decode cL_refuses 62 = .ok (.ifCond .ne 205, 3) := by decide +kernel
theorem dL_refuses_65 : decode cL_refuses 65 = .ok (.aload_n 0, 1) := by decide +kernel
theorem dL_refuses_66 : decode cL_refuses 66 = .ok (.iconst 0, 1) := by decide +kernel
theorem dL_refuses_67 : decode cL_refuses 67 = .ok (.iconst (-1), 1) := by decide +kernel
theorem dL_refuses_68 : decode cL_refuses 68 = .ok (.iconst 0, 1) := by decide +kernel
theorem dL_refuses_69 : decode cL_refuses 69 = .ok (.sipush 1000, 3) := by decide +kernel
theorem dL_refuses_72 : decode cL_refuses 72 = .ok (.invokestatic 159, 3) := by decide +kernel
theorem dL_refuses_75 : decode cL_refuses 75 = .ok (.ldc2_w 17, 3) := by decide +kernel
theorem dL_refuses_78 : decode cL_refuses 78 = .ok (.lcmp, 1) := by decide +kernel
theorem dL_refuses_79 : decode cL_refuses 79 = .ok (.ifCond .ne 188, 3) := by decide +kernel
theorem dL_refuses_82 : decode cL_refuses 82 = .ok (.aload_n 0, 1) := by decide +kernel
theorem dL_refuses_83 : decode cL_refuses 83 = .ok (.iload_n 1, 1) := by decide +kernel
theorem dL_refuses_84 : decode cL_refuses 84 = .ok (.iconst 0, 1) := by decide +kernel
theorem dL_refuses_85 : decode cL_refuses 85 = .ok (.iconst 0, 1) := by decide +kernel
theorem dL_refuses_86 : decode cL_refuses 86 = .ok (.invokestatic 161, 3) := by decide +kernel
theorem dL_refuses_89 : decode cL_refuses 89 = .ok (.ldc2_w 29, 3) := by decide +kernel
theorem dL_refuses_92 : decode cL_refuses 92 = .ok (.lcmp, 1) := by decide +kernel
theorem dL_refuses_93 : decode cL_refuses 93 = .ok (.ifCond .ne 174, 3) := by decide +kernel
theorem dL_refuses_96 : decode cL_refuses 96 = .ok (.aload_n 0, 1) := by decide +kernel
theorem dL_refuses_97 : decode cL_refuses 97 = .ok (.iconst 0, 1) := by decide +kernel
theorem dL_refuses_98 : decode cL_refuses 98 = .ok (.iconst (-1), 1) := by decide +kernel
theorem dL_refuses_99 : decode cL_refuses 99 = .ok (.iconst 0, 1) := by decide +kernel
theorem dL_refuses_100 : decode cL_refuses 100 = .ok (.invokestatic 161, 3) := by decide +kernel
theorem dL_refuses_103 : decode cL_refuses 103 = .ok (.ldc2_w 17, 3) := by decide +kernel
theorem dL_refuses_106 : decode cL_refuses 106 = .ok (.lcmp, 1) := by decide +kernel
theorem dL_refuses_107 : decode cL_refuses 107 = .ok (.ifCond .ne 160, 3) := by decide +kernel
theorem dL_refuses_110 : decode cL_refuses 110 = .ok (.aload_n 0, 1) := by decide +kernel
theorem dL_refuses_111 : decode cL_refuses 111 = .ok (.iconst 0, 1) := by decide +kernel
theorem dL_refuses_112 : decode cL_refuses 112 = .ok (.iconst 0, 1) := by decide +kernel
theorem dL_refuses_113 : decode cL_refuses 113 = .ok (.iconst (-1), 1) := by decide +kernel
theorem dL_refuses_114 : decode cL_refuses 114 = .ok (.invokestatic 163, 3) := by decide +kernel
theorem dL_refuses_117 : decode cL_refuses 117 = .ok (.ldc2_w 17, 3) := by decide +kernel
theorem dL_refuses_120 : decode cL_refuses 120 = .ok (.lcmp, 1) := by decide +kernel
theorem dL_refuses_121 : decode cL_refuses 121 = .ok (.ifCond .ne 146, 3) := by decide +kernel
theorem dL_refuses_124 : decode cL_refuses 124 = .ok (.aload_n 0, 1) := by decide +kernel
theorem dL_refuses_125 : decode cL_refuses 125 = .ok (.iconst 2, 1) := by decide +kernel
theorem dL_refuses_126 : decode cL_refuses 126 = .ok (.iconst 0, 1) := by decide +kernel
theorem dL_refuses_127 : decode cL_refuses 127 = .ok (.iconst 1, 1) := by decide +kernel
theorem dL_refuses_128 : decode cL_refuses 128 = .ok (.iconst 0, 1) := by decide +kernel
theorem dL_refuses_129 : decode cL_refuses 129 = .ok (.invokestatic 165, 3) := by decide +kernel
theorem dL_refuses_132 : decode cL_refuses 132 = .ok (.ldc2_w 17, 3) := by decide +kernel
theorem dL_refuses_135 : decode cL_refuses 135 = .ok (.lcmp, 1) := by decide +kernel
theorem dL_refuses_136 : decode cL_refuses 136 = .ok (.ifCond .ne 131, 3) := by decide +kernel
theorem dL_refuses_139 : decode cL_refuses 139 = .ok (.aload_n 0, 1) := by decide +kernel
theorem dL_refuses_140 : decode cL_refuses 140 = .ok (.iconst 3, 1) := by decide +kernel
theorem dL_refuses_141 : decode cL_refuses 141 = .ok (.iconst 0, 1) := by decide +kernel
theorem dL_refuses_142 : decode cL_refuses 142 = .ok (.iconst 0, 1) := by decide +kernel
theorem dL_refuses_143 : decode cL_refuses 143 = .ok (.iconst 0, 1) := by decide +kernel
theorem dL_refuses_144 : decode cL_refuses 144 = .ok (.invokestatic 165, 3) := by decide +kernel
theorem dL_refuses_147 : decode cL_refuses 147 = .ok (.ldc2_w 17, 3) := by decide +kernel
theorem dL_refuses_150 : decode cL_refuses 150 = .ok (.lcmp, 1) := by decide +kernel
theorem dL_refuses_151 : decode cL_refuses 151 = .ok (.ifCond .ne 116, 3) := by decide +kernel
theorem dL_refuses_154 : decode cL_refuses 154 = .ok (.aload_n 0, 1) := by decide +kernel
theorem dL_refuses_155 : decode cL_refuses 155 = .ok (.iconst 3, 1) := by decide +kernel
theorem dL_refuses_156 : decode cL_refuses 156 = .ok (.iconst 0, 1) := by decide +kernel
theorem dL_refuses_157 : decode cL_refuses 157 = .ok (.iload_n 1, 1) := by decide +kernel
theorem dL_refuses_158 : decode cL_refuses 158 = .ok (.iconst 0, 1) := by decide +kernel
theorem dL_refuses_159 : decode cL_refuses 159 = .ok (.invokestatic 165, 3) := by decide +kernel
theorem dL_refuses_162 : decode cL_refuses 162 = .ok (.ldc2_w 29, 3) := by decide +kernel
theorem dL_refuses_165 : decode cL_refuses 165 = .ok (.lcmp, 1) := by decide +kernel
theorem dL_refuses_166 : decode cL_refuses 166 = .ok (.ifCond .ne 101, 3) := by decide +kernel
theorem dL_refuses_169 : decode cL_refuses 169 = .ok (.aload_n 0, 1) := by decide +kernel
theorem dL_refuses_170 : decode cL_refuses 170 = .ok (.iload_n 1, 1) := by decide +kernel
theorem dL_refuses_171 : decode cL_refuses 171 = .ok (.iconst 0, 1) := by decide +kernel
theorem dL_refuses_172 : decode cL_refuses 172 = .ok (.invokestatic 167, 3) := by decide +kernel
theorem dL_refuses_175 : decode cL_refuses 175 = .ok (.ldc2_w 29, 3) := by decide +kernel
theorem dL_refuses_178 : decode cL_refuses 178 = .ok (.lcmp, 1) := by decide +kernel
theorem dL_refuses_179 : decode cL_refuses 179 = .ok (.ifCond .ne 88, 3) := by decide +kernel
theorem dL_refuses_182 : decode cL_refuses 182 = .ok (.aload_n 0, 1) := by decide +kernel
theorem dL_refuses_183 : decode cL_refuses 183 = .ok (.iconst 0, 1) := by decide +kernel
theorem dL_refuses_184 : decode cL_refuses 184 = .ok (.iload_n 2, 1) := by decide +kernel
theorem dL_refuses_185 : decode cL_refuses 185 = .ok (.iconst 1, 1) := by decide +kernel
theorem dL_refuses_186 : decode cL_refuses 186 = .ok (.iadd, 1) := by decide +kernel
theorem dL_refuses_187 : decode cL_refuses 187 = .ok (.invokestatic 167, 3) := by decide +kernel
theorem dL_refuses_190 : decode cL_refuses 190 = .ok (.ldc2_w 17, 3) := by decide +kernel
theorem dL_refuses_193 : decode cL_refuses 193 = .ok (.lcmp, 1) := by decide +kernel
theorem dL_refuses_194 : decode cL_refuses 194 = .ok (.ifCond .ne 73, 3) := by decide +kernel
theorem dL_refuses_197 : decode cL_refuses 197 = .ok (.aload_n 0, 1) := by decide +kernel
theorem dL_refuses_198 : decode cL_refuses 198 = .ok (.iconst 1, 1) := by decide +kernel
theorem dL_refuses_199 : decode cL_refuses 199 = .ok (.iconst 0, 1) := by decide +kernel
theorem dL_refuses_200 : decode cL_refuses 200 = .ok (.invokestatic 169, 3) := by decide +kernel
theorem dL_refuses_203 : decode cL_refuses 203 = .ok (.ldc2_w 17, 3) := by decide +kernel
theorem dL_refuses_206 : decode cL_refuses 206 = .ok (.lcmp, 1) := by decide +kernel
theorem dL_refuses_207 : decode cL_refuses 207 = .ok (.ifCond .ne 60, 3) := by decide +kernel
theorem dL_refuses_210 : decode cL_refuses 210 = .ok (.aload_n 0, 1) := by decide +kernel
theorem dL_refuses_211 : decode cL_refuses 211 = .ok (.iconst 0, 1) := by decide +kernel
theorem dL_refuses_212 : decode cL_refuses 212 = .ok (.iload_n 1, 1) := by decide +kernel
theorem dL_refuses_213 : decode cL_refuses 213 = .ok (.invokestatic 169, 3) := by decide +kernel
theorem dL_refuses_216 : decode cL_refuses 216 = .ok (.ldc2_w 29, 3) := by decide +kernel
theorem dL_refuses_219 : decode cL_refuses 219 = .ok (.lcmp, 1) := by decide +kernel
theorem dL_refuses_220 : decode cL_refuses 220 = .ok (.ifCond .ne 47, 3) := by decide +kernel
theorem dL_refuses_223 : decode cL_refuses 223 = .ok (.aload_n 0, 1) := by decide +kernel
theorem dL_refuses_224 : decode cL_refuses 224 = .ok (.sipush 150, 3) := by decide +kernel
theorem dL_refuses_227 : decode cL_refuses 227 = .ok (.invokestatic 171, 3) := by decide +kernel
theorem dL_refuses_230 : decode cL_refuses 230 = .ok (.ldc2_w 29, 3) := by decide +kernel
theorem dL_refuses_233 : decode cL_refuses 233 = .ok (.lcmp, 1) := by decide +kernel
theorem dL_refuses_234 : decode cL_refuses 234 = .ok (.ifCond .ne 33, 3) := by decide +kernel
theorem dL_refuses_237 : decode cL_refuses 237 = .ok (.aload_n 0, 1) := by decide +kernel
theorem dL_refuses_238 : decode cL_refuses 238 = .ok (.iconst (-1), 1) := by decide +kernel
theorem dL_refuses_239 : decode cL_refuses 239 = .ok (.iconst 0, 1) := by decide +kernel
theorem dL_refuses_240 : decode cL_refuses 240 = .ok (.invokestatic 173, 3) := by decide +kernel
theorem dL_refuses_243 : decode cL_refuses 243 = .ok (.ldc2_w 29, 3) := by decide +kernel
theorem dL_refuses_246 : decode cL_refuses 246 = .ok (.lcmp, 1) := by decide +kernel
theorem dL_refuses_247 : decode cL_refuses 247 = .ok (.ifCond .ne 20, 3) := by decide +kernel
theorem dL_refuses_250 : decode cL_refuses 250 = .ok (.aload_n 0, 1) := by decide +kernel
theorem dL_refuses_251 : decode cL_refuses 251 = .ok (.iconst 0, 1) := by decide +kernel
theorem dL_refuses_252 : decode cL_refuses 252 = .ok (.iconst 5, 1) := by decide +kernel
theorem dL_refuses_253 : decode cL_refuses 253 = .ok (.invokestatic 173, 3) := by decide +kernel
theorem dL_refuses_256 : decode cL_refuses 256 = .ok (.ldc2_w 17, 3) := by decide +kernel
theorem dL_refuses_259 : decode cL_refuses 259 = .ok (.lcmp, 1) := by decide +kernel
theorem dL_refuses_260 : decode cL_refuses 260 = .ok (.ifCond .ne 7, 3) := by decide +kernel
theorem dL_refuses_263 : decode cL_refuses 263 = .ok (.iconst 1, 1) := by decide +kernel
theorem dL_refuses_264 : decode cL_refuses 264 = .ok (.goto 4, 3) := by decide +kernel
theorem dL_refuses_267 : decode cL_refuses 267 = .ok (.iconst 0, 1) := by decide +kernel
theorem dL_refuses_268 : decode cL_refuses 268 = .ok (.istore_n 3, 1) := by decide +kernel
theorem dL_refuses_269 : decode cL_refuses 269 = .ok (.iload_n 3, 1) := by decide +kernel
theorem dL_refuses_270 : decode cL_refuses 270 = .ok (.ifCond .eq 295, 3) := by decide +kernel
theorem dL_refuses_273 : decode cL_refuses 273 = .ok (.aload_n 0, 1) := by decide +kernel
theorem dL_refuses_274 : decode cL_refuses 274 = .ok (.iconst 0, 1) := by decide +kernel
theorem dL_refuses_275 : decode cL_refuses 275 = .ok (.bipush 7, 2) := by decide +kernel
theorem dL_refuses_277 : decode cL_refuses 277 = .ok (.iconst 0, 1) := by decide +kernel
theorem dL_refuses_278 : decode cL_refuses 278 = .ok (.iconst 0, 1) := by decide +kernel
theorem dL_refuses_279 : decode cL_refuses 279 = .ok (.invokestatic 115, 3) := by decide +kernel
theorem dL_refuses_282 : decode cL_refuses 282 = .ok (.ldc2_w 17, 3) := by decide +kernel
theorem dL_refuses_285 : decode cL_refuses 285 = .ok (.lcmp, 1) := by decide +kernel
theorem dL_refuses_286 : decode cL_refuses 286 = .ok (.ifCond .ne 279, 3) := by decide +kernel
theorem dL_refuses_289 : decode cL_refuses 289 = .ok (.aload_n 0, 1) := by decide +kernel
theorem dL_refuses_290 : decode cL_refuses 290 = .ok (.iconst 0, 1) := by decide +kernel
theorem dL_refuses_291 : decode cL_refuses 291 = .ok (.iconst 0, 1) := by decide +kernel
theorem dL_refuses_292 : decode cL_refuses 292 = .ok (.iload_n 2, 1) := by decide +kernel
theorem dL_refuses_293 : decode cL_refuses 293 = .ok (.iconst 1, 1) := by decide +kernel
theorem dL_refuses_294 : decode cL_refuses 294 = .ok (.iadd, 1) := by decide +kernel
theorem dL_refuses_295 : decode cL_refuses 295 = .ok (.iconst 0, 1) := by decide +kernel
theorem dL_refuses_296 : decode cL_refuses 296 = .ok (.invokestatic 115, 3) := by decide +kernel
theorem dL_refuses_299 : decode cL_refuses 299 = .ok (.ldc2_w 17, 3) := by decide +kernel
theorem dL_refuses_302 : decode cL_refuses 302 = .ok (.lcmp, 1) := by decide +kernel
theorem dL_refuses_303 : decode cL_refuses 303 = .ok (.ifCond .ne 262, 3) := by decide +kernel
theorem dL_refuses_306 : decode cL_refuses 306 = .ok (.aload_n 0, 1) := by decide +kernel
theorem dL_refuses_307 : decode cL_refuses 307 = .ok (.iload_n 1, 1) := by decide +kernel
theorem dL_refuses_308 : decode cL_refuses 308 = .ok (.iconst 0, 1) := by decide +kernel
theorem dL_refuses_309 : decode cL_refuses 309 = .ok (.invokestatic 140, 3) := by decide +kernel
theorem dL_refuses_312 : decode cL_refuses 312 = .ok (.ldc2_w 29, 3) := by decide +kernel
theorem dL_refuses_315 : decode cL_refuses 315 = .ok (.lcmp, 1) := by decide +kernel
theorem dL_refuses_316 : decode cL_refuses 316 = .ok (.ifCond .ne 249, 3) := by decide +kernel
theorem dL_refuses_319 : decode cL_refuses 319 = .ok (.aload_n 0, 1) := by decide +kernel
theorem dL_refuses_320 : decode cL_refuses 320 = .ok (.bipush 16, 2) := by decide +kernel
theorem dL_refuses_322 : decode cL_refuses 322 = .ok (.iconst 0, 1) := by decide +kernel
theorem dL_refuses_323 : decode cL_refuses 323 = .ok (.iconst 0, 1) := by decide +kernel
theorem dL_refuses_324 : decode cL_refuses 324 = .ok (.invokestatic 128, 3) := by decide +kernel
theorem dL_refuses_327 : decode cL_refuses 327 = .ok (.ldc2_w 29, 3) := by decide +kernel
theorem dL_refuses_330 : decode cL_refuses 330 = .ok (.lcmp, 1) := by decide +kernel
theorem dL_refuses_331 : decode cL_refuses 331 = .ok (.ifCond .ne 234, 3) := by decide +kernel
theorem dL_refuses_334 : decode cL_refuses 334 = .ok (.aload_n 0, 1) := by decide +kernel
theorem dL_refuses_335 : decode cL_refuses 335 = .ok (.iconst 0, 1) := by decide +kernel
theorem dL_refuses_336 : decode cL_refuses 336 = .ok (.iload_n 2, 1) := by decide +kernel
theorem dL_refuses_337 : decode cL_refuses 337 = .ok (.iconst 2, 1) := by decide +kernel
theorem dL_refuses_338 : decode cL_refuses 338 = .ok (.iconst 0, 1) := by decide +kernel
theorem dL_refuses_339 : decode cL_refuses 339 = .ok (.invokestatic 131, 3) := by decide +kernel
theorem dL_refuses_342 : decode cL_refuses 342 = .ok (.ldc2_w 17, 3) := by decide +kernel
theorem dL_refuses_345 : decode cL_refuses 345 = .ok (.lcmp, 1) := by decide +kernel
theorem dL_refuses_346 : decode cL_refuses 346 = .ok (.ifCond .ne 219, 3) := by decide +kernel
theorem dL_refuses_349 : decode cL_refuses 349 = .ok (.aload_n 0, 1) := by decide +kernel
theorem dL_refuses_350 : decode cL_refuses 350 = .ok (.iconst 0, 1) := by decide +kernel
theorem dL_refuses_351 : decode cL_refuses 351 = .ok (.iconst (-1), 1) := by decide +kernel
theorem dL_refuses_352 : decode cL_refuses 352 = .ok (.iconst 0, 1) := by decide +kernel
theorem dL_refuses_353 : decode cL_refuses 353 = .ok (.invokestatic 133, 3) := by decide +kernel
theorem dL_refuses_356 : decode cL_refuses 356 = .ok (.ldc2_w 17, 3) := by decide +kernel
theorem dL_refuses_359 : decode cL_refuses 359 = .ok (.lcmp, 1) := by decide +kernel
theorem dL_refuses_360 : decode cL_refuses 360 = .ok (.ifCond .ne 205, 3) := by decide +kernel
theorem dL_refuses_363 : decode cL_refuses 363 = .ok (.aload_n 0, 1) := by decide +kernel
theorem dL_refuses_364 : decode cL_refuses 364 = .ok (.iconst 0, 1) := by decide +kernel
theorem dL_refuses_365 : decode cL_refuses 365 = .ok (.iload_n 1, 1) := by decide +kernel
theorem dL_refuses_366 : decode cL_refuses 366 = .ok (.invokestatic 175, 3) := by decide +kernel
theorem dL_refuses_369 : decode cL_refuses 369 = .ok (.ldc2_w 29, 3) := by decide +kernel
theorem dL_refuses_372 : decode cL_refuses 372 = .ok (.lcmp, 1) := by decide +kernel
theorem dL_refuses_373 : decode cL_refuses 373 = .ok (.ifCond .ne 192, 3) := by decide +kernel
theorem dL_refuses_376 : decode cL_refuses 376 = .ok (.aload_n 0, 1) := by decide +kernel
theorem dL_refuses_377 : decode cL_refuses 377 = .ok (.iconst 1, 1) := by decide +kernel
theorem dL_refuses_378 : decode cL_refuses 378 = .ok (.iconst 1, 1) := by decide +kernel
theorem dL_refuses_379 : decode cL_refuses 379 = .ok (.invokestatic 177, 3) := by decide +kernel
theorem dL_refuses_382 : decode cL_refuses 382 = .ok (.ldc2_w 17, 3) := by decide +kernel
theorem dL_refuses_385 : decode cL_refuses 385 = .ok (.lcmp, 1) := by decide +kernel
theorem dL_refuses_386 : decode cL_refuses 386 = .ok (.ifCond .ne 179, 3) := by decide +kernel
theorem dL_refuses_389 : decode cL_refuses 389 = .ok (.aload_n 0, 1) := by decide +kernel
theorem dL_refuses_390 : decode cL_refuses 390 = .ok (.iconst (-1), 1) := by decide +kernel
theorem dL_refuses_391 : decode cL_refuses 391 = .ok (.invokestatic 179, 3) := by decide +kernel
theorem dL_refuses_394 : decode cL_refuses 394 = .ok (.ldc2_w 29, 3) := by decide +kernel
theorem dL_refuses_397 : decode cL_refuses 397 = .ok (.lcmp, 1) := by decide +kernel
theorem dL_refuses_398 : decode cL_refuses 398 = .ok (.ifCond .ne 167, 3) := by decide +kernel
theorem dL_refuses_401 : decode cL_refuses 401 = .ok (.aload_n 0, 1) := by decide +kernel
theorem dL_refuses_402 : decode cL_refuses 402 = .ok (.iload_n 1, 1) := by decide +kernel
theorem dL_refuses_403 : decode cL_refuses 403 = .ok (.invokestatic 181, 3) := by decide +kernel
theorem dL_refuses_406 : decode cL_refuses 406 = .ok (.ldc2_w 29, 3) := by decide +kernel
theorem dL_refuses_409 : decode cL_refuses 409 = .ok (.lcmp, 1) := by decide +kernel
theorem dL_refuses_410 : decode cL_refuses 410 = .ok (.ifCond .ne 155, 3) := by decide +kernel
theorem dL_refuses_413 : decode cL_refuses 413 = .ok (.aload_n 0, 1) := by decide +kernel
theorem dL_refuses_414 : decode cL_refuses 414 = .ok (.iload_n 1, 1) := by decide +kernel
theorem dL_refuses_415 : decode cL_refuses 415 = .ok (.invokestatic 183, 3) := by decide +kernel
theorem dL_refuses_418 : decode cL_refuses 418 = .ok (.ldc2_w 29, 3) := by decide +kernel
theorem dL_refuses_421 : decode cL_refuses 421 = .ok (.lcmp, 1) := by decide +kernel
theorem dL_refuses_422 : decode cL_refuses 422 = .ok (.ifCond .ne 143, 3) := by decide +kernel
theorem dL_refuses_425 : decode cL_refuses 425 = .ok (.aload_n 0, 1) := by decide +kernel
theorem dL_refuses_426 : decode cL_refuses 426 = .ok (.sipush 10000, 3) := by decide +kernel
theorem dL_refuses_429 : decode cL_refuses 429 = .ok (.invokestatic 185, 3) := by decide +kernel
theorem dL_refuses_432 : decode cL_refuses 432 = .ok (.ldc2_w 17, 3) := by decide +kernel
theorem dL_refuses_435 : decode cL_refuses 435 = .ok (.lcmp, 1) := by decide +kernel
theorem dL_refuses_436 : decode cL_refuses 436 = .ok (.ifCond .ne 129, 3) := by decide +kernel
theorem dL_refuses_439 : decode cL_refuses 439 = .ok (.aload_n 0, 1) := by decide +kernel
theorem dL_refuses_440 : decode cL_refuses 440 = .ok (.iconst 0, 1) := by decide +kernel
theorem dL_refuses_441 : decode cL_refuses 441 = .ok (.iconst 4, 1) := by decide +kernel
theorem dL_refuses_442 : decode cL_refuses 442 = .ok (.invokestatic 187, 3) := by decide +kernel
theorem dL_refuses_445 : decode cL_refuses 445 = .ok (.ldc2_w 29, 3) := by decide +kernel
theorem dL_refuses_448 : decode cL_refuses 448 = .ok (.lcmp, 1) := by decide +kernel
theorem dL_refuses_449 : decode cL_refuses 449 = .ok (.ifCond .ne 116, 3) := by decide +kernel
theorem dL_refuses_452 : decode cL_refuses 452 = .ok (.aload_n 0, 1) := by decide +kernel
theorem dL_refuses_453 : decode cL_refuses 453 = .ok (.iconst 5, 1) := by decide +kernel
theorem dL_refuses_454 : decode cL_refuses 454 = .ok (.invokestatic 138, 3) := by decide +kernel
theorem dL_refuses_457 : decode cL_refuses 457 = .ok (.ldc2_w 29, 3) := by decide +kernel
theorem dL_refuses_460 : decode cL_refuses 460 = .ok (.lcmp, 1) := by decide +kernel
theorem dL_refuses_461 : decode cL_refuses 461 = .ok (.ifCond .ne 104, 3) := by decide +kernel
theorem dL_refuses_464 : decode cL_refuses 464 = .ok (.aload_n 0, 1) := by decide +kernel
theorem dL_refuses_465 : decode cL_refuses 465 = .ok (.iconst (-1), 1) := by decide +kernel
theorem dL_refuses_466 : decode cL_refuses 466 = .ok (.invokestatic 135, 3) := by decide +kernel
theorem dL_refuses_469 : decode cL_refuses 469 = .ok (.ldc2_w 29, 3) := by decide +kernel
theorem dL_refuses_472 : decode cL_refuses 472 = .ok (.lcmp, 1) := by decide +kernel
theorem dL_refuses_473 : decode cL_refuses 473 = .ok (.ifCond .ne 92, 3) := by decide +kernel
theorem dL_refuses_476 : decode cL_refuses 476 = .ok (.aload_n 0, 1) := by decide +kernel
theorem dL_refuses_477 : decode cL_refuses 477 = .ok (.iconst 5, 1) := by decide +kernel
theorem dL_refuses_478 : decode cL_refuses 478 = .ok (.iconst 0, 1) := by decide +kernel
theorem dL_refuses_479 : decode cL_refuses 479 = .ok (.invokestatic 189, 3) := by decide +kernel
theorem dL_refuses_482 : decode cL_refuses 482 = .ok (.ldc2_w 29, 3) := by decide +kernel
theorem dL_refuses_485 : decode cL_refuses 485 = .ok (.lcmp, 1) := by decide +kernel
theorem dL_refuses_486 : decode cL_refuses 486 = .ok (.ifCond .ne 79, 3) := by decide +kernel
theorem dL_refuses_489 : decode cL_refuses 489 = .ok (.aload_n 0, 1) := by decide +kernel
theorem dL_refuses_490 : decode cL_refuses 490 = .ok (.iconst 0, 1) := by decide +kernel
theorem dL_refuses_491 : decode cL_refuses 491 = .ok (.iload_n 1, 1) := by decide +kernel
theorem dL_refuses_492 : decode cL_refuses 492 = .ok (.invokestatic 149, 3) := by decide +kernel
theorem dL_refuses_495 : decode cL_refuses 495 = .ok (.ldc2_w 29, 3) := by decide +kernel
theorem dL_refuses_498 : decode cL_refuses 498 = .ok (.lcmp, 1) := by decide +kernel
theorem dL_refuses_499 : decode cL_refuses 499 = .ok (.ifCond .ne 66, 3) := by decide +kernel
theorem dL_refuses_502 : decode cL_refuses 502 = .ok (.aload_n 0, 1) := by decide +kernel
theorem dL_refuses_503 : decode cL_refuses 503 = .ok (.iconst 5, 1) := by decide +kernel
theorem dL_refuses_504 : decode cL_refuses 504 = .ok (.iconst 0, 1) := by decide +kernel
theorem dL_refuses_505 : decode cL_refuses 505 = .ok (.invokestatic 151, 3) := by decide +kernel
theorem dL_refuses_508 : decode cL_refuses 508 = .ok (.ldc2_w 29, 3) := by decide +kernel
theorem dL_refuses_511 : decode cL_refuses 511 = .ok (.lcmp, 1) := by decide +kernel
theorem dL_refuses_512 : decode cL_refuses 512 = .ok (.ifCond .ne 53, 3) := by decide +kernel
theorem dL_refuses_515 : decode cL_refuses 515 = .ok (.aload_n 0, 1) := by decide +kernel
theorem dL_refuses_516 : decode cL_refuses 516 = .ok (.iload_n 1, 1) := by decide +kernel
theorem dL_refuses_517 : decode cL_refuses 517 = .ok (.iconst 1, 1) := by decide +kernel
theorem dL_refuses_518 : decode cL_refuses 518 = .ok (.invokestatic 191, 3) := by decide +kernel
theorem dL_refuses_521 : decode cL_refuses 521 = .ok (.ldc2_w 29, 3) := by decide +kernel
theorem dL_refuses_524 : decode cL_refuses 524 = .ok (.lcmp, 1) := by decide +kernel
theorem dL_refuses_525 : decode cL_refuses 525 = .ok (.ifCond .ne 40, 3) := by decide +kernel
theorem dL_refuses_528 : decode cL_refuses 528 = .ok (.aload_n 0, 1) := by decide +kernel
theorem dL_refuses_529 : decode cL_refuses 529 = .ok (.iconst (-1), 1) := by decide +kernel
theorem dL_refuses_530 : decode cL_refuses 530 = .ok (.iconst 0, 1) := by decide +kernel
theorem dL_refuses_531 : decode cL_refuses 531 = .ok (.invokestatic 194, 3) := by decide +kernel
theorem dL_refuses_534 : decode cL_refuses 534 = .ok (.ldc2_w 17, 3) := by decide +kernel
theorem dL_refuses_537 : decode cL_refuses 537 = .ok (.lcmp, 1) := by decide +kernel
theorem dL_refuses_538 : decode cL_refuses 538 = .ok (.ifCond .ne 27, 3) := by decide +kernel
theorem dL_refuses_541 : decode cL_refuses 541 = .ok (.aload_n 0, 1) := by decide +kernel
theorem dL_refuses_542 : decode cL_refuses 542 = .ok (.iload_n 1, 1) := by decide +kernel
theorem dL_refuses_543 : decode cL_refuses 543 = .ok (.invokestatic 196, 3) := by decide +kernel
theorem dL_refuses_546 : decode cL_refuses 546 = .ok (.ldc2_w 29, 3) := by decide +kernel
theorem dL_refuses_549 : decode cL_refuses 549 = .ok (.lcmp, 1) := by decide +kernel
theorem dL_refuses_550 : decode cL_refuses 550 = .ok (.ifCond .ne 15, 3) := by decide +kernel
theorem dL_refuses_553 : decode cL_refuses 553 = .ok (.aload_n 0, 1) := by decide +kernel
theorem dL_refuses_554 : decode cL_refuses 554 = .ok (.invokevirtual 153, 3) := by decide +kernel
theorem dL_refuses_557 : decode cL_refuses 557 = .ok (.iload_n 2, 1) := by decide +kernel
theorem dL_refuses_558 : decode cL_refuses 558 = .ok (.if_icmp .ne 7, 3) := by decide +kernel
theorem dL_refuses_561 : decode cL_refuses 561 = .ok (.iconst 1, 1) := by decide +kernel
theorem dL_refuses_562 : decode cL_refuses 562 = .ok (.goto 4, 3) := by decide +kernel
theorem dL_refuses_565 : decode cL_refuses 565 = .ok (.iconst 0, 1) := by decide +kernel
theorem dL_refuses_566 : decode cL_refuses 566 = .ok (.ireturn, 1) := by decide +kernel
