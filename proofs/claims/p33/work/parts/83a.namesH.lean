theorem dL_draw_0 : decode cL_draw 0 = .ok (.iload_n 1, 1) := by decide +kernel
theorem dL_draw_1 : decode cL_draw 1 = .ok (.aload_n 0, 1) := by decide +kernel
theorem dL_draw_2 : decode cL_draw 2 = .ok (.arraylength, 1) := by decide +kernel
theorem dL_draw_3 : decode cL_draw 3 = .ok (.if_icmp .ge 9, 3) := by decide +kernel
theorem dL_draw_6 : decode cL_draw 6 = .ok (.aload_n 0, 1) := by decide +kernel
theorem dL_draw_7 : decode cL_draw 7 = .ok (.iload_n 1, 1) := by decide +kernel
theorem dL_draw_8 : decode cL_draw 8 = .ok (.iaload, 1) := by decide +kernel
theorem dL_draw_9 : decode cL_draw 9 = .ok (.goto 11, 3) := by decide +kernel
theorem dL_draw_12 : decode cL_draw 12 = .ok (.ldc 7, 2) := by decide +kernel
theorem dL_draw_14 : decode cL_draw 14 = .ok (.iload_n 1, 1) := by decide +kernel
theorem dL_draw_15 : decode cL_draw 15 = .ok (.imul, 1) := by decide +kernel
theorem dL_draw_16 : decode cL_draw 16 = .ok (.sipush 11863, 3) := by decide +kernel
theorem dL_draw_19 : decode cL_draw 19 = .ok (.iadd, 1) := by decide +kernel
theorem dL_draw_20 : decode cL_draw 20 = .ok (.ldc 8, 2) := by decide +kernel
theorem dL_draw_22 : decode cL_draw 22 = .ok (.iand, 1) := by decide +kernel
theorem dL_draw_23 : decode cL_draw 23 = .ok (.ireturn, 1) := by decide +kernel
theorem dL_personHolds_0 : decode cL_personHolds 0 = .ok (.aload_n 0, 1) := by decide +kernel
theorem dL_personHolds_1 : decode cL_personHolds 1 = .ok (.iload_n 1, 1) := by decide +kernel
theorem dL_personHolds_2 : decode cL_personHolds 2 = .ok (.iconst 0, 1) := by decide +kernel
theorem dL_personHolds_3 : decode cL_personHolds 3 = .ok (.iload_n 2, 1) := by decide +kernel
theorem dL_personHolds_4 : decode cL_personHolds 4 = .ok (.iload_n 3, 1) := by decide +kernel
theorem dL_personHolds_5 : decode cL_personHolds 5 = .ok (.invokestatic 115, 3) := by decide +kernel
theorem dL_personHolds_8 : decode cL_personHolds 8 = .ok (.lstore 5, 2) := by decide +kernel
theorem dL_personHolds_10 : decode cL_personHolds 10 = .ok (.aload_n 0, 1) := by decide +kernel
theorem dL_personHolds_11 : decode cL_personHolds 11 = .ok (.iload_n 1, 1) := by decide +kernel
theorem dL_personHolds_12 : decode cL_personHolds 12 = .ok (.iconst 3, 1) := by decide +kernel
theorem dL_personHolds_13 : decode cL_personHolds 13 = .ok (.iload_n 2, 1) := by decide +kernel
theorem dL_personHolds_14 : decode cL_personHolds 14 = .ok (.iload_n 3, 1) := by decide +kernel
theorem dL_personHolds_15 : decode cL_personHolds 15 = .ok (.invokestatic 115, 3) := by decide +kernel
theorem dL_personHolds_18 : decode cL_personHolds 18 = .ok (.lstore 7, 2) := by decide +kernel
theorem dL_personHolds_20 : decode cL_personHolds 20 = .ok (.aload_n 0, 1) := by decide +kernel
theorem dL_personHolds_21 : decode cL_personHolds 21 = .ok (.iload_n 1, 1) := by decide +kernel
theorem dL_personHolds_22 : decode cL_personHolds 22 = .ok (.iconst 4, 1) := by decide +kernel
theorem dL_personHolds_23 : decode cL_personHolds 23 = .ok (.iload_n 2, 1) := by decide +kernel
theorem dL_personHolds_24 : decode cL_personHolds 24 = .ok (.iload_n 3, 1) := by decide +kernel
theorem dL_personHolds_25 : decode cL_personHolds 25 = .ok (.invokestatic 115, 3) := by decide +kernel
theorem dL_personHolds_28 : decode cL_personHolds 28 = .ok (.lstore 9, 2) := by decide +kernel
theorem dL_personHolds_30 : decode cL_personHolds 30 = .ok (.aload_n 0, 1) := by decide +kernel
theorem dL_personHolds_31 : decode cL_personHolds 31 = .ok (.iload_n 1, 1) := by decide +kernel
theorem dL_personHolds_32 : decode cL_personHolds 32 = .ok (.bipush 6, 2) := by decide +kernel
theorem dL_personHolds_34 : decode cL_personHolds 34 = .ok (.iload_n 2, 1) := by decide +kernel
theorem dL_personHolds_35 : decode cL_personHolds 35 = .ok (.iload_n 3, 1) := by decide +kernel
theorem dL_personHolds_36 : decode cL_personHolds 36 = .ok (.invokestatic 115, 3) := by decide +kernel
theorem dL_personHolds_39 : decode cL_personHolds 39 = .ok (.lstore 11, 2) := by decide +kernel
theorem dL_personHolds_41 : decode cL_personHolds 41 = .ok (.lload 5, 2) := by decide +kernel
theorem dL_personHolds_43 : decode cL_personHolds 43 = .ok (.lconst 1, 1) := by decide +kernel
theorem dL_personHolds_44 : decode cL_personHolds 44 = .ok (.lcmp, 1) := by decide +kernel
theorem dL_personHolds_45 : decode cL_personHolds 45 = .ok (.ifCond .ne 7, 3) := by decide +kernel
theorem dL_personHolds_48 : decode cL_personHolds 48 = .ok (.iconst 1, 1) := by decide +kernel
theorem dL_personHolds_49 : decode cL_personHolds 49 = .ok (.goto 4, 3) := by decide +kernel
theorem dL_personHolds_52 : decode cL_personHolds 52 = .ok (.iconst 0, 1) := by decide +kernel
theorem dL_personHolds_53 : decode cL_personHolds 53 = .ok (.istore 13, 2) := by decide +kernel
theorem dL_personHolds_55 : decode cL_personHolds 55 = .ok (.lload 5, 2) := by decide +kernel
theorem dL_personHolds_57 : decode cL_personHolds 57 = .ok (.lconst 0, 1) := by decide +kernel
theorem dL_personHolds_58 : decode cL_personHolds 58 = .ok (.lcmp, 1) := by decide +kernel
theorem dL_personHolds_59 : decode cL_personHolds 59 = .ok (.ifCond .lt 189, 3) := by decide +kernel
theorem dL_personHolds_62 : decode cL_personHolds 62 = .ok (.lload 5, 2) := by decide +kernel
theorem dL_personHolds_64 : decode cL_personHolds 64 = .ok (.ldc2_w 120, 3) := by decide +kernel
theorem dL_personHolds_67 : decode cL_personHolds 67 = .ok (.lcmp, 1) := by decide +kernel
theorem dL_personHolds_68 : decode cL_personHolds 68 = .ok (.ifCond .gt 180, 3) := by decide +kernel
theorem dL_personHolds_71 : decode cL_personHolds 71 = .ok (.aload_n 0, 1) := by decide +kernel
theorem dL_personHolds_72 : decode cL_personHolds 72 = .ok (.iload_n 1, 1) := by decide +kernel
theorem dL_personHolds_73 : decode cL_personHolds 73 = .ok (.iconst 1, 1) := by decide +kernel
theorem dL_personHolds_74 : decode cL_personHolds 74 = .ok (.iload_n 2, 1) := by decide +kernel
theorem dL_personHolds_75 : decode cL_personHolds 75 = .ok (.iload_n 3, 1) := by decide +kernel
theorem dL_personHolds_76 : decode cL_personHolds 76 = .ok (.invokestatic 115, 3) := by decide +kernel
theorem dL_personHolds_79 : decode cL_personHolds 79 = .ok (.lconst 0, 1) := by decide +kernel
theorem dL_personHolds_80 : decode cL_personHolds 80 = .ok (.lcmp, 1) := by decide +kernel
theorem dL_personHolds_81 : decode cL_personHolds 81 = .ok (.ifCond .lt 7, 3) := by decide +kernel
theorem dL_personHolds_84 : decode cL_personHolds 84 = .ok (.iconst 1, 1) := by decide +kernel
theorem dL_personHolds_85 : decode cL_personHolds 85 = .ok (.goto 4, 3) := by decide +kernel
theorem dL_personHolds_88 : decode cL_personHolds 88 = .ok (.iconst 0, 1) := by decide +kernel
theorem dL_personHolds_89 : decode cL_personHolds 89 = .ok (.iload 13, 2) := by decide +kernel
theorem dL_personHolds_91 : decode cL_personHolds 91 = .ok (.if_icmp .ne 157, 3) := by decide +kernel
theorem dL_personHolds_94 : decode cL_personHolds 94 = .ok (.aload_n 0, 1) := by decide +kernel
theorem dL_personHolds_95 : decode cL_personHolds 95 = .ok (.iload_n 1, 1) := by decide +kernel
theorem dL_personHolds_96 : decode cL_personHolds 96 = .ok (.iconst 2, 1) := by decide +kernel
theorem dL_personHolds_97 : decode cL_personHolds 97 = .ok (.iload_n 2, 1) := by decide +kernel
theorem dL_personHolds_98 : decode cL_personHolds 98 = .ok (.iload_n 3, 1) := by decide +kernel
theorem dL_personHolds_99 : decode cL_personHolds 99 = .ok (.invokestatic 115, 3) := by decide +kernel
theorem dL_personHolds_102 : decode cL_personHolds 102 = .ok (.lconst 0, 1) := by decide +kernel
theorem dL_personHolds_103 : decode cL_personHolds 103 = .ok (.lcmp, 1) := by decide +kernel
theorem dL_personHolds_104 : decode cL_personHolds 104 = .ok (.ifCond .lt 7, 3) := by decide +kernel
theorem dL_personHolds_107 : decode cL_personHolds 107 = .ok (.iconst 1, 1) := by decide +kernel
theorem dL_personHolds_108 : decode cL_personHolds 108 = .ok (.goto 4, 3) := by decide +kernel
theorem dL_personHolds_111 : decode cL_personHolds 111 = .ok (.iconst 0, 1) := by decide +kernel
theorem dL_personHolds_112 : decode cL_personHolds 112 = .ok (.iload 13, 2) := by decide +kernel
theorem dL_personHolds_114 : decode cL_personHolds 114 = .ok (.ifCond .ne 12, 3) := by decide +kernel
theorem dL_personHolds_117 : decode cL_personHolds 117 = .ok (.lload 5, 2) := by decide +kernel
theorem dL_personHolds_119 : decode cL_personHolds 119 = .ok (.ldc2_w 122, 3) := by decide +kernel
theorem dL_personHolds_122 : decode cL_personHolds 122 = .ok (.lcmp, 1) := by decide +kernel
theorem dL_personHolds_123 : decode cL_personHolds 123 = .ok (.ifCond .ne 7, 3) := by decide +kernel
theorem dL_personHolds_126 : decode cL_personHolds 126 = .ok (.iconst 1, 1) := by decide +kernel
theorem dL_personHolds_127 : decode cL_personHolds 127 = .ok (.goto 4, 3) := by decide +kernel
theorem dL_personHolds_130 : decode cL_personHolds 130 = .ok (.iconst 0, 1) := by decide +kernel
theorem dL_personHolds_131 : decode cL_personHolds 131 = .ok (.if_icmp .ne 117, 3) := by decide +kernel
theorem dL_personHolds_134 : decode cL_personHolds 134 = .ok (.iload 13, 2) := by decide +kernel
theorem dL_personHolds_136 : decode cL_personHolds 136 = .ok (.ifCond .ne 12, 3) := by decide +kernel
theorem dL_personHolds_139 : decode cL_personHolds 139 = .ok (.lload 7, 2) := by decide +kernel
theorem dL_personHolds_141 : decode cL_personHolds 141 = .ok (.ldc2_w 124, 3) := by decide +kernel
theorem dL_personHolds_144 : decode cL_personHolds 144 = .ok (.lcmp, 1) := by decide +kernel
theorem dL_personHolds_145 : decode cL_personHolds 145 = .ok (.ifCond .ne 103, 3) := by decide +kernel
theorem dL_personHolds_148 : decode cL_personHolds 148 = .ok (.iload 13, 2) := by decide +kernel
theorem dL_personHolds_150 : decode cL_personHolds 150 = .ok (.ifCond .ne 21, 3) := by decide +kernel
theorem dL_personHolds_153 : decode cL_personHolds 153 = .ok (.lload 5, 2) := by decide +kernel
theorem dL_personHolds_155 : decode cL_personHolds 155 = .ok (.ldc2_w 122, 3) := by decide +kernel
theorem dL_personHolds_158 : decode cL_personHolds 158 = .ok (.lcmp, 1) := by decide +kernel
theorem dL_personHolds_159 : decode cL_personHolds 159 = .ok (.ifCond .eq 12, 3) := by decide +kernel
theorem dL_personHolds_162 : decode cL_personHolds 162 = .ok (.lload 9, 2) := by decide +kernel
theorem dL_personHolds_164 : decode cL_personHolds 164 = .ok (.ldc2_w 124, 3) := by decide +kernel
theorem dL_personHolds_167 : decode cL_personHolds 167 = .ok (.lcmp, 1) := by decide +kernel
theorem dL_personHolds_168 : decode cL_personHolds 168 = .ok (.ifCond .ne 80, 3) := by decide +kernel
theorem dL_personHolds_171 : decode cL_personHolds 171 = .ok (.lload 9, 2) := by decide +kernel
theorem dL_personHolds_173 : decode cL_personHolds 173 = .ok (.iload_n 1, 1) := by decide +kernel
theorem dL_personHolds_174 : decode cL_personHolds 174 = .ok (.i2l, 1) := by decide +kernel
theorem dL_personHolds_175 : decode cL_personHolds 175 = .ok (.lcmp, 1) := by decide +kernel
theorem dL_personHolds_176 : decode cL_personHolds 176 = .ok (.ifCond .eq 72, 3) := by decide +kernel
theorem dL_personHolds_179 : decode cL_personHolds 179 = .ok (.lload 7, 2) := by decide +kernel
theorem dL_personHolds_181 : decode cL_personHolds 181 = .ok (.iload_n 1, 1) := by decide +kernel
theorem dL_personHolds_182 : decode cL_personHolds 182 = .ok (.i2l, 1) := by decide +kernel
theorem dL_personHolds_183 : decode cL_personHolds 183 = .ok (.lcmp, 1) := by decide +kernel
theorem dL_personHolds_184 : decode cL_personHolds 184 = .ok (.ifCond .eq 64, 3) := by decide +kernel
theorem dL_personHolds_187 : decode cL_personHolds 187 = .ok (.lload 9, 2) := by decide +kernel
theorem dL_personHolds_189 : decode cL_personHolds 189 = .ok (.iload 4, 2) := by decide +kernel
theorem dL_personHolds_191 : decode cL_personHolds 191 = .ok (.i2l, 1) := by decide +kernel
theorem dL_personHolds_192 : decode cL_personHolds 192 = .ok (.lcmp, 1) := by decide +kernel
theorem dL_personHolds_193 : decode cL_personHolds 193 = .ok (.ifCond .ge 55, 3) := by decide +kernel
theorem dL_personHolds_196 : decode cL_personHolds 196 = .ok (.aload_n 0, 1) := by decide +kernel
theorem dL_personHolds_197 : decode cL_personHolds 197 = .ok (.iload_n 1, 1) := by decide +kernel
theorem dL_personHolds_198 : decode cL_personHolds 198 = .ok (.iconst 5, 1) := by decide +kernel
theorem dL_personHolds_199 : decode cL_personHolds 199 = .ok (.iload_n 2, 1) := by decide +kernel
theorem dL_personHolds_200 : decode cL_personHolds 200 = .ok (.iload_n 3, 1) := by decide +kernel
theorem dL_personHolds_201 : decode cL_personHolds 201 = .ok (.invokestatic 115, 3) := by decide +kernel
theorem dL_personHolds_204 : decode cL_personHolds 204 = .ok (.lconst 0, 1) := by decide +kernel
theorem dL_personHolds_205 : decode cL_personHolds 205 = .ok (.lcmp, 1) := by decide +kernel
theorem dL_personHolds_206 : decode cL_personHolds 206 = .ok (.ifCond .lt 7, 3) := by decide +kernel
theorem dL_personHolds_209 : decode cL_personHolds 209 = .ok (.iconst 1, 1) := by decide +kernel
theorem dL_personHolds_210 : decode cL_personHolds 210 = .ok (.goto 4, 3) := by decide +kernel
theorem dL_personHolds_213 : decode cL_personHolds 213 = .ok (.iconst 0, 1) := by decide +kernel
theorem dL_personHolds_214 : decode cL_personHolds 214 = .ok (.iload 13, 2) := by decide +kernel
theorem dL_personHolds_216 : decode cL_personHolds 216 = .ok (.if_icmp .ne 32, 3) := by decide +kernel
theorem dL_personHolds_219 : decode cL_personHolds 219 = .ok (.lload 11, 2) := by decide +kernel
theorem dL_personHolds_221 : decode cL_personHolds 221 = .ok (.lconst 0, 1) := by decide +kernel
theorem dL_personHolds_222 : decode cL_personHolds 222 = .ok (.lcmp, 1) := by decide +kernel
theorem dL_personHolds_223 : decode cL_personHolds 223 = .ok (.ifCond .lt 7, 3) := by decide +kernel
theorem dL_personHolds_226 : decode cL_personHolds 226 = .ok (.iconst 1, 1) := by decide +kernel
theorem dL_personHolds_227 : decode cL_personHolds 227 = .ok (.goto 4, 3) := by decide +kernel
theorem dL_personHolds_230 : decode cL_personHolds 230 = .ok (.iconst 0, 1) := by decide +kernel
theorem dL_personHolds_231 : decode cL_personHolds 231 = .ok (.iload 13, 2) := by decide +kernel
theorem dL_personHolds_233 : decode cL_personHolds 233 = .ok (.if_icmp .ne 15, 3) := by decide +kernel
theorem dL_personHolds_236 : decode cL_personHolds 236 = .ok (.lload 11, 2) := by decide +kernel
theorem dL_personHolds_238 : decode cL_personHolds 238 = .ok (.iload_n 1, 1) := by decide +kernel
theorem dL_personHolds_239 : decode cL_personHolds 239 = .ok (.i2l, 1) := by decide +kernel
theorem dL_personHolds_240 : decode cL_personHolds 240 = .ok (.lcmp, 1) := by decide +kernel
theorem dL_personHolds_241 : decode cL_personHolds 241 = .ok (.ifCond .gt 7, 3) := by decide +kernel
theorem dL_personHolds_244 : decode cL_personHolds 244 = .ok (.iconst 1, 1) := by decide +kernel
theorem dL_personHolds_245 : decode cL_personHolds 245 = .ok (.goto 4, 3) := by decide +kernel
theorem dL_personHolds_248 : decode cL_personHolds 248 = .ok (.iconst 0, 1) := by decide +kernel
theorem dL_personHolds_249 : decode cL_personHolds 249 = .ok (.istore 14, 2) := by decide +kernel
theorem dL_personHolds_251 : decode cL_personHolds 251 = .ok (.iload 13, 2) := by decide +kernel
theorem dL_personHolds_253 : decode cL_personHolds 253 = .ok (.ifCond .eq 53, 3) := by decide +kernel
theorem dL_personHolds_256 : decode cL_personHolds 256 = .ok (.lload 7, 2) := by decide +kernel
theorem dL_personHolds_258 : decode cL_personHolds 258 = .ok (.lconst 0, 1) := by decide +kernel
theorem dL_personHolds_259 : decode cL_personHolds 259 = .ok (.lcmp, 1) := by decide +kernel
theorem dL_personHolds_260 : decode cL_personHolds 260 = .ok (.ifCond .lt 46, 3) := by decide +kernel
theorem dL_personHolds_263 : decode cL_personHolds 263 = .ok (.iload 14, 2) := by decide +kernel
theorem dL_personHolds_265 : decode cL_personHolds 265 = .ok (.ifCond .eq 38, 3) := by decide +kernel
theorem dL_personHolds_268 : decode cL_personHolds 268 = .ok (.aload_n 0, 1) := by decide +kernel
theorem dL_personHolds_269 : decode cL_personHolds 269 = .ok (.lload 7, 2) := by decide +kernel
theorem dL_personHolds_271 : decode cL_personHolds 271 = .ok (.l2i, 1) := by decide +kernel
theorem dL_personHolds_272 : decode cL_personHolds 272 = .ok (.iconst 3, 1) := by decide +kernel
theorem dL_personHolds_273 : decode cL_personHolds 273 = .ok (.iload_n 2, 1) := by decide +kernel
theorem dL_personHolds_274 : decode cL_personHolds 274 = .ok (.iload_n 3, 1) := by decide +kernel
theorem dL_personHolds_275 : decode cL_personHolds 275 = .ok (.invokestatic 115, 3) := by decide +kernel
theorem dL_personHolds_278 : decode cL_personHolds 278 = .ok (.iload_n 1, 1) := by decide +kernel
theorem dL_personHolds_279 : decode cL_personHolds 279 = .ok (.i2l, 1) := by decide +kernel
theorem dL_personHolds_280 : decode cL_personHolds 280 = .ok (.lcmp, 1) := by decide +kernel
theorem dL_personHolds_281 : decode cL_personHolds 281 = .ok (.ifCond .ne 22, 3) := by decide +kernel
theorem dL_personHolds_284 : decode cL_personHolds 284 = .ok (.aload_n 0, 1) := by decide +kernel
theorem dL_personHolds_285 : decode cL_personHolds 285 = .ok (.lload 7, 2) := by decide +kernel
theorem dL_personHolds_287 : decode cL_personHolds 287 = .ok (.l2i, 1) := by decide +kernel
theorem dL_personHolds_288 : decode cL_personHolds 288 = .ok (.iconst 0, 1) := by decide +kernel
theorem dL_personHolds_289 : decode cL_personHolds 289 = .ok (.iload_n 2, 1) := by decide +kernel
theorem dL_personHolds_290 : decode cL_personHolds 290 = .ok (.iload_n 3, 1) := by decide +kernel
theorem dL_personHolds_291 : decode cL_personHolds 291 = .ok (.invokestatic 115, 3) := by decide +kernel
theorem dL_personHolds_294 : decode cL_personHolds 294 = .ok (.lconst 1, 1) := by decide +kernel
theorem dL_personHolds_295 : decode cL_personHolds 295 = .ok (.lcmp, 1) := by decide +kernel
theorem dL_personHolds_296 : decode cL_personHolds 296 = .ok (.ifCond .ne 7, 3) := by decide +kernel
theorem dL_personHolds_299 : decode cL_personHolds 299 = .ok (.iconst 1, 1) := by decide +kernel
theorem dL_personHolds_300 : decode cL_personHolds 300 = .ok (.goto 4, 3) := by decide +kernel
theorem dL_personHolds_303 : decode cL_personHolds 303 = .ok (.iconst 0, 1) := by decide +kernel
theorem dL_personHolds_304 : decode cL_personHolds 304 = .ok (.istore 14, 2) := by decide +kernel
theorem dL_personHolds_306 : decode cL_personHolds 306 = .ok (.iload 13, 2) := by decide +kernel
theorem dL_personHolds_308 : decode cL_personHolds 308 = .ok (.ifCond .eq 61, 3) := by decide +kernel
theorem dL_personHolds_311 : decode cL_personHolds 311 = .ok (.lload 11, 2) := by decide +kernel
theorem dL_personHolds_313 : decode cL_personHolds 313 = .ok (.lconst 0, 1) := by decide +kernel
theorem dL_personHolds_314 : decode cL_personHolds 314 = .ok (.lcmp, 1) := by decide +kernel
theorem dL_personHolds_315 : decode cL_personHolds 315 = .ok (.ifCond .lt 54, 3) := by decide +kernel
theorem dL_personHolds_318 : decode cL_personHolds 318 = .ok (.iload 14, 2) := by decide +kernel
theorem dL_personHolds_320 : decode cL_personHolds 320 = .ok (.ifCond .eq 46, 3) := by decide +kernel
theorem dL_personHolds_323 : decode cL_personHolds 323 = .ok (.aload_n 0, 1) := by decide +kernel
theorem dL_personHolds_324 : decode cL_personHolds 324 = .ok (.lload 11, 2) := by decide +kernel
theorem dL_personHolds_326 : decode cL_personHolds 326 = .ok (.l2i, 1) := by decide +kernel
theorem dL_personHolds_327 : decode cL_personHolds 327 = .ok (.iconst 1, 1) := by decide +kernel
theorem dL_personHolds_328 : decode cL_personHolds 328 = .ok (.iload_n 2, 1) := by decide +kernel
theorem dL_personHolds_329 : decode cL_personHolds 329 = .ok (.iload_n 3, 1) := by decide +kernel
theorem dL_personHolds_330 : decode cL_personHolds 330 = .ok (.invokestatic 115, 3) := by decide +kernel
theorem dL_personHolds_333 : decode cL_personHolds 333 = .ok (.aload_n 0, 1) := by decide +kernel
theorem dL_personHolds_334 : decode cL_personHolds 334 = .ok (.iload_n 1, 1) := by decide +kernel
theorem dL_personHolds_335 : decode cL_personHolds 335 = .ok (.iconst 1, 1) := by decide +kernel
theorem dL_personHolds_336 : decode cL_personHolds 336 = .ok (.iload_n 2, 1) := by decide +kernel
theorem dL_personHolds_337 : decode cL_personHolds 337 = .ok (.iload_n 3, 1) := by decide +kernel
theorem dL_personHolds_338 : decode cL_personHolds 338 = .ok (.invokestatic 115, 3) := by decide +kernel
theorem dL_personHolds_341 : decode cL_personHolds 341 = .ok (.lcmp, 1) := by decide +kernel
theorem dL_personHolds_342 : decode cL_personHolds 342 = .ok (.ifCond .ne 24, 3) := by decide +kernel
theorem dL_personHolds_345 : decode cL_personHolds 345 = .ok (.aload_n 0, 1) := by decide +kernel
theorem dL_personHolds_346 : decode cL_personHolds 346 = .ok (.lload 11, 2) := by decide +kernel
theorem dL_personHolds_348 : decode cL_personHolds 348 = .ok (.l2i, 1) := by decide +kernel
theorem dL_personHolds_349 : decode cL_personHolds 349 = .ok (.bipush 6, 2) := by decide +kernel
theorem dL_personHolds_351 : decode cL_personHolds 351 = .ok (.iload_n 2, 1) := by decide +kernel
theorem dL_personHolds_352 : decode cL_personHolds 352 = .ok (.iload_n 3, 1) := by decide +kernel
theorem dL_personHolds_353 : decode cL_personHolds 353 = .ok (.invokestatic 115, 3) := by decide +kernel
theorem dL_personHolds_356 : decode cL_personHolds 356 = .ok (.lload 11, 2) := by decide +kernel
theorem dL_personHolds_358 : decode cL_personHolds 358 = .ok (.lcmp, 1) := by decide +kernel
theorem dL_personHolds_359 : decode cL_personHolds 359 = .ok (.ifCond .ne 7, 3) := by decide +kernel
theorem dL_personHolds_362 : decode cL_personHolds 362 = .ok (.iconst 1, 1) := by decide +kernel
theorem dL_personHolds_363 : decode cL_personHolds 363 = .ok (.goto 4, 3) := by decide +kernel
theorem dL_personHolds_366 : decode cL_personHolds 366 = .ok (.iconst 0, 1) := by decide +kernel
theorem dL_personHolds_367 : decode cL_personHolds 367 = .ok (.istore 14, 2) := by decide +kernel
theorem dL_personHolds_369 : decode cL_personHolds 369 = .ok (.iload 14, 2) := by decide +kernel
theorem dL_personHolds_371 : decode cL_personHolds 371 = .ok (.ireturn, 1) := by decide +kernel
theorem dL_dayHolds_0 : decode cL_dayHolds 0 = .ok (.lconst 0, 1) := by decide +kernel
theorem dL_dayHolds_1 : decode cL_dayHolds 1 = .ok (.lstore 5, 2) := by decide +kernel
theorem dL_dayHolds_3 : decode cL_dayHolds 3 = .ok (.lconst 0, 1) := by decide +kernel
theorem dL_dayHolds_4 : decode cL_dayHolds 4 = .ok (.lstore 7, 2) := by decide +kernel
theorem dL_dayHolds_6 : decode cL_dayHolds 6 = .ok (.iconst 0, 1) := by decide +kernel
theorem dL_dayHolds_7 : decode cL_dayHolds 7 = .ok (.istore 9, 2) := by decide +kernel
theorem dL_dayHolds_9 : decode cL_dayHolds 9 = .ok (.iload 9, 2) := by decide +kernel
theorem dL_dayHolds_11 : decode cL_dayHolds 11 = .ok (.iload_n 3, 1) := by decide +kernel
theorem dL_dayHolds_12 : decode cL_dayHolds 12 = .ok (.if_icmp .ge 88, 3) := by decide +kernel
theorem dL_dayHolds_15 : decode cL_dayHolds 15 = .ok (.aload_n 0, 1) := by decide +kernel
theorem dL_dayHolds_16 : decode cL_dayHolds 16 = .ok (.iload 9, 2) := by decide +kernel
theorem dL_dayHolds_18 : decode cL_dayHolds 18 = .ok (.iconst 1, 1) := by decide +kernel
theorem dL_dayHolds_19 : decode cL_dayHolds 19 = .ok (.iload_n 1, 1) := by decide +kernel
theorem dL_dayHolds_20 : decode cL_dayHolds 20 = .ok (.iload_n 2, 1) := by decide +kernel
theorem dL_dayHolds_21 : decode cL_dayHolds 21 = .ok (.invokestatic 115, 3) := by decide +kernel
theorem dL_dayHolds_24 : decode cL_dayHolds 24 = .ok (.lstore 10, 2) := by decide +kernel
theorem dL_dayHolds_26 : decode cL_dayHolds 26 = .ok (.lload 5, 2) := by decide +kernel
theorem dL_dayHolds_28 : decode cL_dayHolds 28 = .ok (.lload 10, 2) := by decide +kernel
theorem dL_dayHolds_30 : decode cL_dayHolds 30 = .ok (.iload 4, 2) := by decide +kernel
theorem dL_dayHolds_32 : decode cL_dayHolds 32 = .ok (.i2l, 1) := by decide +kernel
theorem dL_dayHolds_33 : decode cL_dayHolds 33 = .ok (.lcmp, 1) := by decide +kernel
theorem dL_dayHolds_34 : decode cL_dayHolds 34 = .ok (.ifCond .ne 24, 3) := by decide +kernel
theorem dL_dayHolds_37 : decode cL_dayHolds 37 = .ok (.aload_n 0, 1) := by decide +kernel
theorem dL_dayHolds_38 : decode cL_dayHolds 38 = .ok (.iload 9, 2) := by decide +kernel
theorem dL_dayHolds_40 : decode cL_dayHolds 40 = .ok (.bipush 6, 2) := by decide +kernel
theorem dL_dayHolds_42 : decode cL_dayHolds 42 = .ok (.iload_n 1, 1) := by decide +kernel
theorem dL_dayHolds_43 : decode cL_dayHolds 43 = .ok (.iload_n 2, 1) := by decide +kernel
theorem dL_dayHolds_44 : decode cL_dayHolds 44 = .ok (.invokestatic 115, 3) := by decide +kernel
theorem dL_dayHolds_47 : decode cL_dayHolds 47 = .ok (.iload 9, 2) := by decide +kernel
theorem dL_dayHolds_49 : decode cL_dayHolds 49 = .ok (.i2l, 1) := by decide +kernel
theorem dL_dayHolds_50 : decode cL_dayHolds 50 = .ok (.lcmp, 1) := by decide +kernel
theorem dL_dayHolds_51 : decode cL_dayHolds 51 = .ok (.ifCond .ne 7, 3) := by decide +kernel
theorem dL_dayHolds_54 : decode cL_dayHolds 54 = .ok (.lconst 1, 1) := by decide +kernel
theorem dL_dayHolds_55 : decode cL_dayHolds 55 = .ok (.goto 4, 3) := by decide +kernel
theorem dL_dayHolds_58 : decode cL_dayHolds 58 = .ok (.lconst 0, 1) := by decide +kernel
theorem dL_dayHolds_59 : decode cL_dayHolds 59 = .ok (.ladd, 1) := by decide +kernel
theorem dL_dayHolds_60 : decode cL_dayHolds 60 = .ok (.lstore 5, 2) := by decide +kernel
theorem dL_dayHolds_62 : decode cL_dayHolds 62 = .ok (.lload 7, 2) := by decide +kernel
theorem dL_dayHolds_64 : decode cL_dayHolds 64 = .ok (.lload 10, 2) := by decide +kernel
theorem dL_dayHolds_66 : decode cL_dayHolds 66 = .ok (.lconst 0, 1) := by decide +kernel
theorem dL_dayHolds_67 : decode cL_dayHolds 67 = .ok (.lcmp, 1) := by decide +kernel
theorem dL_dayHolds_68 : decode cL_dayHolds 68 = .ok (.ifCond .lt 22, 3) := by decide +kernel
theorem dL_dayHolds_71 : decode cL_dayHolds 71 = .ok (.lload 10, 2) := by decide +kernel
theorem dL_dayHolds_73 : decode cL_dayHolds 73 = .ok (.ldc2_w 126, 3) := by decide +kernel
theorem dL_dayHolds_76 : decode cL_dayHolds 76 = .ok (.ldiv, 1) := by decide +kernel
theorem dL_dayHolds_77 : decode cL_dayHolds 77 = .ok (.iload 4, 2) := by decide +kernel
theorem dL_dayHolds_79 : decode cL_dayHolds 79 = .ok (.iconst 4, 1) := by decide +kernel
theorem dL_dayHolds_80 : decode cL_dayHolds 80 = .ok (.idiv, 1) := by decide +kernel
theorem dL_dayHolds_81 : decode cL_dayHolds 81 = .ok (.i2l, 1) := by decide +kernel
theorem dL_dayHolds_82 : decode cL_dayHolds 82 = .ok (.lcmp, 1) := by decide +kernel
theorem dL_dayHolds_83 : decode cL_dayHolds 83 = .ok (.ifCond .ne 7, 3) := by decide +kernel
theorem dL_dayHolds_86 : decode cL_dayHolds 86 = .ok (.lconst 1, 1) := by decide +kernel
theorem dL_dayHolds_87 : decode cL_dayHolds 87 = .ok (.goto 4, 3) := by decide +kernel
theorem dL_dayHolds_90 : decode cL_dayHolds 90 = .ok (.lconst 0, 1) := by decide +kernel
theorem dL_dayHolds_91 : decode cL_dayHolds 91 = .ok (.ladd, 1) := by decide +kernel
theorem dL_dayHolds_92 : decode cL_dayHolds 92 = .ok (.lstore 7, 2) := by decide +kernel
theorem dL_dayHolds_94 : decode cL_dayHolds 94 = .ok (.iinc 9 1, 3) := by decide +kernel
theorem dL_dayHolds_97 : decode cL_dayHolds 97 = .ok (.goto (-88), 3) := by decide +kernel
theorem dL_dayHolds_100 : decode cL_dayHolds 100 = .ok (.aload_n 0, 1) := by decide +kernel
theorem dL_dayHolds_101 : decode cL_dayHolds 101 = .ok (.iload 4, 2) := by decide +kernel
theorem dL_dayHolds_103 : decode cL_dayHolds 103 = .ok (.iload_n 1, 1) := by decide +kernel
theorem dL_dayHolds_104 : decode cL_dayHolds 104 = .ok (.iload_n 2, 1) := by decide +kernel
theorem dL_dayHolds_105 : decode cL_dayHolds 105 = .ok (.invokestatic 128, 3) := by decide +kernel
theorem dL_dayHolds_108 : decode cL_dayHolds 108 = .ok (.lload 5, 2) := by decide +kernel
theorem dL_dayHolds_110 : decode cL_dayHolds 110 = .ok (.lcmp, 1) := by decide +kernel
theorem dL_dayHolds_111 : decode cL_dayHolds 111 = .ok (.ifCond .ne 36, 3) := by decide +kernel
theorem dL_dayHolds_114 : decode cL_dayHolds 114 = .ok (.aload_n 0, 1) := by decide +kernel
theorem dL_dayHolds_115 : decode cL_dayHolds 115 = .ok (.iload 4, 2) := by decide +kernel
theorem dL_dayHolds_117 : decode cL_dayHolds 117 = .ok (.iconst 4, 1) := by decide +kernel
theorem dL_dayHolds_118 : decode cL_dayHolds 118 = .ok (.idiv, 1) := by decide +kernel
theorem dL_dayHolds_119 : decode cL_dayHolds 119 = .ok (.iload_n 1, 1) := by decide +kernel
theorem dL_dayHolds_120 : decode cL_dayHolds 120 = .ok (.iconst 1, 1) := by decide +kernel
theorem dL_dayHolds_121 : decode cL_dayHolds 121 = .ok (.iload_n 2, 1) := by decide +kernel
theorem dL_dayHolds_122 : decode cL_dayHolds 122 = .ok (.invokestatic 131, 3) := by decide +kernel
theorem dL_dayHolds_125 : decode cL_dayHolds 125 = .ok (.lload 7, 2) := by decide +kernel
theorem dL_dayHolds_127 : decode cL_dayHolds 127 = .ok (.lcmp, 1) := by decide +kernel
theorem dL_dayHolds_128 : decode cL_dayHolds 128 = .ok (.ifCond .ne 19, 3) := by decide +kernel
theorem dL_dayHolds_131 : decode cL_dayHolds 131 = .ok (.aload_n 0, 1) := by decide +kernel
theorem dL_dayHolds_132 : decode cL_dayHolds 132 = .ok (.iload_n 1, 1) := by decide +kernel
theorem dL_dayHolds_133 : decode cL_dayHolds 133 = .ok (.iload_n 2, 1) := by decide +kernel
theorem dL_dayHolds_134 : decode cL_dayHolds 134 = .ok (.iload_n 2, 1) := by decide +kernel
theorem dL_dayHolds_135 : decode cL_dayHolds 135 = .ok (.invokestatic 133, 3) := by decide +kernel
theorem dL_dayHolds_138 : decode cL_dayHolds 138 = .ok (.lconst 0, 1) := by decide +kernel
theorem dL_dayHolds_139 : decode cL_dayHolds 139 = .ok (.lcmp, 1) := by decide +kernel
theorem dL_dayHolds_140 : decode cL_dayHolds 140 = .ok (.ifCond .ne 7, 3) := by decide +kernel
theorem dL_dayHolds_143 : decode cL_dayHolds 143 = .ok (.iconst 1, 1) := by decide +kernel
theorem dL_dayHolds_144 : decode cL_dayHolds 144 = .ok (.goto 4, 3) := by decide +kernel
theorem dL_dayHolds_147 : decode cL_dayHolds 147 = .ok (.iconst 0, 1) := by decide +kernel
theorem dL_dayHolds_148 : decode cL_dayHolds 148 = .ok (.ireturn, 1) := by decide +kernel
theorem dL_rollHolds_0 : decode cL_rollHolds 0 = .ok (.aload_n 0, 1) := by decide +kernel
theorem dL_rollHolds_1 : decode cL_rollHolds 1 = .ok (.iload_n 1, 1) := by decide +kernel
theorem dL_rollHolds_2 : decode cL_rollHolds 2 = .ok (.invokestatic 135, 3) := by decide +kernel
theorem dL_rollHolds_5 : decode cL_rollHolds 5 = .ok (.lstore 5, 2) := by decide +kernel
theorem dL_rollHolds_7 : decode cL_rollHolds 7 = .ok (.aload_n 0, 1) := by decide +kernel
theorem dL_rollHolds_8 : decode cL_rollHolds 8 = .ok (.iload_n 1, 1) := by decide +kernel
theorem dL_rollHolds_9 : decode cL_rollHolds 9 = .ok (.invokestatic 138, 3) := by decide +kernel
theorem dL_rollHolds_12 : decode cL_rollHolds 12 = .ok (.lstore 7, 2) := by decide +kernel
theorem dL_rollHolds_14 : decode cL_rollHolds 14 = .ok (.lload 5, 2) := by decide +kernel
theorem dL_rollHolds_16 : decode cL_rollHolds 16 = .ok (.lload 7, 2) := by decide +kernel
theorem dL_rollHolds_18 : decode cL_rollHolds 18 = .ok (.lcmp, 1) := by decide +kernel
theorem dL_rollHolds_19 : decode cL_rollHolds 19 = .ok (.ifCond .ne 17, 3) := by decide +kernel
theorem dL_rollHolds_22 : decode cL_rollHolds 22 = .ok (.aload_n 0, 1) := by decide +kernel
theorem dL_rollHolds_23 : decode cL_rollHolds 23 = .ok (.iload_n 1, 1) := by decide +kernel
theorem dL_rollHolds_24 : decode cL_rollHolds 24 = .ok (.invokestatic 135, 3) := by decide +kernel
theorem dL_rollHolds_27 : decode cL_rollHolds 27 = .ok (.lconst 0, 1) := by decide +kernel
theorem dL_rollHolds_28 : decode cL_rollHolds 28 = .ok (.lcmp, 1) := by decide +kernel
theorem dL_rollHolds_29 : decode cL_rollHolds 29 = .ok (.ifCond .ne 7, 3) := by decide +kernel
theorem dL_rollHolds_32 : decode cL_rollHolds 32 = .ok (.iconst 1, 1) := by decide +kernel
theorem dL_rollHolds_33 : decode cL_rollHolds 33 = .ok (.goto 4, 3) := by decide +kernel
theorem dL_rollHolds_36 : decode cL_rollHolds 36 = .ok (.iconst 0, 1) := by decide +kernel
theorem dL_rollHolds_37 : decode cL_rollHolds 37 = .ok (.istore 9, 2) := by decide +kernel
theorem dL_rollHolds_39 : decode cL_rollHolds 39 = .ok (.iconst 0, 1) := by decide +kernel
theorem dL_rollHolds_40 : decode cL_rollHolds 40 = .ok (.istore 10, 2) := by decide +kernel
theorem dL_rollHolds_42 : decode cL_rollHolds 42 = .ok (.iload 10, 2) := by decide +kernel
theorem dL_rollHolds_44 : decode cL_rollHolds 44 = .ok (.iload 4, 2) := by decide +kernel
theorem dL_rollHolds_46 : decode cL_rollHolds 46 = .ok (.if_icmp .ge 153, 3) := by decide +kernel
theorem dL_rollHolds_49 : decode cL_rollHolds 49 = .ok (.iload 9, 2) := by decide +kernel
theorem dL_rollHolds_51 : decode cL_rollHolds 51 = .ok (.ifCond .eq 148, 3) := by decide +kernel
theorem dL_rollHolds_54 : decode cL_rollHolds 54 = .ok (.aload_n 0, 1) := by decide +kernel
theorem dL_rollHolds_55 : decode cL_rollHolds 55 = .ok (.iload 10, 2) := by decide +kernel
theorem dL_rollHolds_57 : decode cL_rollHolds 57 = .ok (.iconst 5, 1) := by decide +kernel
theorem dL_rollHolds_58 : decode cL_rollHolds 58 = .ok (.invokestatic 140, 3) := by decide +kernel
theorem dL_rollHolds_61 : decode cL_rollHolds 61 = .ok (.lstore 11, 2) := by decide +kernel
theorem dL_rollHolds_63 : decode cL_rollHolds 63 = .ok (.aload_n 0, 1) := by decide +kernel
theorem dL_rollHolds_64 : decode cL_rollHolds 64 = .ok (.iload 10, 2) := by decide +kernel
theorem dL_rollHolds_66 : decode cL_rollHolds 66 = .ok (.iconst 1, 1) := by decide +kernel
theorem dL_rollHolds_67 : decode cL_rollHolds 67 = .ok (.invokestatic 140, 3) := by decide +kernel
theorem dL_rollHolds_70 : decode cL_rollHolds 70 = .ok (.lstore 13, 2) := by decide +kernel
theorem dL_rollHolds_72 : decode cL_rollHolds 72 = .ok (.lload 11, 2) := by decide +kernel
theorem dL_rollHolds_74 : decode cL_rollHolds 74 = .ok (.lconst 0, 1) := by decide +kernel
theorem dL_rollHolds_75 : decode cL_rollHolds 75 = .ok (.lcmp, 1) := by decide +kernel
theorem dL_rollHolds_76 : decode cL_rollHolds 76 = .ok (.ifCond .lt 65, 3) := by decide +kernel
theorem dL_rollHolds_79 : decode cL_rollHolds 79 = .ok (.iload_n 2, 1) := by decide +kernel
theorem dL_rollHolds_80 : decode cL_rollHolds 80 = .ok (.ifCond .eq 57, 3) := by decide +kernel
theorem dL_rollHolds_83 : decode cL_rollHolds 83 = .ok (.iload_n 2, 1) := by decide +kernel
theorem dL_rollHolds_84 : decode cL_rollHolds 84 = .ok (.iconst 1, 1) := by decide +kernel
theorem dL_rollHolds_85 : decode cL_rollHolds 85 = .ok (.if_icmp .ne 12, 3) := by decide +kernel
theorem dL_rollHolds_88 : decode cL_rollHolds 88 = .ok (.lload 11, 2) := by decide +kernel
theorem dL_rollHolds_90 : decode cL_rollHolds 90 = .ok (.ldc2_w 143, 3) := by decide +kernel
theorem dL_rollHolds_93 : decode cL_rollHolds 93 = .ok (.lcmp, 1) := by decide +kernel
theorem dL_rollHolds_94 : decode cL_rollHolds 94 = .ok (.ifCond .ge 43, 3) := by decide +kernel
theorem dL_rollHolds_97 : decode cL_rollHolds 97 = .ok (.iload_n 2, 1) := by decide +kernel
theorem dL_rollHolds_98 : decode cL_rollHolds 98 = .ok (.iconst 2, 1) := by decide +kernel
theorem dL_rollHolds_99 : decode cL_rollHolds 99 = .ok (.if_icmp .ne 21, 3) := by decide +kernel
theorem dL_rollHolds_102 : decode cL_rollHolds 102 = .ok (.lload 11, 2) := by decide +kernel
theorem dL_rollHolds_104 : decode cL_rollHolds 104 = .ok (.ldc2_w 145, 3) := by decide +kernel
theorem dL_rollHolds_107 : decode cL_rollHolds 107 = .ok (.lcmp, 1) := by decide +kernel
theorem dL_rollHolds_108 : decode cL_rollHolds 108 = .ok (.ifCond .lt 12, 3) := by decide +kernel
theorem dL_rollHolds_111 : decode cL_rollHolds 111 = .ok (.lload 11, 2) := by decide +kernel
theorem dL_rollHolds_113 : decode cL_rollHolds 113 = .ok (.ldc2_w 147, 3) := by decide +kernel
theorem dL_rollHolds_116 : decode cL_rollHolds 116 = .ok (.lcmp, 1) := by decide +kernel
theorem dL_rollHolds_117 : decode cL_rollHolds 117 = .ok (.ifCond .le 20, 3) := by decide +kernel
theorem dL_rollHolds_120 : decode cL_rollHolds 120 = .ok (.iload_n 2, 1) := by decide +kernel
theorem dL_rollHolds_121 : decode cL_rollHolds 121 = .ok (.iconst 3, 1) := by decide +kernel
theorem dL_rollHolds_122 : decode cL_rollHolds 122 = .ok (.if_icmp .ne 19, 3) := by decide +kernel
theorem dL_rollHolds_125 : decode cL_rollHolds 125 = .ok (.lload 13, 2) := by decide +kernel
theorem dL_rollHolds_127 : decode cL_rollHolds 127 = .ok (.ldc2_w 126, 3) := by decide +kernel
theorem dL_rollHolds_130 : decode cL_rollHolds 130 = .ok (.ldiv, 1) := by decide +kernel
theorem dL_rollHolds_131 : decode cL_rollHolds 131 = .ok (.iload_n 3, 1) := by decide +kernel
theorem dL_rollHolds_132 : decode cL_rollHolds 132 = .ok (.i2l, 1) := by decide +kernel
theorem dL_rollHolds_133 : decode cL_rollHolds 133 = .ok (.lcmp, 1) := by decide +kernel
theorem dL_rollHolds_134 : decode cL_rollHolds 134 = .ok (.ifCond .ne 7, 3) := by decide +kernel
theorem dL_rollHolds_137 : decode cL_rollHolds 137 = .ok (.iconst 1, 1) := by decide +kernel
theorem dL_rollHolds_138 : decode cL_rollHolds 138 = .ok (.goto 4, 3) := by decide +kernel
theorem dL_rollHolds_141 : decode cL_rollHolds 141 = .ok (.iconst 0, 1) := by decide +kernel
theorem dL_rollHolds_142 : decode cL_rollHolds 142 = .ok (.istore 15, 2) := by decide +kernel
theorem dL_rollHolds_144 : decode cL_rollHolds 144 = .ok (.aload_n 0, 1) := by decide +kernel
theorem dL_rollHolds_145 : decode cL_rollHolds 145 = .ok (.iload_n 1, 1) := by decide +kernel
theorem dL_rollHolds_146 : decode cL_rollHolds 146 = .ok (.iload 10, 2) := by decide +kernel
theorem dL_rollHolds_148 : decode cL_rollHolds 148 = .ok (.invokestatic 149, 3) := by decide +kernel
theorem dL_rollHolds_151 : decode cL_rollHolds 151 = .ok (.iload 15, 2) := by decide +kernel
theorem dL_rollHolds_153 : decode cL_rollHolds 153 = .ok (.ifCond .eq 8, 3) := by decide +kernel
theorem dL_rollHolds_156 : decode cL_rollHolds 156 = .ok (.lload 13, 2) := by decide +kernel
theorem dL_rollHolds_158 : decode cL_rollHolds 158 = .ok (.goto 6, 3) := by decide +kernel
theorem dL_rollHolds_161 : decode cL_rollHolds 161 = .ok (.ldc2_w 124, 3) := by decide +kernel
theorem dL_rollHolds_164 : decode cL_rollHolds 164 = .ok (.lcmp, 1) := by decide +kernel
theorem dL_rollHolds_165 : decode cL_rollHolds 165 = .ok (.ifCond .ne 25, 3) := by decide +kernel
theorem dL_rollHolds_168 : decode cL_rollHolds 168 = .ok (.aload_n 0, 1) := by decide +kernel
theorem dL_rollHolds_169 : decode cL_rollHolds 169 = .ok (.iload_n 1, 1) := by decide +kernel
theorem dL_rollHolds_170 : decode cL_rollHolds 170 = .ok (.iload 10, 2) := by decide +kernel
theorem dL_rollHolds_172 : decode cL_rollHolds 172 = .ok (.invokestatic 151, 3) := by decide +kernel
theorem dL_rollHolds_175 : decode cL_rollHolds 175 = .ok (.aload_n 0, 1) := by decide +kernel
theorem dL_rollHolds_176 : decode cL_rollHolds 176 = .ok (.iload_n 1, 1) := by decide +kernel
theorem dL_rollHolds_177 : decode cL_rollHolds 177 = .ok (.iload 10, 2) := by decide +kernel
theorem dL_rollHolds_179 : decode cL_rollHolds 179 = .ok (.invokestatic 149, 3) := by decide +kernel
theorem dL_rollHolds_182 : decode cL_rollHolds 182 = .ok (.lcmp, 1) := by decide +kernel
theorem dL_rollHolds_183 : decode cL_rollHolds 183 = .ok (.ifCond .ne 7, 3) := by decide +kernel
theorem dL_rollHolds_186 : decode cL_rollHolds 186 = .ok (.iconst 1, 1) := by decide +kernel
theorem dL_rollHolds_187 : decode cL_rollHolds 187 = .ok (.goto 4, 3) := by decide +kernel
theorem dL_rollHolds_190 : decode cL_rollHolds 190 = .ok (.iconst 0, 1) := by decide +kernel
theorem dL_rollHolds_191 : decode cL_rollHolds 191 = .ok (.istore 9, 2) := by decide +kernel
theorem dL_rollHolds_193 : decode cL_rollHolds 193 = .ok (.iinc 10 1, 3) := by decide +kernel
theorem dL_rollHolds_196 : decode cL_rollHolds 196 = .ok (.goto (-154), 3) := by decide +kernel
theorem dL_rollHolds_199 : decode cL_rollHolds 199 = .ok (.iload 9, 2) := by decide +kernel
theorem dL_rollHolds_201 : decode cL_rollHolds 201 = .ok (.ireturn, 1) := by decide +kernel
