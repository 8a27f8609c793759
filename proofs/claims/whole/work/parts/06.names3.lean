theorem dX6_init_0 : decode cX6_init 0 = .ok (.aload_n 0, 1) := by decide +kernel
theorem dX6_init_1 : decode cX6_init 1 = .ok (.invokespecial 1, 3) := by decide +kernel
theorem dX6_init_4 : decode cX6_init 4 = .ok (.aload_n 0, 1) := by decide +kernel
theorem dX6_init_5 : decode cX6_init 5 = .ok (.sipush 10000, 3) := by decide +kernel
theorem dX6_init_8 : decode cX6_init 8 = .ok (.putfield 7, 3) := by decide +kernel
theorem dX6_init_11 : decode cX6_init 11 = .ok (.aload_n 0, 1) := by decide +kernel
theorem dX6_init_12 : decode cX6_init 12 = .ok (.sipush 150, 3) := by decide +kernel
theorem dX6_init_15 : decode cX6_init 15 = .ok (.newarray .int, 2) := by decide +kernel
theorem dX6_init_17 : decode cX6_init 17 = .ok (.putfield 13, 3) := by decide +kernel
theorem dX6_init_20 : decode cX6_init 20 = .ok (.aload_n 0, 1) := by decide +kernel
theorem dX6_init_21 : decode cX6_init 21 = .ok (.sipush 150, 3) := by decide +kernel
theorem dX6_init_24 : decode cX6_init 24 = .ok (.newarray .int, 2) := by decide +kernel
theorem dX6_init_26 : decode cX6_init 26 = .ok (.putfield 17, 3) := by decide +kernel
theorem dX6_init_29 : decode cX6_init 29 = .ok (.aload_n 0, 1) := by decide +kernel
theorem dX6_init_30 : decode cX6_init 30 = .ok (.sipush 150, 3) := by decide +kernel
theorem dX6_init_33 : decode cX6_init 33 = .ok (.newarray .int, 2) := by decide +kernel
theorem dX6_init_35 : decode cX6_init 35 = .ok (.putfield 20, 3) := by decide +kernel
theorem dX6_init_38 : decode cX6_init 38 = .ok (.aload_n 0, 1) := by decide +kernel
theorem dX6_init_39 : decode cX6_init 39 = .ok (.sipush 150, 3) := by decide +kernel
theorem dX6_init_42 : decode cX6_init 42 = .ok (.newarray .int, 2) := by decide +kernel
theorem dX6_init_44 : decode cX6_init 44 = .ok (.putfield 23, 3) := by decide +kernel
theorem dX6_init_47 : decode cX6_init 47 = .ok (.aload_n 0, 1) := by decide +kernel
theorem dX6_init_48 : decode cX6_init 48 = .ok (.sipush 150, 3) := by decide +kernel
theorem dX6_init_51 : decode cX6_init 51 = .ok (.newarray .int, 2) := by decide +kernel
theorem dX6_init_53 : decode cX6_init 53 = .ok (.putfield 26, 3) := by decide +kernel
theorem dX6_init_56 : decode cX6_init 56 = .ok (.aload_n 0, 1) := by decide +kernel
theorem dX6_init_57 : decode cX6_init 57 = .ok (.sipush 150, 3) := by decide +kernel
theorem dX6_init_60 : decode cX6_init 60 = .ok (.newarray .int, 2) := by decide +kernel
theorem dX6_init_62 : decode cX6_init 62 = .ok (.putfield 29, 3) := by decide +kernel
theorem dX6_init_65 : decode cX6_init 65 = .ok (.aload_n 0, 1) := by decide +kernel
theorem dX6_init_66 : decode cX6_init 66 = .ok (.sipush 150, 3) := by decide +kernel
theorem dX6_init_69 : decode cX6_init 69 = .ok (.newarray .int, 2) := by decide +kernel
theorem dX6_init_71 : decode cX6_init 71 = .ok (.putfield 32, 3) := by decide +kernel
theorem dX6_init_74 : decode cX6_init 74 = .ok (.aload_n 0, 1) := by decide +kernel
theorem dX6_init_75 : decode cX6_init 75 = .ok (.sipush 150, 3) := by decide +kernel
theorem dX6_init_78 : decode cX6_init 78 = .ok (.newarray .int, 2) := by decide +kernel
theorem dX6_init_80 : decode cX6_init 80 = .ok (.putfield 35, 3) := by decide +kernel
theorem dX6_init_83 : decode cX6_init 83 = .ok (.aload_n 0, 1) := by decide +kernel
theorem dX6_init_84 : decode cX6_init 84 = .ok (.sipush 150, 3) := by decide +kernel
theorem dX6_init_87 : decode cX6_init 87 = .ok (.newarray .int, 2) := by decide +kernel
theorem dX6_init_89 : decode cX6_init 89 = .ok (.putfield 38, 3) := by decide +kernel
theorem dX6_init_92 : decode cX6_init 92 = .ok (.aload_n 0, 1) := by decide +kernel
theorem dX6_init_93 : decode cX6_init 93 = .ok (.sipush 1000, 3) := by decide +kernel
theorem dX6_init_96 : decode cX6_init 96 = .ok (.putfield 41, 3) := by decide +kernel
theorem dX6_init_99 : decode cX6_init 99 = .ok (.aload_n 0, 1) := by decide +kernel
theorem dX6_init_100 : decode cX6_init 100 = .ok (.bipush 60, 2) := by decide +kernel
theorem dX6_init_102 : decode cX6_init 102 = .ok (.newarray .int, 2) := by decide +kernel
theorem dX6_init_104 : decode cX6_init 104 = .ok (.putfield 44, 3) := by decide +kernel
theorem dX6_init_107 : decode cX6_init 107 = .ok (.aload_n 0, 1) := by decide +kernel
theorem dX6_init_108 : decode cX6_init 108 = .ok (.bipush 60, 2) := by decide +kernel
theorem dX6_init_110 : decode cX6_init 110 = .ok (.newarray .int, 2) := by decide +kernel
theorem dX6_init_112 : decode cX6_init 112 = .ok (.putfield 47, 3) := by decide +kernel
theorem dX6_init_115 : decode cX6_init 115 = .ok (.aload_n 0, 1) := by decide +kernel
theorem dX6_init_116 : decode cX6_init 116 = .ok (.bipush 24, 2) := by decide +kernel
theorem dX6_init_118 : decode cX6_init 118 = .ok (.newarray .int, 2) := by decide +kernel
theorem dX6_init_120 : decode cX6_init 120 = .ok (.putfield 50, 3) := by decide +kernel
theorem dX6_init_123 : decode cX6_init 123 = .ok (.aload_n 0, 1) := by decide +kernel
theorem dX6_init_124 : decode cX6_init 124 = .ok (.bipush 24, 2) := by decide +kernel
theorem dX6_init_126 : decode cX6_init 126 = .ok (.newarray .int, 2) := by decide +kernel
theorem dX6_init_128 : decode cX6_init 128 = .ok (.putfield 53, 3) := by decide +kernel
theorem dX6_init_131 : decode cX6_init 131 = .ok (.aload_n 0, 1) := by decide +kernel
theorem dX6_init_132 : decode cX6_init 132 = .ok (.bipush 24, 2) := by decide +kernel
theorem dX6_init_134 : decode cX6_init 134 = .ok (.newarray .int, 2) := by decide +kernel
theorem dX6_init_136 : decode cX6_init 136 = .ok (.putfield 56, 3) := by decide +kernel
theorem dX6_init_139 : decode cX6_init 139 = .ok (.aload_n 0, 1) := by decide +kernel
theorem dX6_init_140 : decode cX6_init 140 = .ok (.bipush 24, 2) := by decide +kernel
theorem dX6_init_142 : decode cX6_init 142 = .ok (.newarray .int, 2) := by decide +kernel
theorem dX6_init_144 : decode cX6_init 144 = .ok (.putfield 59, 3) := by decide +kernel
theorem dX6_init_147 : decode cX6_init 147 = .ok (.aload_n 0, 1) := by decide +kernel
theorem dX6_init_148 : decode cX6_init 148 = .ok (.bipush 24, 2) := by decide +kernel
theorem dX6_init_150 : decode cX6_init 150 = .ok (.newarray .int, 2) := by decide +kernel
theorem dX6_init_152 : decode cX6_init 152 = .ok (.putfield 62, 3) := by decide +kernel
theorem dX6_init_155 : decode cX6_init 155 = .ok (.aload_n 0, 1) := by decide +kernel
theorem dX6_init_156 : decode cX6_init 156 = .ok (.bipush 24, 2) := by decide +kernel
theorem dX6_init_158 : decode cX6_init 158 = .ok (.newarray .int, 2) := by decide +kernel
theorem dX6_init_160 : decode cX6_init 160 = .ok (.putfield 65, 3) := by decide +kernel
theorem dX6_init_163 : decode cX6_init 163 = .ok (.aload_n 0, 1) := by decide +kernel
theorem dX6_init_164 : decode cX6_init 164 = .ok (.bipush 24, 2) := by decide +kernel
theorem dX6_init_166 : decode cX6_init 166 = .ok (.newarray .int, 2) := by decide +kernel
theorem dX6_init_168 : decode cX6_init 168 = .ok (.putfield 68, 3) := by decide +kernel
theorem dX6_init_171 : decode cX6_init 171 = .ok (.aload_n 0, 1) := by decide +kernel
theorem dX6_init_172 : decode cX6_init 172 = .ok (.bipush 24, 2) := by decide +kernel
theorem dX6_init_174 : decode cX6_init 174 = .ok (.newarray .int, 2) := by decide +kernel
theorem dX6_init_176 : decode cX6_init 176 = .ok (.putfield 71, 3) := by decide +kernel
theorem dX6_init_179 : decode cX6_init 179 = .ok (.aload_n 0, 1) := by decide +kernel
theorem dX6_init_180 : decode cX6_init 180 = .ok (.bipush 24, 2) := by decide +kernel
theorem dX6_init_182 : decode cX6_init 182 = .ok (.newarray .boolean, 2) := by decide +kernel
theorem dX6_init_184 : decode cX6_init 184 = .ok (.putfield 74, 3) := by decide +kernel
theorem dX6_init_187 : decode cX6_init 187 = .ok (.aload_n 0, 1) := by decide +kernel
theorem dX6_init_188 : decode cX6_init 188 = .ok (.bipush 24, 2) := by decide +kernel
theorem dX6_init_190 : decode cX6_init 190 = .ok (.newarray .int, 2) := by decide +kernel
theorem dX6_init_192 : decode cX6_init 192 = .ok (.putfield 78, 3) := by decide +kernel
theorem dX6_init_195 : decode cX6_init 195 = .ok (.aload_n 0, 1) := by decide +kernel
theorem dX6_init_196 : decode cX6_init 196 = .ok (.bipush 120, 2) := by decide +kernel
theorem dX6_init_198 : decode cX6_init 198 = .ok (.newarray .int, 2) := by decide +kernel
theorem dX6_init_200 : decode cX6_init 200 = .ok (.putfield 81, 3) := by decide +kernel
theorem dX6_init_203 : decode cX6_init 203 = .ok (.aload_n 0, 1) := by decide +kernel
theorem dX6_init_204 : decode cX6_init 204 = .ok (.iconst 5, 1) := by decide +kernel
theorem dX6_init_205 : decode cX6_init 205 = .ok (.newarray .int, 2) := by decide +kernel
theorem dX6_init_207 : decode cX6_init 207 = .ok (.putfield 84, 3) := by decide +kernel
theorem dX6_init_210 : decode cX6_init 210 = .ok (.aload_n 0, 1) := by decide +kernel
theorem dX6_init_211 : decode cX6_init 211 = .ok (.iconst 5, 1) := by decide +kernel
theorem dX6_init_212 : decode cX6_init 212 = .ok (.newarray .int, 2) := by decide +kernel
theorem dX6_init_214 : decode cX6_init 214 = .ok (.putfield 87, 3) := by decide +kernel
theorem dX6_init_217 : decode cX6_init 217 = .ok (.aload_n 0, 1) := by decide +kernel
theorem dX6_init_218 : decode cX6_init 218 = .ok (.bipush 120, 2) := by decide +kernel
theorem dX6_init_220 : decode cX6_init 220 = .ok (.newarray .int, 2) := by decide +kernel
theorem dX6_init_222 : decode cX6_init 222 = .ok (.putfield 90, 3) := by decide +kernel
theorem dX6_init_225 : decode cX6_init 225 = .ok (.aload_n 0, 1) := by decide +kernel
theorem dX6_init_226 : decode cX6_init 226 = .ok (.sipush 16384, 3) := by decide +kernel
theorem dX6_init_229 : decode cX6_init 229 = .ok (.newarray .int, 2) := by decide +kernel
theorem dX6_init_231 : decode cX6_init 231 = .ok (.putfield 93, 3) := by decide +kernel
theorem dX6_init_234 : decode cX6_init 234 = .ok (.aload_n 0, 1) := by decide +kernel
theorem dX6_init_235 : decode cX6_init 235 = .ok (.sipush 16384, 3) := by decide +kernel
theorem dX6_init_238 : decode cX6_init 238 = .ok (.newarray .int, 2) := by decide +kernel
theorem dX6_init_240 : decode cX6_init 240 = .ok (.putfield 96, 3) := by decide +kernel
theorem dX6_init_243 : decode cX6_init 243 = .ok (.aload_n 0, 1) := by decide +kernel
theorem dX6_init_244 : decode cX6_init 244 = .ok (.bipush 24, 2) := by decide +kernel
theorem dX6_init_246 : decode cX6_init 246 = .ok (.newarray .boolean, 2) := by decide +kernel
theorem dX6_init_248 : decode cX6_init 248 = .ok (.putfield 99, 3) := by decide +kernel
theorem dX6_init_251 : decode cX6_init 251 = .ok (.aload_n 0, 1) := by decide +kernel
theorem dX6_init_252 : decode cX6_init 252 = .ok (.bipush 24, 2) := by decide +kernel
theorem dX6_init_254 : decode cX6_init 254 = .ok (.newarray .int, 2) := by decide +kernel
theorem dX6_init_256 : decode cX6_init 256 = .ok (.putfield 102, 3) := by decide +kernel
theorem dX6_init_259 : decode cX6_init 259 = .ok (.iconst 0, 1) := by decide +kernel
theorem dX6_init_260 : decode cX6_init 260 = .ok (.istore_n 1, 1) := by decide +kernel
theorem dX6_init_261 : decode cX6_init 261 = .ok (.iload_n 1, 1) := by decide +kernel
theorem dX6_init_262 : decode cX6_init 262 = .ok (.bipush 120, 2) := by decide +kernel
theorem dX6_init_264 : decode cX6_init 264 = .ok (.if_icmp .ge 16, 3) := by decide +kernel
theorem dX6_init_267 : decode cX6_init 267 = .ok (.aload_n 0, 1) := by decide +kernel
theorem dX6_init_268 : decode cX6_init 268 = .ok (.getfield 90, 3) := by decide +kernel
theorem dX6_init_271 : decode cX6_init 271 = .ok (.iload_n 1, 1) := by decide +kernel
theorem dX6_init_272 : decode cX6_init 272 = .ok (.iconst (-1), 1) := by decide +kernel
theorem dX6_init_273 : decode cX6_init 273 = .ok (.iastore, 1) := by decide +kernel
theorem dX6_init_274 : decode cX6_init 274 = .ok (.iinc 1 1, 3) := by decide +kernel
theorem dX6_init_277 : decode cX6_init 277 = .ok (.goto (-16), 3) := by decide +kernel
theorem dX6_init_280 : decode cX6_init 280 = .ok (.return_, 1) := by decide +kernel
theorem dX6_thrown_0 : decode cX6_thrown 0 = .ok (.aload_n 0, 1) := by decide +kernel
theorem dX6_thrown_1 : decode cX6_thrown 1 = .ok (.getfield 105, 3) := by decide +kernel
theorem dX6_thrown_4 : decode cX6_thrown 4 = .ok (.ireturn, 1) := by decide +kernel
theorem dX6_refused_0 : decode cX6_refused 0 = .ok (.aload_n 0, 1) := by decide +kernel
theorem dX6_refused_1 : decode cX6_refused 1 = .ok (.iload_n 1, 1) := by decide +kernel
theorem dX6_refused_2 : decode cX6_refused 2 = .ok (.putfield 105, 3) := by decide +kernel
theorem dX6_refused_5 : decode cX6_refused 5 = .ok (.iload_n 1, 1) := by decide +kernel
theorem dX6_refused_6 : decode cX6_refused 6 = .ok (.ifCond .eq 7, 3) := by decide +kernel
theorem dX6_refused_9 : decode cX6_refused 9 = .ok (.iconst 1, 1) := by decide +kernel
theorem dX6_refused_10 : decode cX6_refused 10 = .ok (.goto 4, 3) := by decide +kernel
theorem dX6_refused_13 : decode cX6_refused 13 = .ok (.iconst 0, 1) := by decide +kernel
theorem dX6_refused_14 : decode cX6_refused 14 = .ok (.ireturn, 1) := by decide +kernel
theorem dX6_within_0 : decode cX6_within 0 = .ok (.iload_n 0, 1) := by decide +kernel
theorem dX6_within_1 : decode cX6_within 1 = .ok (.iload_n 1, 1) := by decide +kernel
theorem dX6_within_2 : decode cX6_within 2 = .ok (.if_icmp .lt 12, 3) := by decide +kernel
theorem dX6_within_5 : decode cX6_within 5 = .ok (.iload_n 0, 1) := by decide +kernel
theorem dX6_within_6 : decode cX6_within 6 = .ok (.iload_n 2, 1) := by decide +kernel
theorem dX6_within_7 : decode cX6_within 7 = .ok (.if_icmp .gt 7, 3) := by decide +kernel
theorem dX6_within_10 : decode cX6_within 10 = .ok (.iconst 1, 1) := by decide +kernel
theorem dX6_within_11 : decode cX6_within 11 = .ok (.goto 4, 3) := by decide +kernel
theorem dX6_within_14 : decode cX6_within 14 = .ok (.iconst 0, 1) := by decide +kernel
theorem dX6_within_15 : decode cX6_within 15 = .ok (.ireturn, 1) := by decide +kernel
set_option maxRecDepth 20000 in
theorem ggX6_isPerson_X6_within : GoodIn wsX6_isPerson wsX6_within := goodIn_r _ [5] (by decide +kernel) (by decide +kernel)
set_option maxRecDepth 20000 in
theorem gX6_isPerson_X6_within : GoodIn wsX6_isPerson (va_wsS RX6 111 yX6_within wsX6_within) := goodIn_app (goodIn_of _ (by decide +kernel)) ggX6_isPerson_X6_within
theorem dX6_isPerson_0 : decode cX6_isPerson 0 = .ok (.iload_n 1, 1) := by decide +kernel
theorem dX6_isPerson_1 : decode cX6_isPerson 1 = .ok (.iconst 0, 1) := by decide +kernel
theorem dX6_isPerson_2 : decode cX6_isPerson 2 = .ok (.aload_n 0, 1) := by decide +kernel
theorem dX6_isPerson_3 : decode cX6_isPerson 3 = .ok (.getfield 108, 3) := by decide +kernel
theorem dX6_isPerson_6 : decode cX6_isPerson 6 = .ok (.iconst 1, 1) := by decide +kernel
theorem dX6_isPerson_7 : decode cX6_isPerson 7 = .ok (.isub, 1) := by decide +kernel
theorem dX6_isPerson_8 : decode cX6_isPerson 8 = .ok (.invokestatic 111, 3) := by decide +kernel
theorem dX6_isPerson_11 : decode cX6_isPerson 11 = .ok (.ireturn, 1) := by decide +kernel
set_option maxRecDepth 20000 in
theorem ggX6_isDay_X6_within : GoodIn wsX6_isDay wsX6_within := goodIn_r _ [5] (by decide +kernel) (by decide +kernel)
set_option maxRecDepth 20000 in
theorem gX6_isDay_X6_within : GoodIn wsX6_isDay (va_wsS RX6 111 yX6_within wsX6_within) := goodIn_app (goodIn_of _ (by decide +kernel)) ggX6_isDay_X6_within
theorem dX6_isDay_0 : decode cX6_isDay 0 = .ok (.iload_n 1, 1) := by decide +kernel
theorem dX6_isDay_1 : decode cX6_isDay 1 = .ok (.iconst 0, 1) := by decide +kernel
theorem dX6_isDay_2 : decode cX6_isDay 2 = .ok (.aload_n 0, 1) := by decide +kernel
theorem dX6_isDay_3 : decode cX6_isDay 3 = .ok (.getfield 7, 3) := by decide +kernel
theorem dX6_isDay_6 : decode cX6_isDay 6 = .ok (.invokestatic 111, 3) := by decide +kernel
theorem dX6_isDay_9 : decode cX6_isDay 9 = .ok (.ireturn, 1) := by decide +kernel
set_option maxRecDepth 20000 in
theorem ggX6_pass_X6_within : GoodIn wsX6_pass wsX6_within := goodIn_r _ [5] (by decide +kernel) (by decide +kernel)
set_option maxRecDepth 20000 in
theorem gX6_pass_X6_within : GoodIn wsX6_pass (va_wsS RX6 111 yX6_within wsX6_within) := goodIn_app (goodIn_of _ (by decide +kernel)) ggX6_pass_X6_within
set_option maxRecDepth 20000 in
theorem ggX6_pass_X6_refused : GoodIn wsX6_pass wsX6_refused := goodIn_r _ [9, 10, 11, 12, 13, 14, 15, 16, 17, 18, 19, 20, 21, 22, 23, 24, 25, 26, 27, 28, 29, 30, 31, 32, 33, 34, 35, 36, 37, 38, 39, 40, 41, 42, 43, 44, 45, 46, 47, 48] (by decide +kernel) (by decide +kernel)
set_option maxRecDepth 20000 in
theorem gX6_pass_X6_refused : GoodIn wsX6_pass (wsV RX6 115 RX6 yX6_refused wsX6_refused) := goodIn_app (goodIn_of _ (by decide +kernel)) ggX6_pass_X6_refused
theorem dX6_pass_0 : decode cX6_pass 0 = .ok (.aload_n 0, 1) := by decide +kernel
theorem dX6_pass_1 : decode cX6_pass 1 = .ok (.iload_n 1, 1) := by decide +kernel
theorem dX6_pass_2 : decode cX6_pass 2 = .ok (.iconst 1, 1) := by decide +kernel
theorem dX6_pass_3 : decode cX6_pass 3 = .ok (.sipush 5000, 3) := by decide +kernel
theorem dX6_pass_6 : decode cX6_pass 6 = .ok (.invokestatic 111, 3) := by decide +kernel
theorem dX6_pass_9 : decode cX6_pass 9 = .ok (.ifCond .ne 7, 3) := by decide +kernel
theorem dX6_pass_12 : decode cX6_pass 12 = .ok (.iconst 1, 1) := by decide +kernel
theorem dX6_pass_13 : decode cX6_pass 13 = .ok (.goto 20, 3) := by decide +kernel
theorem dX6_pass_16 : decode cX6_pass 16 = .ok (.aload_n 0, 1) := by decide +kernel
theorem dX6_pass_17 : decode cX6_pass 17 = .ok (.getfield 7, 3) := by decide +kernel
theorem dX6_pass_20 : decode cX6_pass 20 = .ok (.iload_n 1, 1) := by decide +kernel
theorem dX6_pass_21 : decode cX6_pass 21 = .ok (.iadd, 1) := by decide +kernel
theorem dX6_pass_22 : decode cX6_pass 22 = .ok (.sipush 30000, 3) := by decide +kernel
theorem dX6_pass_25 : decode cX6_pass 25 = .ok (.if_icmp .le 7, 3) := by decide +kernel
theorem dX6_pass_28 : decode cX6_pass 28 = .ok (.iconst 2, 1) := by decide +kernel
theorem dX6_pass_29 : decode cX6_pass 29 = .ok (.goto 4, 3) := by decide +kernel
theorem dX6_pass_32 : decode cX6_pass 32 = .ok (.iconst 0, 1) := by decide +kernel
theorem dX6_pass_33 : decode cX6_pass 33 = .ok (.invokevirtual 115, 3) := by decide +kernel
theorem dX6_pass_36 : decode cX6_pass 36 = .ok (.ifCond .eq 5, 3) := by decide +kernel
theorem dX6_pass_39 : decode cX6_pass 39 = .ok (.iconst 0, 1) := by decide +kernel
theorem dX6_pass_40 : decode cX6_pass 40 = .ok (.ireturn, 1) := by decide +kernel
theorem dX6_pass_41 : decode cX6_pass 41 = .ok (.aload_n 0, 1) := by decide +kernel
theorem dX6_pass_42 : decode cX6_pass 42 = .ok (.dup, 1) := by decide +kernel
theorem dX6_pass_43 : decode cX6_pass 43 = .ok (.getfield 7, 3) := by decide +kernel
theorem dX6_pass_46 : decode cX6_pass 46 = .ok (.iload_n 1, 1) := by decide +kernel
theorem dX6_pass_47 : decode cX6_pass 47 = .ok (.iadd, 1) := by decide +kernel
theorem dX6_pass_48 : decode cX6_pass 48 = .ok (.putfield 7, 3) := by decide +kernel
theorem dX6_pass_51 : decode cX6_pass 51 = .ok (.aload_n 0, 1) := by decide +kernel
theorem dX6_pass_52 : decode cX6_pass 52 = .ok (.getfield 7, 3) := by decide +kernel
theorem dX6_pass_55 : decode cX6_pass 55 = .ok (.ireturn, 1) := by decide +kernel
theorem dX6_tell_0 : decode cX6_tell 0 = .ok (.aload_n 0, 1) := by decide +kernel
theorem dX6_tell_1 : decode cX6_tell 1 = .ok (.getfield 13, 3) := by decide +kernel
theorem dX6_tell_4 : decode cX6_tell 4 = .ok (.aload_n 0, 1) := by decide +kernel
theorem dX6_tell_5 : decode cX6_tell 5 = .ok (.getfield 119, 3) := by decide +kernel
theorem dX6_tell_8 : decode cX6_tell 8 = .ok (.iload_n 1, 1) := by decide +kernel
theorem dX6_tell_9 : decode cX6_tell 9 = .ok (.iastore, 1) := by decide +kernel
theorem dX6_tell_10 : decode cX6_tell 10 = .ok (.aload_n 0, 1) := by decide +kernel
theorem dX6_tell_11 : decode cX6_tell 11 = .ok (.getfield 17, 3) := by decide +kernel
theorem dX6_tell_14 : decode cX6_tell 14 = .ok (.aload_n 0, 1) := by decide +kernel
theorem dX6_tell_15 : decode cX6_tell 15 = .ok (.getfield 119, 3) := by decide +kernel
theorem dX6_tell_18 : decode cX6_tell 18 = .ok (.aload_n 0, 1) := by decide +kernel
theorem dX6_tell_19 : decode cX6_tell 19 = .ok (.getfield 7, 3) := by decide +kernel
theorem dX6_tell_22 : decode cX6_tell 22 = .ok (.iastore, 1) := by decide +kernel
theorem dX6_tell_23 : decode cX6_tell 23 = .ok (.aload_n 0, 1) := by decide +kernel
theorem dX6_tell_24 : decode cX6_tell 24 = .ok (.getfield 20, 3) := by decide +kernel
theorem dX6_tell_27 : decode cX6_tell 27 = .ok (.aload_n 0, 1) := by decide +kernel
theorem dX6_tell_28 : decode cX6_tell 28 = .ok (.getfield 119, 3) := by decide +kernel
theorem dX6_tell_31 : decode cX6_tell 31 = .ok (.iload_n 2, 1) := by decide +kernel
theorem dX6_tell_32 : decode cX6_tell 32 = .ok (.iastore, 1) := by decide +kernel
theorem dX6_tell_33 : decode cX6_tell 33 = .ok (.aload_n 0, 1) := by decide +kernel
theorem dX6_tell_34 : decode cX6_tell 34 = .ok (.getfield 23, 3) := by decide +kernel
theorem dX6_tell_37 : decode cX6_tell 37 = .ok (.aload_n 0, 1) := by decide +kernel
theorem dX6_tell_38 : decode cX6_tell 38 = .ok (.getfield 119, 3) := by decide +kernel
theorem dX6_tell_41 : decode cX6_tell 41 = .ok (.iload_n 3, 1) := by decide +kernel
theorem dX6_tell_42 : decode cX6_tell 42 = .ok (.iastore, 1) := by decide +kernel
theorem dX6_tell_43 : decode cX6_tell 43 = .ok (.aload_n 0, 1) := by decide +kernel
theorem dX6_tell_44 : decode cX6_tell 44 = .ok (.getfield 26, 3) := by decide +kernel
theorem dX6_tell_47 : decode cX6_tell 47 = .ok (.aload_n 0, 1) := by decide +kernel
theorem dX6_tell_48 : decode cX6_tell 48 = .ok (.getfield 119, 3) := by decide +kernel
theorem dX6_tell_51 : decode cX6_tell 51 = .ok (.iload 4, 2) := by decide +kernel
theorem dX6_tell_53 : decode cX6_tell 53 = .ok (.iastore, 1) := by decide +kernel
theorem dX6_tell_54 : decode cX6_tell 54 = .ok (.aload_n 0, 1) := by decide +kernel
theorem dX6_tell_55 : decode cX6_tell 55 = .ok (.getfield 29, 3) := by decide +kernel
theorem dX6_tell_58 : decode cX6_tell 58 = .ok (.aload_n 0, 1) := by decide +kernel
theorem dX6_tell_59 : decode cX6_tell 59 = .ok (.getfield 119, 3) := by decide +kernel
theorem dX6_tell_62 : decode cX6_tell 62 = .ok (.iload 5, 2) := by decide +kernel
theorem dX6_tell_64 : decode cX6_tell 64 = .ok (.iastore, 1) := by decide +kernel
theorem dX6_tell_65 : decode cX6_tell 65 = .ok (.aload_n 0, 1) := by decide +kernel
theorem dX6_tell_66 : decode cX6_tell 66 = .ok (.getfield 32, 3) := by decide +kernel
theorem dX6_tell_69 : decode cX6_tell 69 = .ok (.aload_n 0, 1) := by decide +kernel
theorem dX6_tell_70 : decode cX6_tell 70 = .ok (.getfield 119, 3) := by decide +kernel
theorem dX6_tell_73 : decode cX6_tell 73 = .ok (.iload 6, 2) := by decide +kernel
theorem dX6_tell_75 : decode cX6_tell 75 = .ok (.iastore, 1) := by decide +kernel
theorem dX6_tell_76 : decode cX6_tell 76 = .ok (.aload_n 0, 1) := by decide +kernel
theorem dX6_tell_77 : decode cX6_tell 77 = .ok (.getfield 35, 3) := by decide +kernel
theorem dX6_tell_80 : decode cX6_tell 80 = .ok (.aload_n 0, 1) := by decide +kernel
theorem dX6_tell_81 : decode cX6_tell 81 = .ok (.getfield 119, 3) := by decide +kernel
theorem dX6_tell_84 : decode cX6_tell 84 = .ok (.iconst (-1), 1) := by decide +kernel
theorem dX6_tell_85 : decode cX6_tell 85 = .ok (.iastore, 1) := by decide +kernel
theorem dX6_tell_86 : decode cX6_tell 86 = .ok (.iload_n 1, 1) := by decide +kernel
theorem dX6_tell_87 : decode cX6_tell 87 = .ok (.bipush 7, 2) := by decide +kernel
theorem dX6_tell_89 : decode cX6_tell 89 = .ok (.if_icmp .ge 75, 3) := by decide +kernel
theorem dX6_tell_92 : decode cX6_tell 92 = .ok (.aload_n 0, 1) := by decide +kernel
theorem dX6_tell_93 : decode cX6_tell 93 = .ok (.getfield 122, 3) := by decide +kernel
theorem dX6_tell_96 : decode cX6_tell 96 = .ok (.istore 7, 2) := by decide +kernel
theorem dX6_tell_98 : decode cX6_tell 98 = .ok (.iload 7, 2) := by decide +kernel
theorem dX6_tell_100 : decode cX6_tell 100 = .ok (.ifCond .le 43, 3) := by decide +kernel
theorem dX6_tell_103 : decode cX6_tell 103 = .ok (.aload_n 0, 1) := by decide +kernel
theorem dX6_tell_104 : decode cX6_tell 104 = .ok (.getfield 20, 3) := by decide +kernel
theorem dX6_tell_107 : decode cX6_tell 107 = .ok (.aload_n 0, 1) := by decide +kernel
theorem dX6_tell_108 : decode cX6_tell 108 = .ok (.getfield 38, 3) := by decide +kernel
theorem dX6_tell_111 : decode cX6_tell 111 = .ok (.iload 7, 2) := by decide +kernel
theorem dX6_tell_113 : decode cX6_tell 113 = .ok (.iconst 1, 1) := by decide +kernel
theorem dX6_tell_114 : decode cX6_tell 114 = .ok (.isub, 1) := by decide +kernel
theorem dX6_tell_115 : decode cX6_tell 115 = .ok (.iaload, 1) := by decide +kernel
theorem dX6_tell_116 : decode cX6_tell 116 = .ok (.iaload, 1) := by decide +kernel
theorem dX6_tell_117 : decode cX6_tell 117 = .ok (.iload_n 2, 1) := by decide +kernel
theorem dX6_tell_118 : decode cX6_tell 118 = .ok (.if_icmp .le 25, 3) := by decide +kernel
theorem dX6_tell_121 : decode cX6_tell 121 = .ok (.aload_n 0, 1) := by decide +kernel
theorem dX6_tell_122 : decode cX6_tell 122 = .ok (.getfield 38, 3) := by decide +kernel
theorem dX6_tell_125 : decode cX6_tell 125 = .ok (.iload 7, 2) := by decide +kernel
theorem dX6_tell_127 : decode cX6_tell 127 = .ok (.aload_n 0, 1) := by decide +kernel
theorem dX6_tell_128 : decode cX6_tell 128 = .ok (.getfield 38, 3) := by decide +kernel
theorem dX6_tell_131 : decode cX6_tell 131 = .ok (.iload 7, 2) := by decide +kernel
theorem dX6_tell_133 : decode cX6_tell 133 = .ok (.iconst 1, 1) := by decide +kernel
theorem dX6_tell_134 : decode cX6_tell 134 = .ok (.isub, 1) := by decide +kernel
theorem dX6_tell_135 : decode cX6_tell 135 = .ok (.iaload, 1) := by decide +kernel
theorem dX6_tell_136 : decode cX6_tell 136 = .ok (.iastore, 1) := by decide +kernel
theorem dX6_tell_137 : decode cX6_tell 137 = .ok (.iinc 7 (-1), 3) := by decide +kernel
theorem dX6_tell_140 : decode cX6_tell 140 = .ok (.goto (-42), 3) := by decide +kernel
theorem dX6_tell_143 : decode cX6_tell 143 = .ok (.aload_n 0, 1) := by decide +kernel
theorem dX6_tell_144 : decode cX6_tell 144 = .ok (.getfield 38, 3) := by decide +kernel
theorem dX6_tell_147 : decode cX6_tell 147 = .ok (.iload 7, 2) := by decide +kernel
theorem dX6_tell_149 : decode cX6_tell 149 = .ok (.aload_n 0, 1) := by decide +kernel
theorem dX6_tell_150 : decode cX6_tell 150 = .ok (.getfield 119, 3) := by decide +kernel
theorem dX6_tell_153 : decode cX6_tell 153 = .ok (.iastore, 1) := by decide +kernel
theorem dX6_tell_154 : decode cX6_tell 154 = .ok (.aload_n 0, 1) := by decide +kernel
theorem dX6_tell_155 : decode cX6_tell 155 = .ok (.dup, 1) := by decide +kernel
theorem dX6_tell_156 : decode cX6_tell 156 = .ok (.getfield 122, 3) := by decide +kernel
theorem dX6_tell_159 : decode cX6_tell 159 = .ok (.iconst 1, 1) := by decide +kernel
theorem dX6_tell_160 : decode cX6_tell 160 = .ok (.iadd, 1) := by decide +kernel
theorem dX6_tell_161 : decode cX6_tell 161 = .ok (.putfield 122, 3) := by decide +kernel
theorem dX6_tell_164 : decode cX6_tell 164 = .ok (.aload_n 0, 1) := by decide +kernel
theorem dX6_tell_165 : decode cX6_tell 165 = .ok (.dup, 1) := by decide +kernel
theorem dX6_tell_166 : decode cX6_tell 166 = .ok (.getfield 119, 3) := by decide +kernel
theorem dX6_tell_169 : decode cX6_tell 169 = .ok (.iconst 1, 1) := by decide +kernel
theorem dX6_tell_170 : decode cX6_tell 170 = .ok (.iadd, 1) := by decide +kernel
theorem dX6_tell_171 : decode cX6_tell 171 = .ok (.putfield 119, 3) := by decide +kernel
theorem dX6_tell_174 : decode cX6_tell 174 = .ok (.aload_n 0, 1) := by decide +kernel
theorem dX6_tell_175 : decode cX6_tell 175 = .ok (.getfield 119, 3) := by decide +kernel
theorem dX6_tell_178 : decode cX6_tell 178 = .ok (.iconst 1, 1) := by decide +kernel
theorem dX6_tell_179 : decode cX6_tell 179 = .ok (.isub, 1) := by decide +kernel
theorem dX6_tell_180 : decode cX6_tell 180 = .ok (.ireturn, 1) := by decide +kernel
theorem dX6_checkOf_0 : decode cX6_checkOf 0 = .ok (.iconst 2, 1) := by decide +kernel
theorem dX6_checkOf_1 : decode cX6_checkOf 1 = .ok (.iload_n 0, 1) := by decide +kernel
theorem dX6_checkOf_2 : decode cX6_checkOf 2 = .ok (.sipush 1000, 3) := by decide +kernel
theorem dX6_checkOf_5 : decode cX6_checkOf 5 = .ok (.idiv, 1) := by decide +kernel
theorem dX6_checkOf_6 : decode cX6_checkOf 6 = .ok (.imul, 1) := by decide +kernel
theorem dX6_checkOf_7 : decode cX6_checkOf 7 = .ok (.iconst 3, 1) := by decide +kernel
theorem dX6_checkOf_8 : decode cX6_checkOf 8 = .ok (.iload_n 0, 1) := by decide +kernel
theorem dX6_checkOf_9 : decode cX6_checkOf 9 = .ok (.bipush 100, 2) := by decide +kernel
theorem dX6_checkOf_11 : decode cX6_checkOf 11 = .ok (.idiv, 1) := by decide +kernel
theorem dX6_checkOf_12 : decode cX6_checkOf 12 = .ok (.bipush 10, 2) := by decide +kernel
theorem dX6_checkOf_14 : decode cX6_checkOf 14 = .ok (.irem, 1) := by decide +kernel
theorem dX6_checkOf_15 : decode cX6_checkOf 15 = .ok (.imul, 1) := by decide +kernel
theorem dX6_checkOf_16 : decode cX6_checkOf 16 = .ok (.iadd, 1) := by decide +kernel
theorem dX6_checkOf_17 : decode cX6_checkOf 17 = .ok (.iconst 4, 1) := by decide +kernel
theorem dX6_checkOf_18 : decode cX6_checkOf 18 = .ok (.iload_n 0, 1) := by decide +kernel
theorem dX6_checkOf_19 : decode cX6_checkOf 19 = .ok (.bipush 10, 2) := by decide +kernel
theorem dX6_checkOf_21 : decode cX6_checkOf 21 = .ok (.idiv, 1) := by decide +kernel
theorem dX6_checkOf_22 : decode cX6_checkOf 22 = .ok (.bipush 10, 2) := by decide +kernel
theorem dX6_checkOf_24 : decode cX6_checkOf 24 = .ok (.irem, 1) := by decide +kernel
theorem dX6_checkOf_25 : decode cX6_checkOf 25 = .ok (.imul, 1) := by decide +kernel
theorem dX6_checkOf_26 : decode cX6_checkOf 26 = .ok (.iadd, 1) := by decide +kernel
theorem dX6_checkOf_27 : decode cX6_checkOf 27 = .ok (.iconst 5, 1) := by decide +kernel
theorem dX6_checkOf_28 : decode cX6_checkOf 28 = .ok (.iload_n 0, 1) := by decide +kernel
theorem dX6_checkOf_29 : decode cX6_checkOf 29 = .ok (.bipush 10, 2) := by decide +kernel
theorem dX6_checkOf_31 : decode cX6_checkOf 31 = .ok (.irem, 1) := by decide +kernel
theorem dX6_checkOf_32 : decode cX6_checkOf 32 = .ok (.imul, 1) := by decide +kernel
theorem dX6_checkOf_33 : decode cX6_checkOf 33 = .ok (.iadd, 1) := by decide +kernel
theorem dX6_checkOf_34 : decode cX6_checkOf 34 = .ok (.bipush 11, 2) := by decide +kernel
theorem dX6_checkOf_36 : decode cX6_checkOf 36 = .ok (.irem, 1) := by decide +kernel
theorem dX6_checkOf_37 : decode cX6_checkOf 37 = .ok (.ireturn, 1) := by decide +kernel
set_option maxRecDepth 20000 in
theorem ggX6_giveTo_X6_checkOf : GoodIn wsX6_giveTo wsX6_checkOf := goodIn_r _ [8] (by decide +kernel) (by decide +kernel)
set_option maxRecDepth 20000 in
theorem gX6_giveTo_X6_checkOf : GoodIn wsX6_giveTo (va_wsS RX6 125 yX6_checkOf wsX6_checkOf) := goodIn_app (goodIn_of _ (by decide +kernel)) ggX6_giveTo_X6_checkOf
theorem dX6_giveTo_0 : decode cX6_giveTo 0 = .ok (.aload_n 0, 1) := by decide +kernel
theorem dX6_giveTo_1 : decode cX6_giveTo 1 = .ok (.dup, 1) := by decide +kernel
theorem dX6_giveTo_2 : decode cX6_giveTo 2 = .ok (.getfield 41, 3) := by decide +kernel
theorem dX6_giveTo_5 : decode cX6_giveTo 5 = .ok (.iconst 1, 1) := by decide +kernel
theorem dX6_giveTo_6 : decode cX6_giveTo 6 = .ok (.iadd, 1) := by decide +kernel
theorem dX6_giveTo_7 : decode cX6_giveTo 7 = .ok (.putfield 41, 3) := by decide +kernel
theorem dX6_giveTo_10 : decode cX6_giveTo 10 = .ok (.aload_n 0, 1) := by decide +kernel
theorem dX6_giveTo_11 : decode cX6_giveTo 11 = .ok (.getfield 41, 3) := by decide +kernel
theorem dX6_giveTo_14 : decode cX6_giveTo 14 = .ok (.invokestatic 125, 3) := by decide +kernel
theorem dX6_giveTo_17 : decode cX6_giveTo 17 = .ok (.bipush 10, 2) := by decide +kernel
theorem dX6_giveTo_19 : decode cX6_giveTo 19 = .ok (.if_icmp .ne 16, 3) := by decide +kernel
theorem dX6_giveTo_22 : decode cX6_giveTo 22 = .ok (.aload_n 0, 1) := by decide +kernel
theorem dX6_giveTo_23 : decode cX6_giveTo 23 = .ok (.dup, 1) := by decide +kernel
theorem dX6_giveTo_24 : decode cX6_giveTo 24 = .ok (.getfield 41, 3) := by decide +kernel
theorem dX6_giveTo_27 : decode cX6_giveTo 27 = .ok (.iconst 1, 1) := by decide +kernel
theorem dX6_giveTo_28 : decode cX6_giveTo 28 = .ok (.iadd, 1) := by decide +kernel
theorem dX6_giveTo_29 : decode cX6_giveTo 29 = .ok (.putfield 41, 3) := by decide +kernel
theorem dX6_giveTo_32 : decode cX6_giveTo 32 = .ok (.goto (-22), 3) := by decide +kernel
theorem dX6_giveTo_35 : decode cX6_giveTo 35 = .ok (.aload_n 0, 1) := by decide +kernel
theorem dX6_giveTo_36 : decode cX6_giveTo 36 = .ok (.getfield 44, 3) := by decide +kernel
theorem dX6_giveTo_39 : decode cX6_giveTo 39 = .ok (.aload_n 0, 1) := by decide +kernel
theorem dX6_giveTo_40 : decode cX6_giveTo 40 = .ok (.getfield 129, 3) := by decide +kernel
theorem dX6_giveTo_43 : decode cX6_giveTo 43 = .ok (.bipush 10, 2) := by decide +kernel
theorem dX6_giveTo_45 : decode cX6_giveTo 45 = .ok (.aload_n 0, 1) := by decide +kernel
theorem dX6_giveTo_46 : decode cX6_giveTo 46 = .ok (.getfield 41, 3) := by decide +kernel
theorem dX6_giveTo_49 : decode cX6_giveTo 49 = .ok (.imul, 1) := by decide +kernel
theorem dX6_giveTo_50 : decode cX6_giveTo 50 = .ok (.aload_n 0, 1) := by decide +kernel
theorem dX6_giveTo_51 : decode cX6_giveTo 51 = .ok (.getfield 41, 3) := by decide +kernel
theorem dX6_giveTo_54 : decode cX6_giveTo 54 = .ok (.invokestatic 125, 3) := by decide +kernel
theorem dX6_giveTo_57 : decode cX6_giveTo 57 = .ok (.iadd, 1) := by decide +kernel
theorem dX6_giveTo_58 : decode cX6_giveTo 58 = .ok (.iastore, 1) := by decide +kernel
theorem dX6_giveTo_59 : decode cX6_giveTo 59 = .ok (.aload_n 0, 1) := by decide +kernel
theorem dX6_giveTo_60 : decode cX6_giveTo 60 = .ok (.getfield 47, 3) := by decide +kernel
theorem dX6_giveTo_63 : decode cX6_giveTo 63 = .ok (.aload_n 0, 1) := by decide +kernel
theorem dX6_giveTo_64 : decode cX6_giveTo 64 = .ok (.getfield 129, 3) := by decide +kernel
theorem dX6_giveTo_67 : decode cX6_giveTo 67 = .ok (.iload_n 1, 1) := by decide +kernel
theorem dX6_giveTo_68 : decode cX6_giveTo 68 = .ok (.iastore, 1) := by decide +kernel
theorem dX6_giveTo_69 : decode cX6_giveTo 69 = .ok (.aload_n 0, 1) := by decide +kernel
theorem dX6_giveTo_70 : decode cX6_giveTo 70 = .ok (.dup, 1) := by decide +kernel
theorem dX6_giveTo_71 : decode cX6_giveTo 71 = .ok (.getfield 129, 3) := by decide +kernel
theorem dX6_giveTo_74 : decode cX6_giveTo 74 = .ok (.iconst 1, 1) := by decide +kernel
theorem dX6_giveTo_75 : decode cX6_giveTo 75 = .ok (.iadd, 1) := by decide +kernel
theorem dX6_giveTo_76 : decode cX6_giveTo 76 = .ok (.putfield 129, 3) := by decide +kernel
theorem dX6_giveTo_79 : decode cX6_giveTo 79 = .ok (.aload_n 0, 1) := by decide +kernel
theorem dX6_giveTo_80 : decode cX6_giveTo 80 = .ok (.getfield 44, 3) := by decide +kernel
theorem dX6_giveTo_83 : decode cX6_giveTo 83 = .ok (.aload_n 0, 1) := by decide +kernel
theorem dX6_giveTo_84 : decode cX6_giveTo 84 = .ok (.getfield 129, 3) := by decide +kernel
theorem dX6_giveTo_87 : decode cX6_giveTo 87 = .ok (.iconst 1, 1) := by decide +kernel
theorem dX6_giveTo_88 : decode cX6_giveTo 88 = .ok (.isub, 1) := by decide +kernel
theorem dX6_giveTo_89 : decode cX6_giveTo 89 = .ok (.iaload, 1) := by decide +kernel
theorem dX6_giveTo_90 : decode cX6_giveTo 90 = .ok (.ireturn, 1) := by decide +kernel
set_option maxRecDepth 20000 in
theorem ggX6_birth_X6_isPerson : GoodIn wsX6_birth wsX6_isPerson := goodIn_r _ [8, 1, 9, 10, 7, 11, 46, 47, 48, 49, 50, 51, 52, 53, 54, 55, 56, 57, 58, 59, 60, 61, 62, 63, 64, 65, 66, 67, 68, 69, 70, 71, 72, 73, 74, 75, 76, 77, 78, 79, 80, 81, 82, 83] (by decide +kernel) (by decide +kernel)
set_option maxRecDepth 20000 in
theorem gX6_birth_X6_isPerson : GoodIn wsX6_birth (wsV RX6 132 RX6 yX6_isPerson wsX6_isPerson) := goodIn_app (goodIn_of _ (by decide +kernel)) ggX6_birth_X6_isPerson
set_option maxRecDepth 20000 in
theorem ggX6_birth_X6_within : GoodIn wsX6_birth wsX6_within := goodIn_r _ [11] (by decide +kernel) (by decide +kernel)
set_option maxRecDepth 20000 in
theorem gX6_birth_X6_within : GoodIn wsX6_birth (va_wsS RX6 111 yX6_within wsX6_within) := goodIn_app (goodIn_of _ (by decide +kernel)) ggX6_birth_X6_within
set_option maxRecDepth 20000 in
theorem ggX6_birth_X6_isDay : GoodIn wsX6_birth wsX6_isDay := goodIn_r _ [15, 16, 9, 10, 7, 11, 46, 47, 48, 49, 50, 51, 52, 53, 54, 55, 56, 57, 58, 59, 60, 61, 62, 63, 64, 65, 66, 67, 68, 69, 70, 71, 72, 73, 74, 75, 76, 77, 78, 79, 80, 81, 82, 83] (by decide +kernel) (by decide +kernel)
set_option maxRecDepth 20000 in
theorem gX6_birth_X6_isDay : GoodIn wsX6_birth (wsV RX6 135 RX6 yX6_isDay wsX6_isDay) := goodIn_app (goodIn_of _ (by decide +kernel)) ggX6_birth_X6_isDay
set_option maxRecDepth 20000 in
theorem ggX6_birth_X6_refused : GoodIn wsX6_birth wsX6_refused := goodIn_r _ [20, 21, 46, 47, 48, 49, 50, 51, 52, 53, 54, 55, 56, 57, 58, 59, 60, 61, 62, 63, 64, 65, 66, 67, 68, 69, 70, 71, 72, 73, 74, 75, 76, 77, 78, 79, 80, 81, 82, 83] (by decide +kernel) (by decide +kernel)
set_option maxRecDepth 20000 in
theorem gX6_birth_X6_refused : GoodIn wsX6_birth (wsV RX6 115 RX6 yX6_refused wsX6_refused) := goodIn_app (goodIn_of _ (by decide +kernel)) ggX6_birth_X6_refused
set_option maxRecDepth 20000 in
theorem ggX6_birth_X6_tell : GoodIn wsX6_birth wsX6_tell := goodIn_r _ [25, 26, 2, 27, 16, 28, 29, 30, 31, 32, 33, 34, 35, 46, 47, 48, 49, 50, 51, 52, 53, 54, 55, 56, 57, 58, 59, 60, 61, 62, 63, 64, 65, 66, 67, 68, 69, 70, 71, 72, 73, 74, 75, 76, 77, 78, 79, 80, 81, 82, 83] (by decide +kernel) (by decide +kernel)
set_option maxRecDepth 20000 in
theorem gX6_birth_X6_tell : GoodIn wsX6_birth (wsV RX6 138 RX6 yX6_tell wsX6_tell) := goodIn_app (goodIn_of _ (by decide +kernel)) ggX6_birth_X6_tell
set_option maxRecDepth 20000 in
theorem ggX6_birth_X6_giveTo : GoodIn wsX6_birth wsX6_giveTo := goodIn_r _ [39, 40, 41, 3, 42, 43, 44, 7, 45, 46, 47, 48, 49, 50, 51, 52, 53, 54, 55, 56, 57, 58, 59, 60, 61, 62, 63, 64, 65, 66, 67, 68, 69, 70, 71, 72, 73, 74, 75, 76, 77, 78, 79, 80, 81, 82, 83] (by decide +kernel) (by decide +kernel)
set_option maxRecDepth 20000 in
theorem gX6_birth_X6_giveTo : GoodIn wsX6_birth (wsV RX6 142 RX6 yX6_giveTo wsX6_giveTo) := goodIn_app (goodIn_of _ (by decide +kernel)) ggX6_birth_X6_giveTo
theorem dX6_birth_0 : decode cX6_birth 0 = .ok (.iload_n 2, 1) := by decide +kernel
theorem dX6_birth_1 : decode cX6_birth 1 = .ok (.iconst (-1), 1) := by decide +kernel
theorem dX6_birth_2 : decode cX6_birth 2 = .ok (.if_icmp .eq 11, 3) := by decide +kernel
theorem dX6_birth_5 : decode cX6_birth 5 = .ok (.aload_n 0, 1) := by decide +kernel
theorem dX6_birth_6 : decode cX6_birth 6 = .ok (.iload_n 2, 1) := by decide +kernel
theorem dX6_birth_7 : decode cX6_birth 7 = .ok (.invokevirtual 132, 3) := by decide +kernel
theorem dX6_birth_10 : decode cX6_birth 10 = .ok (.ifCond .eq 17, 3) := by decide +kernel
theorem dX6_birth_13 : decode cX6_birth 13 = .ok (.iload_n 3, 1) := by decide +kernel
theorem dX6_birth_14 : decode cX6_birth 14 = .ok (.iconst 0, 1) := by decide +kernel
theorem dX6_birth_15 : decode cX6_birth 15 = .ok (.bipush 15, 2) := by decide +kernel
theorem dX6_birth_17 : decode cX6_birth 17 = .ok (.invokestatic 111, 3) := by decide +kernel
theorem dX6_birth_20 : decode cX6_birth 20 = .ok (.ifCond .eq 7, 3) := by decide +kernel
theorem dX6_birth_23 : decode cX6_birth 23 = .ok (.iconst 1, 1) := by decide +kernel
theorem dX6_birth_24 : decode cX6_birth 24 = .ok (.goto 4, 3) := by decide +kernel
theorem dX6_birth_27 : decode cX6_birth 27 = .ok (.iconst 0, 1) := by decide +kernel
theorem dX6_birth_28 : decode cX6_birth 28 = .ok (.istore 5, 2) := by decide +kernel
theorem dX6_birth_30 : decode cX6_birth 30 = .ok (.aload_n 0, 1) := by decide +kernel
theorem dX6_birth_31 : decode cX6_birth 31 = .ok (.iload_n 1, 1) := by decide +kernel
theorem dX6_birth_32 : decode cX6_birth 32 = .ok (.invokevirtual 135, 3) := by decide +kernel
theorem dX6_birth_35 : decode cX6_birth 35 = .ok (.ifCond .eq 19, 3) := by decide +kernel
theorem dX6_birth_38 : decode cX6_birth 38 = .ok (.iload 4, 2) := by decide +kernel
theorem dX6_birth_40 : decode cX6_birth 40 = .ok (.iconst 0, 1) := by decide +kernel
theorem dX6_birth_41 : decode cX6_birth 41 = .ok (.sipush 999, 3) := by decide +kernel
theorem dX6_birth_44 : decode cX6_birth 44 = .ok (.invokestatic 111, 3) := by decide +kernel
theorem dX6_birth_47 : decode cX6_birth 47 = .ok (.ifCond .eq 7, 3) := by decide +kernel
theorem dX6_birth_50 : decode cX6_birth 50 = .ok (.iconst 1, 1) := by decide +kernel
theorem dX6_birth_51 : decode cX6_birth 51 = .ok (.goto 4, 3) := by decide +kernel
theorem dX6_birth_54 : decode cX6_birth 54 = .ok (.iconst 0, 1) := by decide +kernel
theorem dX6_birth_55 : decode cX6_birth 55 = .ok (.istore 6, 2) := by decide +kernel
theorem dX6_birth_57 : decode cX6_birth 57 = .ok (.aload_n 0, 1) := by decide +kernel
theorem dX6_birth_58 : decode cX6_birth 58 = .ok (.iload 5, 2) := by decide +kernel
theorem dX6_birth_60 : decode cX6_birth 60 = .ok (.ifCond .ne 7, 3) := by decide +kernel
theorem dX6_birth_63 : decode cX6_birth 63 = .ok (.iconst 1, 1) := by decide +kernel
theorem dX6_birth_64 : decode cX6_birth 64 = .ok (.goto 45, 3) := by decide +kernel
theorem dX6_birth_67 : decode cX6_birth 67 = .ok (.iload 6, 2) := by decide +kernel
theorem dX6_birth_69 : decode cX6_birth 69 = .ok (.ifCond .ne 7, 3) := by decide +kernel
theorem dX6_birth_72 : decode cX6_birth 72 = .ok (.iconst 2, 1) := by decide +kernel
theorem dX6_birth_73 : decode cX6_birth 73 = .ok (.goto 36, 3) := by decide +kernel
theorem dX6_birth_76 : decode cX6_birth 76 = .ok (.aload_n 0, 1) := by decide +kernel
theorem dX6_birth_77 : decode cX6_birth 77 = .ok (.getfield 108, 3) := by decide +kernel
theorem dX6_birth_80 : decode cX6_birth 80 = .ok (.bipush 24, 2) := by decide +kernel
theorem dX6_birth_82 : decode cX6_birth 82 = .ok (.if_icmp .eq 22, 3) := by decide +kernel
theorem dX6_birth_85 : decode cX6_birth 85 = .ok (.aload_n 0, 1) := by decide +kernel
theorem dX6_birth_86 : decode cX6_birth 86 = .ok (.getfield 119, 3) := by decide +kernel
theorem dX6_birth_89 : decode cX6_birth 89 = .ok (.sipush 150, 3) := by decide +kernel
theorem dX6_birth_92 : decode cX6_birth 92 = .ok (.if_icmp .eq 12, 3) := by decide +kernel
theorem dX6_birth_95 : decode cX6_birth 95 = .ok (.aload_n 0, 1) := by decide +kernel
theorem dX6_birth_96 : decode cX6_birth 96 = .ok (.getfield 129, 3) := by decide +kernel
theorem dX6_birth_99 : decode cX6_birth 99 = .ok (.bipush 60, 2) := by decide +kernel
theorem dX6_birth_101 : decode cX6_birth 101 = .ok (.if_icmp .ne 7, 3) := by decide +kernel
theorem dX6_birth_104 : decode cX6_birth 104 = .ok (.iconst 3, 1) := by decide +kernel
theorem dX6_birth_105 : decode cX6_birth 105 = .ok (.goto 4, 3) := by decide +kernel
theorem dX6_birth_108 : decode cX6_birth 108 = .ok (.iconst 0, 1) := by decide +kernel
theorem dX6_birth_109 : decode cX6_birth 109 = .ok (.invokevirtual 115, 3) := by decide +kernel
theorem dX6_birth_112 : decode cX6_birth 112 = .ok (.ifCond .eq 5, 3) := by decide +kernel
theorem dX6_birth_115 : decode cX6_birth 115 = .ok (.iconst 0, 1) := by decide +kernel
theorem dX6_birth_116 : decode cX6_birth 116 = .ok (.ireturn, 1) := by decide +kernel
theorem dX6_birth_117 : decode cX6_birth 117 = .ok (.aload_n 0, 1) := by decide +kernel
theorem dX6_birth_118 : decode cX6_birth 118 = .ok (.iconst 0, 1) := by decide +kernel
theorem dX6_birth_119 : decode cX6_birth 119 = .ok (.iload_n 1, 1) := by decide +kernel
theorem dX6_birth_120 : decode cX6_birth 120 = .ok (.aload_n 0, 1) := by decide +kernel
theorem dX6_birth_121 : decode cX6_birth 121 = .ok (.getfield 108, 3) := by decide +kernel
theorem dX6_birth_124 : decode cX6_birth 124 = .ok (.iload_n 2, 1) := by decide +kernel
theorem dX6_birth_125 : decode cX6_birth 125 = .ok (.iload_n 3, 1) := by decide +kernel
theorem dX6_birth_126 : decode cX6_birth 126 = .ok (.iload 4, 2) := by decide +kernel
theorem dX6_birth_128 : decode cX6_birth 128 = .ok (.invokevirtual 138, 3) := by decide +kernel
theorem dX6_birth_131 : decode cX6_birth 131 = .ok (.pop, 1) := by decide +kernel
theorem dX6_birth_132 : decode cX6_birth 132 = .ok (.aload_n 0, 1) := by decide +kernel
theorem dX6_birth_133 : decode cX6_birth 133 = .ok (.aload_n 0, 1) := by decide +kernel
theorem dX6_birth_134 : decode cX6_birth 134 = .ok (.getfield 108, 3) := by decide +kernel
theorem dX6_birth_137 : decode cX6_birth 137 = .ok (.invokevirtual 142, 3) := by decide +kernel
theorem dX6_birth_140 : decode cX6_birth 140 = .ok (.pop, 1) := by decide +kernel
theorem dX6_birth_141 : decode cX6_birth 141 = .ok (.aload_n 0, 1) := by decide +kernel
theorem dX6_birth_142 : decode cX6_birth 142 = .ok (.dup, 1) := by decide +kernel
theorem dX6_birth_143 : decode cX6_birth 143 = .ok (.getfield 108, 3) := by decide +kernel
theorem dX6_birth_146 : decode cX6_birth 146 = .ok (.iconst 1, 1) := by decide +kernel
theorem dX6_birth_147 : decode cX6_birth 147 = .ok (.iadd, 1) := by decide +kernel
theorem dX6_birth_148 : decode cX6_birth 148 = .ok (.putfield 108, 3) := by decide +kernel
theorem dX6_birth_151 : decode cX6_birth 151 = .ok (.aload_n 0, 1) := by decide +kernel
theorem dX6_birth_152 : decode cX6_birth 152 = .ok (.getfield 108, 3) := by decide +kernel
theorem dX6_birth_155 : decode cX6_birth 155 = .ok (.iconst 1, 1) := by decide +kernel
theorem dX6_birth_156 : decode cX6_birth 156 = .ok (.isub, 1) := by decide +kernel
theorem dX6_birth_157 : decode cX6_birth 157 = .ok (.ireturn, 1) := by decide +kernel
set_option maxRecDepth 20000 in
theorem ggX6_move_X6_isPerson : GoodIn wsX6_move wsX6_isPerson := goodIn_r _ [6, 7, 8, 9, 5, 10, 35, 36, 37, 38, 39, 40, 41, 42, 43, 44, 45, 46, 47, 48, 49, 50, 51, 52, 53, 54, 55, 56, 57, 58, 59, 60, 61, 62, 63, 64, 65, 66, 67, 68, 69, 70, 71, 72] (by decide +kernel) (by decide +kernel)
set_option maxRecDepth 20000 in
theorem gX6_move_X6_isPerson : GoodIn wsX6_move (wsV RX6 132 RX6 yX6_isPerson wsX6_isPerson) := goodIn_app (goodIn_of _ (by decide +kernel)) ggX6_move_X6_isPerson
set_option maxRecDepth 20000 in
theorem ggX6_move_X6_within : GoodIn wsX6_move wsX6_within := goodIn_r _ [10] (by decide +kernel) (by decide +kernel)
set_option maxRecDepth 20000 in
theorem gX6_move_X6_within : GoodIn wsX6_move (va_wsS RX6 111 yX6_within wsX6_within) := goodIn_app (goodIn_of _ (by decide +kernel)) ggX6_move_X6_within
set_option maxRecDepth 20000 in
theorem ggX6_move_X6_isDay : GoodIn wsX6_move wsX6_isDay := goodIn_r _ [14, 15, 8, 9, 5, 10, 35, 36, 37, 38, 39, 40, 41, 42, 43, 44, 45, 46, 47, 48, 49, 50, 51, 52, 53, 54, 55, 56, 57, 58, 59, 60, 61, 62, 63, 64, 65, 66, 67, 68, 69, 70, 71, 72] (by decide +kernel) (by decide +kernel)
set_option maxRecDepth 20000 in
theorem gX6_move_X6_isDay : GoodIn wsX6_move (wsV RX6 135 RX6 yX6_isDay wsX6_isDay) := goodIn_app (goodIn_of _ (by decide +kernel)) ggX6_move_X6_isDay
set_option maxRecDepth 20000 in
theorem ggX6_move_X6_refused : GoodIn wsX6_move wsX6_refused := goodIn_r _ [19, 20, 35, 36, 37, 38, 39, 40, 41, 42, 43, 44, 45, 46, 47, 48, 49, 50, 51, 52, 53, 54, 55, 56, 57, 58, 59, 60, 61, 62, 63, 64, 65, 66, 67, 68, 69, 70, 71, 72] (by decide +kernel) (by decide +kernel)
set_option maxRecDepth 20000 in
theorem gX6_move_X6_refused : GoodIn wsX6_move (wsV RX6 115 RX6 yX6_refused wsX6_refused) := goodIn_app (goodIn_of _ (by decide +kernel)) ggX6_move_X6_refused
set_option maxRecDepth 20000 in
theorem ggX6_move_X6_tell : GoodIn wsX6_move wsX6_tell := goodIn_r _ [24, 25, 1, 26, 15, 27, 28, 29, 30, 31, 32, 33, 34, 35, 36, 37, 38, 39, 40, 41, 42, 43, 44, 45, 46, 47, 48, 49, 50, 51, 52, 53, 54, 55, 56, 57, 58, 59, 60, 61, 62, 63, 64, 65, 66, 67, 68, 69, 70, 71, 72] (by decide +kernel) (by decide +kernel)
set_option maxRecDepth 20000 in
theorem gX6_move_X6_tell : GoodIn wsX6_move (wsV RX6 138 RX6 yX6_tell wsX6_tell) := goodIn_app (goodIn_of _ (by decide +kernel)) ggX6_move_X6_tell
theorem dX6_move_0 : decode cX6_move 0 = .ok (.aload_n 0, 1) := by decide +kernel
theorem dX6_move_1 : decode cX6_move 1 = .ok (.iload_n 1, 1) := by decide +kernel
theorem dX6_move_2 : decode cX6_move 2 = .ok (.invokevirtual 132, 3) := by decide +kernel
theorem dX6_move_5 : decode cX6_move 5 = .ok (.ifCond .eq 17, 3) := by decide +kernel
theorem dX6_move_8 : decode cX6_move 8 = .ok (.iload_n 3, 1) := by decide +kernel
theorem dX6_move_9 : decode cX6_move 9 = .ok (.iconst 0, 1) := by decide +kernel
theorem dX6_move_10 : decode cX6_move 10 = .ok (.bipush 15, 2) := by decide +kernel
theorem dX6_move_12 : decode cX6_move 12 = .ok (.invokestatic 111, 3) := by decide +kernel
theorem dX6_move_15 : decode cX6_move 15 = .ok (.ifCond .eq 7, 3) := by decide +kernel
theorem dX6_move_18 : decode cX6_move 18 = .ok (.iconst 1, 1) := by decide +kernel
theorem dX6_move_19 : decode cX6_move 19 = .ok (.goto 4, 3) := by decide +kernel
theorem dX6_move_22 : decode cX6_move 22 = .ok (.iconst 0, 1) := by decide +kernel
theorem dX6_move_23 : decode cX6_move 23 = .ok (.istore 4, 2) := by decide +kernel
theorem dX6_move_25 : decode cX6_move 25 = .ok (.aload_n 0, 1) := by decide +kernel
theorem dX6_move_26 : decode cX6_move 26 = .ok (.iload 4, 2) := by decide +kernel
theorem dX6_move_28 : decode cX6_move 28 = .ok (.ifCond .ne 7, 3) := by decide +kernel
theorem dX6_move_31 : decode cX6_move 31 = .ok (.iconst 1, 1) := by decide +kernel
theorem dX6_move_32 : decode cX6_move 32 = .ok (.goto 30, 3) := by decide +kernel
theorem dX6_move_35 : decode cX6_move 35 = .ok (.aload_n 0, 1) := by decide +kernel
theorem dX6_move_36 : decode cX6_move 36 = .ok (.iload_n 2, 1) := by decide +kernel
theorem dX6_move_37 : decode cX6_move 37 = .ok (.invokevirtual 135, 3) := by decide +kernel
theorem dX6_move_40 : decode cX6_move 40 = .ok (.ifCond .ne 7, 3) := by decide +kernel
theorem dX6_move_43 : decode cX6_move 43 = .ok (.iconst 2, 1) := by decide +kernel
theorem dX6_move_44 : decode cX6_move 44 = .ok (.goto 18, 3) := by decide +kernel
theorem dX6_move_47 : decode cX6_move 47 = .ok (.aload_n 0, 1) := by decide +kernel
theorem dX6_move_48 : decode cX6_move 48 = .ok (.getfield 119, 3) := by decide +kernel
theorem dX6_move_51 : decode cX6_move 51 = .ok (.sipush 150, 3) := by decide +kernel
theorem dX6_move_54 : decode cX6_move 54 = .ok (.if_icmp .ne 7, 3) := by decide +kernel
theorem dX6_move_57 : decode cX6_move 57 = .ok (.iconst 3, 1) := by decide +kernel
theorem dX6_move_58 : decode cX6_move 58 = .ok (.goto 4, 3) := by decide +kernel
theorem dX6_move_61 : decode cX6_move 61 = .ok (.iconst 0, 1) := by decide +kernel
theorem dX6_move_62 : decode cX6_move 62 = .ok (.invokevirtual 115, 3) := by decide +kernel
theorem dX6_move_65 : decode cX6_move 65 = .ok (.ifCond .eq 5, 3) := by decide +kernel
theorem dX6_move_68 : decode cX6_move 68 = .ok (.iconst 0, 1) := by decide +kernel
theorem dX6_move_69 : decode cX6_move 69 = .ok (.ireturn, 1) := by decide +kernel
theorem dX6_move_70 : decode cX6_move 70 = .ok (.aload_n 0, 1) := by decide +kernel
theorem dX6_move_71 : decode cX6_move 71 = .ok (.iconst 1, 1) := by decide +kernel
theorem dX6_move_72 : decode cX6_move 72 = .ok (.iload_n 2, 1) := by decide +kernel
theorem dX6_move_73 : decode cX6_move 73 = .ok (.iload_n 1, 1) := by decide +kernel
theorem dX6_move_74 : decode cX6_move 74 = .ok (.iconst (-1), 1) := by decide +kernel
theorem dX6_move_75 : decode cX6_move 75 = .ok (.iload_n 3, 1) := by decide +kernel
theorem dX6_move_76 : decode cX6_move 76 = .ok (.iconst (-1), 1) := by decide +kernel
theorem dX6_move_77 : decode cX6_move 77 = .ok (.invokevirtual 138, 3) := by decide +kernel
theorem dX6_move_80 : decode cX6_move 80 = .ok (.ireturn, 1) := by decide +kernel
set_option maxRecDepth 20000 in
theorem ggX6_naming_X6_isDay : GoodIn wsX6_naming wsX6_isDay := goodIn_r _ [6, 7, 8, 9, 5, 10, 35, 36, 37, 38, 39, 40, 41, 42, 43, 44, 45, 46, 47, 48, 49, 50, 51, 52, 53, 54, 55, 56, 57, 58, 59, 60, 61, 62, 63, 64, 65, 66, 67, 68, 69, 70, 71, 72] (by decide +kernel) (by decide +kernel)
set_option maxRecDepth 20000 in
theorem gX6_naming_X6_isDay : GoodIn wsX6_naming (wsV RX6 135 RX6 yX6_isDay wsX6_isDay) := goodIn_app (goodIn_of _ (by decide +kernel)) ggX6_naming_X6_isDay
set_option maxRecDepth 20000 in
theorem ggX6_naming_X6_within : GoodIn wsX6_naming wsX6_within := goodIn_r _ [10] (by decide +kernel) (by decide +kernel)
set_option maxRecDepth 20000 in
theorem gX6_naming_X6_within : GoodIn wsX6_naming (va_wsS RX6 111 yX6_within wsX6_within) := goodIn_app (goodIn_of _ (by decide +kernel)) ggX6_naming_X6_within
set_option maxRecDepth 20000 in
theorem ggX6_naming_X6_isPerson : GoodIn wsX6_naming wsX6_isPerson := goodIn_r _ [14, 15, 8, 9, 5, 10, 35, 36, 37, 38, 39, 40, 41, 42, 43, 44, 45, 46, 47, 48, 49, 50, 51, 52, 53, 54, 55, 56, 57, 58, 59, 60, 61, 62, 63, 64, 65, 66, 67, 68, 69, 70, 71, 72] (by decide +kernel) (by decide +kernel)
set_option maxRecDepth 20000 in
theorem gX6_naming_X6_isPerson : GoodIn wsX6_naming (wsV RX6 132 RX6 yX6_isPerson wsX6_isPerson) := goodIn_app (goodIn_of _ (by decide +kernel)) ggX6_naming_X6_isPerson
set_option maxRecDepth 20000 in
theorem ggX6_naming_X6_refused : GoodIn wsX6_naming wsX6_refused := goodIn_r _ [19, 20, 35, 36, 37, 38, 39, 40, 41, 42, 43, 44, 45, 46, 47, 48, 49, 50, 51, 52, 53, 54, 55, 56, 57, 58, 59, 60, 61, 62, 63, 64, 65, 66, 67, 68, 69, 70, 71, 72] (by decide +kernel) (by decide +kernel)
set_option maxRecDepth 20000 in
theorem gX6_naming_X6_refused : GoodIn wsX6_naming (wsV RX6 115 RX6 yX6_refused wsX6_refused) := goodIn_app (goodIn_of _ (by decide +kernel)) ggX6_naming_X6_refused
set_option maxRecDepth 20000 in
theorem ggX6_naming_X6_tell : GoodIn wsX6_naming wsX6_tell := goodIn_r _ [24, 25, 1, 26, 7, 27, 28, 29, 30, 31, 32, 33, 34, 35, 36, 37, 38, 39, 40, 41, 42, 43, 44, 45, 46, 47, 48, 49, 50, 51, 52, 53, 54, 55, 56, 57, 58, 59, 60, 61, 62, 63, 64, 65, 66, 67, 68, 69, 70, 71, 72] (by decide +kernel) (by decide +kernel)
set_option maxRecDepth 20000 in
theorem gX6_naming_X6_tell : GoodIn wsX6_naming (wsV RX6 138 RX6 yX6_tell wsX6_tell) := goodIn_app (goodIn_of _ (by decide +kernel)) ggX6_naming_X6_tell
theorem dX6_naming_0 : decode cX6_naming 0 = .ok (.aload_n 0, 1) := by decide +kernel
theorem dX6_naming_1 : decode cX6_naming 1 = .ok (.iload_n 2, 1) := by decide +kernel
theorem dX6_naming_2 : decode cX6_naming 2 = .ok (.invokevirtual 135, 3) := by decide +kernel
theorem dX6_naming_5 : decode cX6_naming 5 = .ok (.ifCond .eq 18, 3) := by decide +kernel
theorem dX6_naming_8 : decode cX6_naming 8 = .ok (.iload_n 3, 1) := by decide +kernel
theorem dX6_naming_9 : decode cX6_naming 9 = .ok (.iconst 0, 1) := by decide +kernel
theorem dX6_naming_10 : decode cX6_naming 10 = .ok (.sipush 999, 3) := by decide +kernel
theorem dX6_naming_13 : decode cX6_naming 13 = .ok (.invokestatic 111, 3) := by decide +kernel
theorem dX6_naming_16 : decode cX6_naming 16 = .ok (.ifCond .eq 7, 3) := by decide +kernel
theorem dX6_naming_19 : decode cX6_naming 19 = .ok (.iconst 1, 1) := by decide +kernel
theorem dX6_naming_20 : decode cX6_naming 20 = .ok (.goto 4, 3) := by decide +kernel
theorem dX6_naming_23 : decode cX6_naming 23 = .ok (.iconst 0, 1) := by decide +kernel
theorem dX6_naming_24 : decode cX6_naming 24 = .ok (.istore 4, 2) := by decide +kernel
theorem dX6_naming_26 : decode cX6_naming 26 = .ok (.aload_n 0, 1) := by decide +kernel
theorem dX6_naming_27 : decode cX6_naming 27 = .ok (.aload_n 0, 1) := by decide +kernel
theorem dX6_naming_28 : decode cX6_naming 28 = .ok (.iload_n 1, 1) := by decide +kernel
theorem dX6_naming_29 : decode cX6_naming 29 = .ok (.invokevirtual 132, 3) := by decide +kernel
theorem dX6_naming_32 : decode cX6_naming 32 = .ok (.ifCond .ne 7, 3) := by decide +kernel
theorem dX6_naming_35 : decode cX6_naming 35 = .ok (.iconst 1, 1) := by decide +kernel
theorem dX6_naming_36 : decode cX6_naming 36 = .ok (.goto 27, 3) := by decide +kernel
theorem dX6_naming_39 : decode cX6_naming 39 = .ok (.iload 4, 2) := by decide +kernel
theorem dX6_naming_41 : decode cX6_naming 41 = .ok (.ifCond .ne 7, 3) := by decide +kernel
theorem dX6_naming_44 : decode cX6_naming 44 = .ok (.iconst 2, 1) := by decide +kernel
theorem dX6_naming_45 : decode cX6_naming 45 = .ok (.goto 18, 3) := by decide +kernel
theorem dX6_naming_48 : decode cX6_naming 48 = .ok (.aload_n 0, 1) := by decide +kernel
theorem dX6_naming_49 : decode cX6_naming 49 = .ok (.getfield 119, 3) := by decide +kernel
theorem dX6_naming_52 : decode cX6_naming 52 = .ok (.sipush 150, 3) := by decide +kernel
theorem dX6_naming_55 : decode cX6_naming 55 = .ok (.if_icmp .ne 7, 3) := by decide +kernel
theorem dX6_naming_58 : decode cX6_naming 58 = .ok (.iconst 3, 1) := by decide +kernel
theorem dX6_naming_59 : decode cX6_naming 59 = .ok (.goto 4, 3) := by decide +kernel
theorem dX6_naming_62 : decode cX6_naming 62 = .ok (.iconst 0, 1) := by decide +kernel
theorem dX6_naming_63 : decode cX6_naming 63 = .ok (.invokevirtual 115, 3) := by decide +kernel
theorem dX6_naming_66 : decode cX6_naming 66 = .ok (.ifCond .eq 5, 3) := by decide +kernel
theorem dX6_naming_69 : decode cX6_naming 69 = .ok (.iconst 0, 1) := by decide +kernel
theorem dX6_naming_70 : decode cX6_naming 70 = .ok (.ireturn, 1) := by decide +kernel
theorem dX6_naming_71 : decode cX6_naming 71 = .ok (.aload_n 0, 1) := by decide +kernel
theorem dX6_naming_72 : decode cX6_naming 72 = .ok (.iconst 2, 1) := by decide +kernel
theorem dX6_naming_73 : decode cX6_naming 73 = .ok (.iload_n 2, 1) := by decide +kernel
theorem dX6_naming_74 : decode cX6_naming 74 = .ok (.iload_n 1, 1) := by decide +kernel
theorem dX6_naming_75 : decode cX6_naming 75 = .ok (.iconst (-1), 1) := by decide +kernel
theorem dX6_naming_76 : decode cX6_naming 76 = .ok (.iconst (-1), 1) := by decide +kernel
theorem dX6_naming_77 : decode cX6_naming 77 = .ok (.iload_n 3, 1) := by decide +kernel
theorem dX6_naming_78 : decode cX6_naming 78 = .ok (.invokevirtual 138, 3) := by decide +kernel
theorem dX6_naming_81 : decode cX6_naming 81 = .ok (.ireturn, 1) := by decide +kernel
set_option maxRecDepth 20000 in
theorem ggX6_tie_X6_isPerson : GoodIn wsX6_tie wsX6_isPerson := goodIn_r _ [6, 7, 8, 9, 5, 10, 35, 36, 37, 38, 39, 40, 41, 42, 43, 44, 45, 46, 47, 48, 49, 50, 51, 52, 53, 54, 55, 56, 57, 58, 59, 60, 61, 62, 63, 64, 65, 66, 67, 68, 69, 70, 71, 72] (by decide +kernel) (by decide +kernel)
set_option maxRecDepth 20000 in
theorem gX6_tie_X6_isPerson : GoodIn wsX6_tie (wsV RX6 132 RX6 yX6_isPerson wsX6_isPerson) := goodIn_app (goodIn_of _ (by decide +kernel)) ggX6_tie_X6_isPerson
set_option maxRecDepth 20000 in
theorem ggX6_tie_X6_isDay : GoodIn wsX6_tie wsX6_isDay := goodIn_r _ [14, 15, 8, 9, 5, 10, 35, 36, 37, 38, 39, 40, 41, 42, 43, 44, 45, 46, 47, 48, 49, 50, 51, 52, 53, 54, 55, 56, 57, 58, 59, 60, 61, 62, 63, 64, 65, 66, 67, 68, 69, 70, 71, 72] (by decide +kernel) (by decide +kernel)
set_option maxRecDepth 20000 in
theorem gX6_tie_X6_isDay : GoodIn wsX6_tie (wsV RX6 135 RX6 yX6_isDay wsX6_isDay) := goodIn_app (goodIn_of _ (by decide +kernel)) ggX6_tie_X6_isDay
set_option maxRecDepth 20000 in
theorem ggX6_tie_X6_refused : GoodIn wsX6_tie wsX6_refused := goodIn_r _ [19, 20, 35, 36, 37, 38, 39, 40, 41, 42, 43, 44, 45, 46, 47, 48, 49, 50, 51, 52, 53, 54, 55, 56, 57, 58, 59, 60, 61, 62, 63, 64, 65, 66, 67, 68, 69, 70, 71, 72] (by decide +kernel) (by decide +kernel)
set_option maxRecDepth 20000 in
theorem gX6_tie_X6_refused : GoodIn wsX6_tie (wsV RX6 115 RX6 yX6_refused wsX6_refused) := goodIn_app (goodIn_of _ (by decide +kernel)) ggX6_tie_X6_refused
set_option maxRecDepth 20000 in
theorem ggX6_tie_X6_tell : GoodIn wsX6_tie wsX6_tell := goodIn_r _ [24, 25, 1, 26, 15, 27, 28, 29, 30, 31, 32, 33, 34, 35, 36, 37, 38, 39, 40, 41, 42, 43, 44, 45, 46, 47, 48, 49, 50, 51, 52, 53, 54, 55, 56, 57, 58, 59, 60, 61, 62, 63, 64, 65, 66, 67, 68, 69, 70, 71, 72] (by decide +kernel) (by decide +kernel)
set_option maxRecDepth 20000 in
theorem gX6_tie_X6_tell : GoodIn wsX6_tie (wsV RX6 138 RX6 yX6_tell wsX6_tell) := goodIn_app (goodIn_of _ (by decide +kernel)) ggX6_tie_X6_tell
theorem dX6_tie_0 : decode cX6_tie 0 = .ok (.aload_n 0, 1) := by decide +kernel
theorem dX6_tie_1 : decode cX6_tie 1 = .ok (.iload_n 2, 1) := by decide +kernel
theorem dX6_tie_2 : decode cX6_tie 2 = .ok (.invokevirtual 132, 3) := by decide +kernel
theorem dX6_tie_5 : decode cX6_tie 5 = .ok (.ifCond .eq 15, 3) := by decide +kernel
theorem dX6_tie_8 : decode cX6_tie 8 = .ok (.aload_n 0, 1) := by decide +kernel
theorem dX6_tie_9 : decode cX6_tie 9 = .ok (.iload_n 3, 1) := by decide +kernel
theorem dX6_tie_10 : decode cX6_tie 10 = .ok (.invokevirtual 132, 3) := by decide +kernel
theorem dX6_tie_13 : decode cX6_tie 13 = .ok (.ifCond .eq 7, 3) := by decide +kernel
theorem dX6_tie_16 : decode cX6_tie 16 = .ok (.iconst 1, 1) := by decide +kernel
theorem dX6_tie_17 : decode cX6_tie 17 = .ok (.goto 4, 3) := by decide +kernel
theorem dX6_tie_20 : decode cX6_tie 20 = .ok (.iconst 0, 1) := by decide +kernel
theorem dX6_tie_21 : decode cX6_tie 21 = .ok (.istore 5, 2) := by decide +kernel
theorem dX6_tie_23 : decode cX6_tie 23 = .ok (.iload_n 1, 1) := by decide +kernel
theorem dX6_tie_24 : decode cX6_tie 24 = .ok (.iconst 3, 1) := by decide +kernel
theorem dX6_tie_25 : decode cX6_tie 25 = .ok (.if_icmp .eq 14, 3) := by decide +kernel
theorem dX6_tie_28 : decode cX6_tie 28 = .ok (.iload_n 1, 1) := by decide +kernel
theorem dX6_tie_29 : decode cX6_tie 29 = .ok (.iconst 4, 1) := by decide +kernel
theorem dX6_tie_30 : decode cX6_tie 30 = .ok (.if_icmp .eq 9, 3) := by decide +kernel
theorem dX6_tie_33 : decode cX6_tie 33 = .ok (.iload_n 1, 1) := by decide +kernel
theorem dX6_tie_34 : decode cX6_tie 34 = .ok (.bipush 6, 2) := by decide +kernel
theorem dX6_tie_36 : decode cX6_tie 36 = .ok (.if_icmp .ne 21, 3) := by decide +kernel
theorem dX6_tie_39 : decode cX6_tie 39 = .ok (.aload_n 0, 1) := by decide +kernel
theorem dX6_tie_40 : decode cX6_tie 40 = .ok (.iload 4, 2) := by decide +kernel
theorem dX6_tie_42 : decode cX6_tie 42 = .ok (.invokevirtual 135, 3) := by decide +kernel
theorem dX6_tie_45 : decode cX6_tie 45 = .ok (.ifCond .eq 12, 3) := by decide +kernel
theorem dX6_tie_48 : decode cX6_tie 48 = .ok (.iload_n 2, 1) := by decide +kernel
theorem dX6_tie_49 : decode cX6_tie 49 = .ok (.iload_n 3, 1) := by decide +kernel
theorem dX6_tie_50 : decode cX6_tie 50 = .ok (.if_icmp .eq 7, 3) := by decide +kernel
theorem dX6_tie_53 : decode cX6_tie 53 = .ok (.iconst 1, 1) := by decide +kernel
theorem dX6_tie_54 : decode cX6_tie 54 = .ok (.goto 4, 3) := by decide +kernel
theorem dX6_tie_57 : decode cX6_tie 57 = .ok (.iconst 0, 1) := by decide +kernel
theorem dX6_tie_58 : decode cX6_tie 58 = .ok (.istore 6, 2) := by decide +kernel
theorem dX6_tie_60 : decode cX6_tie 60 = .ok (.aload_n 0, 1) := by decide +kernel
theorem dX6_tie_61 : decode cX6_tie 61 = .ok (.iload 5, 2) := by decide +kernel
theorem dX6_tie_63 : decode cX6_tie 63 = .ok (.ifCond .ne 7, 3) := by decide +kernel
theorem dX6_tie_66 : decode cX6_tie 66 = .ok (.iconst 1, 1) := by decide +kernel
theorem dX6_tie_67 : decode cX6_tie 67 = .ok (.goto 27, 3) := by decide +kernel
theorem dX6_tie_70 : decode cX6_tie 70 = .ok (.iload 6, 2) := by decide +kernel
theorem dX6_tie_72 : decode cX6_tie 72 = .ok (.ifCond .ne 7, 3) := by decide +kernel
theorem dX6_tie_75 : decode cX6_tie 75 = .ok (.iconst 2, 1) := by decide +kernel
theorem dX6_tie_76 : decode cX6_tie 76 = .ok (.goto 18, 3) := by decide +kernel
theorem dX6_tie_79 : decode cX6_tie 79 = .ok (.aload_n 0, 1) := by decide +kernel
theorem dX6_tie_80 : decode cX6_tie 80 = .ok (.getfield 119, 3) := by decide +kernel
theorem dX6_tie_83 : decode cX6_tie 83 = .ok (.sipush 150, 3) := by decide +kernel
theorem dX6_tie_86 : decode cX6_tie 86 = .ok (.if_icmp .ne 7, 3) := by decide +kernel
theorem dX6_tie_89 : decode cX6_tie 89 = .ok (.iconst 3, 1) := by decide +kernel
theorem dX6_tie_90 : decode cX6_tie 90 = .ok (.goto 4, 3) := by decide +kernel
theorem dX6_tie_93 : decode cX6_tie 93 = .ok (.iconst 0, 1) := by decide +kernel
theorem dX6_tie_94 : decode cX6_tie 94 = .ok (.invokevirtual 115, 3) := by decide +kernel
theorem dX6_tie_97 : decode cX6_tie 97 = .ok (.ifCond .eq 5, 3) := by decide +kernel
theorem dX6_tie_100 : decode cX6_tie 100 = .ok (.iconst 0, 1) := by decide +kernel
theorem dX6_tie_101 : decode cX6_tie 101 = .ok (.ireturn, 1) := by decide +kernel
theorem dX6_tie_102 : decode cX6_tie 102 = .ok (.aload_n 0, 1) := by decide +kernel
theorem dX6_tie_103 : decode cX6_tie 103 = .ok (.iload_n 1, 1) := by decide +kernel
theorem dX6_tie_104 : decode cX6_tie 104 = .ok (.iload 4, 2) := by decide +kernel
theorem dX6_tie_106 : decode cX6_tie 106 = .ok (.iload_n 2, 1) := by decide +kernel
theorem dX6_tie_107 : decode cX6_tie 107 = .ok (.iload_n 3, 1) := by decide +kernel
theorem dX6_tie_108 : decode cX6_tie 108 = .ok (.iconst (-1), 1) := by decide +kernel
theorem dX6_tie_109 : decode cX6_tie 109 = .ok (.iconst (-1), 1) := by decide +kernel
theorem dX6_tie_110 : decode cX6_tie 110 = .ok (.invokevirtual 138, 3) := by decide +kernel
theorem dX6_tie_113 : decode cX6_tie 113 = .ok (.ireturn, 1) := by decide +kernel
set_option maxRecDepth 20000 in
theorem ggX6_death_X6_isPerson : GoodIn wsX6_death wsX6_isPerson := goodIn_r _ [6, 7, 8, 9, 5, 10, 35, 36, 37, 38, 39, 40, 41, 42, 43, 44, 45, 46, 47, 48, 49, 50, 51, 52, 53, 54, 55, 56, 57, 58, 59, 60, 61, 62, 63, 64, 65, 66, 67, 68, 69, 70, 71, 72] (by decide +kernel) (by decide +kernel)
set_option maxRecDepth 20000 in
theorem gX6_death_X6_isPerson : GoodIn wsX6_death (wsV RX6 132 RX6 yX6_isPerson wsX6_isPerson) := goodIn_app (goodIn_of _ (by decide +kernel)) ggX6_death_X6_isPerson
set_option maxRecDepth 20000 in
theorem ggX6_death_X6_isDay : GoodIn wsX6_death wsX6_isDay := goodIn_r _ [14, 15, 8, 9, 5, 10, 35, 36, 37, 38, 39, 40, 41, 42, 43, 44, 45, 46, 47, 48, 49, 50, 51, 52, 53, 54, 55, 56, 57, 58, 59, 60, 61, 62, 63, 64, 65, 66, 67, 68, 69, 70, 71, 72] (by decide +kernel) (by decide +kernel)
set_option maxRecDepth 20000 in
theorem gX6_death_X6_isDay : GoodIn wsX6_death (wsV RX6 135 RX6 yX6_isDay wsX6_isDay) := goodIn_app (goodIn_of _ (by decide +kernel)) ggX6_death_X6_isDay
set_option maxRecDepth 20000 in
theorem ggX6_death_X6_refused : GoodIn wsX6_death wsX6_refused := goodIn_r _ [19, 20, 35, 36, 37, 38, 39, 40, 41, 42, 43, 44, 45, 46, 47, 48, 49, 50, 51, 52, 53, 54, 55, 56, 57, 58, 59, 60, 61, 62, 63, 64, 65, 66, 67, 68, 69, 70, 71, 72] (by decide +kernel) (by decide +kernel)
set_option maxRecDepth 20000 in
theorem gX6_death_X6_refused : GoodIn wsX6_death (wsV RX6 115 RX6 yX6_refused wsX6_refused) := goodIn_app (goodIn_of _ (by decide +kernel)) ggX6_death_X6_refused
set_option maxRecDepth 20000 in
theorem ggX6_death_X6_tell : GoodIn wsX6_death wsX6_tell := goodIn_r _ [24, 25, 1, 26, 15, 27, 28, 29, 30, 31, 32, 33, 34, 35, 36, 37, 38, 39, 40, 41, 42, 43, 44, 45, 46, 47, 48, 49, 50, 51, 52, 53, 54, 55, 56, 57, 58, 59, 60, 61, 62, 63, 64, 65, 66, 67, 68, 69, 70, 71, 72] (by decide +kernel) (by decide +kernel)
set_option maxRecDepth 20000 in
theorem gX6_death_X6_tell : GoodIn wsX6_death (wsV RX6 138 RX6 yX6_tell wsX6_tell) := goodIn_app (goodIn_of _ (by decide +kernel)) ggX6_death_X6_tell
theorem dX6_death_0 : decode cX6_death 0 = .ok (.aload_n 0, 1) := by decide +kernel
theorem dX6_death_1 : decode cX6_death 1 = .ok (.aload_n 0, 1) := by decide +kernel
theorem dX6_death_2 : decode cX6_death 2 = .ok (.iload_n 1, 1) := by decide +kernel
theorem dX6_death_3 : decode cX6_death 3 = .ok (.invokevirtual 132, 3) := by decide +kernel
theorem dX6_death_6 : decode cX6_death 6 = .ok (.ifCond .ne 7, 3) := by decide +kernel
theorem dX6_death_9 : decode cX6_death 9 = .ok (.iconst 1, 1) := by decide +kernel
theorem dX6_death_10 : decode cX6_death 10 = .ok (.goto 30, 3) := by decide +kernel
theorem dX6_death_13 : decode cX6_death 13 = .ok (.aload_n 0, 1) := by decide +kernel
theorem dX6_death_14 : decode cX6_death 14 = .ok (.iload_n 2, 1) := by decide +kernel
theorem dX6_death_15 : decode cX6_death 15 = .ok (.invokevirtual 135, 3) := by decide +kernel
theorem dX6_death_18 : decode cX6_death 18 = .ok (.ifCond .ne 7, 3) := by decide +kernel
theorem dX6_death_21 : decode cX6_death 21 = .ok (.iconst 2, 1) := by decide +kernel
theorem dX6_death_22 : decode cX6_death 22 = .ok (.goto 18, 3) := by decide +kernel
theorem dX6_death_25 : decode cX6_death 25 = .ok (.aload_n 0, 1) := by decide +kernel
theorem dX6_death_26 : decode cX6_death 26 = .ok (.getfield 119, 3) := by decide +kernel
theorem dX6_death_29 : decode cX6_death 29 = .ok (.sipush 150, 3) := by decide +kernel
theorem dX6_death_32 : decode cX6_death 32 = .ok (.if_icmp .ne 7, 3) := by decide +kernel
theorem dX6_death_35 : decode cX6_death 35 = .ok (.iconst 3, 1) := by decide +kernel
theorem dX6_death_36 : decode cX6_death 36 = .ok (.goto 4, 3) := by decide +kernel
theorem dX6_death_39 : decode cX6_death 39 = .ok (.iconst 0, 1) := by decide +kernel
theorem dX6_death_40 : decode cX6_death 40 = .ok (.invokevirtual 115, 3) := by decide +kernel
theorem dX6_death_43 : decode cX6_death 43 = .ok (.ifCond .eq 5, 3) := by decide +kernel
theorem dX6_death_46 : decode cX6_death 46 = .ok (.iconst 0, 1) := by decide +kernel
theorem dX6_death_47 : decode cX6_death 47 = .ok (.ireturn, 1) := by decide +kernel
theorem dX6_death_48 : decode cX6_death 48 = .ok (.aload_n 0, 1) := by decide +kernel
theorem dX6_death_49 : decode cX6_death 49 = .ok (.iconst 5, 1) := by decide +kernel
theorem dX6_death_50 : decode cX6_death 50 = .ok (.iload_n 2, 1) := by decide +kernel
theorem dX6_death_51 : decode cX6_death 51 = .ok (.iload_n 1, 1) := by decide +kernel
theorem dX6_death_52 : decode cX6_death 52 = .ok (.iconst (-1), 1) := by decide +kernel
theorem dX6_death_53 : decode cX6_death 53 = .ok (.iconst (-1), 1) := by decide +kernel
theorem dX6_death_54 : decode cX6_death 54 = .ok (.iconst (-1), 1) := by decide +kernel
theorem dX6_death_55 : decode cX6_death 55 = .ok (.invokevirtual 138, 3) := by decide +kernel
theorem dX6_death_58 : decode cX6_death 58 = .ok (.ireturn, 1) := by decide +kernel
set_option maxRecDepth 20000 in
theorem ggX6_join_X6_isPerson : GoodIn wsX6_join wsX6_isPerson := goodIn_r _ [6, 7, 8, 9, 5, 10, 31, 32, 33, 34, 35, 36, 37, 38, 39, 40, 41, 42, 43, 44, 45, 46, 47, 48, 49, 50, 51, 52, 53, 54, 55, 56, 57, 58, 59, 60, 61, 62, 63, 64, 65, 66, 67, 68] (by decide +kernel) (by decide +kernel)
set_option maxRecDepth 20000 in
theorem gX6_join_X6_isPerson : GoodIn wsX6_join (wsV RX6 132 RX6 yX6_isPerson wsX6_isPerson) := goodIn_app (goodIn_of _ (by decide +kernel)) ggX6_join_X6_isPerson
set_option maxRecDepth 20000 in
theorem ggX6_join_X6_refused : GoodIn wsX6_join wsX6_refused := goodIn_r _ [14, 15, 31, 32, 33, 34, 35, 36, 37, 38, 39, 40, 41, 42, 43, 44, 45, 46, 47, 48, 49, 50, 51, 52, 53, 54, 55, 56, 57, 58, 59, 60, 61, 62, 63, 64, 65, 66, 67, 68] (by decide +kernel) (by decide +kernel)
set_option maxRecDepth 20000 in
theorem gX6_join_X6_refused : GoodIn wsX6_join (wsV RX6 115 RX6 yX6_refused wsX6_refused) := goodIn_app (goodIn_of _ (by decide +kernel)) ggX6_join_X6_refused
set_option maxRecDepth 20000 in
theorem ggX6_join_X6_tell : GoodIn wsX6_join wsX6_tell := goodIn_r _ [19, 20, 1, 21, 22, 23, 24, 25, 26, 27, 28, 29, 30, 31, 32, 33, 34, 35, 36, 37, 38, 39, 40, 41, 42, 43, 44, 45, 46, 47, 48, 49, 50, 51, 52, 53, 54, 55, 56, 57, 58, 59, 60, 61, 62, 63, 64, 65, 66, 67, 68] (by decide +kernel) (by decide +kernel)
set_option maxRecDepth 20000 in
theorem gX6_join_X6_tell : GoodIn wsX6_join (wsV RX6 138 RX6 yX6_tell wsX6_tell) := goodIn_app (goodIn_of _ (by decide +kernel)) ggX6_join_X6_tell
theorem dX6_join_0 : decode cX6_join 0 = .ok (.aload_n 0, 1) := by decide +kernel
theorem dX6_join_1 : decode cX6_join 1 = .ok (.iload_n 1, 1) := by decide +kernel
theorem dX6_join_2 : decode cX6_join 2 = .ok (.invokevirtual 132, 3) := by decide +kernel
theorem dX6_join_5 : decode cX6_join 5 = .ok (.ifCond .eq 15, 3) := by decide +kernel
theorem dX6_join_8 : decode cX6_join 8 = .ok (.aload_n 0, 1) := by decide +kernel
theorem dX6_join_9 : decode cX6_join 9 = .ok (.iload_n 2, 1) := by decide +kernel
theorem dX6_join_10 : decode cX6_join 10 = .ok (.invokevirtual 132, 3) := by decide +kernel
theorem dX6_join_13 : decode cX6_join 13 = .ok (.ifCond .eq 7, 3) := by decide +kernel
theorem dX6_join_16 : decode cX6_join 16 = .ok (.iconst 1, 1) := by decide +kernel
theorem dX6_join_17 : decode cX6_join 17 = .ok (.goto 4, 3) := by decide +kernel
theorem dX6_join_20 : decode cX6_join 20 = .ok (.iconst 0, 1) := by decide +kernel
theorem dX6_join_21 : decode cX6_join 21 = .ok (.istore_n 3, 1) := by decide +kernel
theorem dX6_join_22 : decode cX6_join 22 = .ok (.aload_n 0, 1) := by decide +kernel
theorem dX6_join_23 : decode cX6_join 23 = .ok (.iload_n 3, 1) := by decide +kernel
theorem dX6_join_24 : decode cX6_join 24 = .ok (.ifCond .ne 7, 3) := by decide +kernel
theorem dX6_join_27 : decode cX6_join 27 = .ok (.iconst 1, 1) := by decide +kernel
theorem dX6_join_28 : decode cX6_join 28 = .ok (.goto 27, 3) := by decide +kernel
theorem dX6_join_31 : decode cX6_join 31 = .ok (.iload_n 2, 1) := by decide +kernel
theorem dX6_join_32 : decode cX6_join 32 = .ok (.iload_n 1, 1) := by decide +kernel
theorem dX6_join_33 : decode cX6_join 33 = .ok (.if_icmp .gt 7, 3) := by decide +kernel
theorem dX6_join_36 : decode cX6_join 36 = .ok (.iconst 2, 1) := by decide +kernel
theorem dX6_join_37 : decode cX6_join 37 = .ok (.goto 18, 3) := by decide +kernel
theorem dX6_join_40 : decode cX6_join 40 = .ok (.aload_n 0, 1) := by decide +kernel
theorem dX6_join_41 : decode cX6_join 41 = .ok (.getfield 119, 3) := by decide +kernel
theorem dX6_join_44 : decode cX6_join 44 = .ok (.sipush 150, 3) := by decide +kernel
theorem dX6_join_47 : decode cX6_join 47 = .ok (.if_icmp .ne 7, 3) := by decide +kernel
theorem dX6_join_50 : decode cX6_join 50 = .ok (.iconst 3, 1) := by decide +kernel
theorem dX6_join_51 : decode cX6_join 51 = .ok (.goto 4, 3) := by decide +kernel
theorem dX6_join_54 : decode cX6_join 54 = .ok (.iconst 0, 1) := by decide +kernel
theorem dX6_join_55 : decode cX6_join 55 = .ok (.invokevirtual 115, 3) := by decide +kernel
theorem dX6_join_58 : decode cX6_join 58 = .ok (.ifCond .eq 5, 3) := by decide +kernel
theorem dX6_join_61 : decode cX6_join 61 = .ok (.iconst 0, 1) := by decide +kernel
theorem dX6_join_62 : decode cX6_join 62 = .ok (.ireturn, 1) := by decide +kernel
theorem dX6_join_63 : decode cX6_join 63 = .ok (.aload_n 0, 1) := by decide +kernel
theorem dX6_join_64 : decode cX6_join 64 = .ok (.bipush 7, 2) := by decide +kernel
theorem dX6_join_66 : decode cX6_join 66 = .ok (.iconst (-1), 1) := by decide +kernel
theorem dX6_join_67 : decode cX6_join 67 = .ok (.iload_n 1, 1) := by decide +kernel
theorem dX6_join_68 : decode cX6_join 68 = .ok (.iload_n 2, 1) := by decide +kernel
theorem dX6_join_69 : decode cX6_join 69 = .ok (.iconst (-1), 1) := by decide +kernel
theorem dX6_join_70 : decode cX6_join 70 = .ok (.iconst (-1), 1) := by decide +kernel
theorem dX6_join_71 : decode cX6_join 71 = .ok (.invokevirtual 138, 3) := by decide +kernel
theorem dX6_join_74 : decode cX6_join 74 = .ok (.ireturn, 1) := by decide +kernel
set_option maxRecDepth 20000 in
theorem ggX6_strike_X6_within : GoodIn wsX6_strike wsX6_within := goodIn_r _ [7] (by decide +kernel) (by decide +kernel)
set_option maxRecDepth 20000 in
theorem gX6_strike_X6_within : GoodIn wsX6_strike (va_wsS RX6 111 yX6_within wsX6_within) := goodIn_app (goodIn_of _ (by decide +kernel)) ggX6_strike_X6_within
set_option maxRecDepth 20000 in
theorem ggX6_strike_X6_refused : GoodIn wsX6_strike wsX6_refused := goodIn_r _ [11, 12, 26, 27, 28, 29, 30, 31, 32, 33, 34, 35, 36, 37, 38, 39, 40, 41, 42, 43, 44, 45, 46, 47, 48, 49, 50, 51, 52, 53, 54, 55, 56, 57, 58, 59, 60, 61, 62, 63] (by decide +kernel) (by decide +kernel)
set_option maxRecDepth 20000 in
theorem gX6_strike_X6_refused : GoodIn wsX6_strike (wsV RX6 115 RX6 yX6_refused wsX6_refused) := goodIn_app (goodIn_of _ (by decide +kernel)) ggX6_strike_X6_refused
set_option maxRecDepth 20000 in
theorem ggX6_strike_X6_tell : GoodIn wsX6_strike wsX6_tell := goodIn_r _ [16, 2, 1, 17, 18, 19, 20, 21, 22, 23, 3, 24, 25, 26, 27, 28, 29, 30, 31, 32, 33, 34, 35, 36, 37, 38, 39, 40, 41, 42, 43, 44, 45, 46, 47, 48, 49, 50, 51, 52, 53, 54, 55, 56, 57, 58, 59, 60, 61, 62, 63] (by decide +kernel) (by decide +kernel)
set_option maxRecDepth 20000 in
theorem gX6_strike_X6_tell : GoodIn wsX6_strike (wsV RX6 138 RX6 yX6_tell wsX6_tell) := goodIn_app (goodIn_of _ (by decide +kernel)) ggX6_strike_X6_tell
theorem dX6_strike_0 : decode cX6_strike 0 = .ok (.iload_n 1, 1) := by decide +kernel
theorem dX6_strike_1 : decode cX6_strike 1 = .ok (.iconst 0, 1) := by decide +kernel
theorem dX6_strike_2 : decode cX6_strike 2 = .ok (.aload_n 0, 1) := by decide +kernel
theorem dX6_strike_3 : decode cX6_strike 3 = .ok (.getfield 119, 3) := by decide +kernel
theorem dX6_strike_6 : decode cX6_strike 6 = .ok (.iconst 1, 1) := by decide +kernel
theorem dX6_strike_7 : decode cX6_strike 7 = .ok (.isub, 1) := by decide +kernel
theorem dX6_strike_8 : decode cX6_strike 8 = .ok (.invokestatic 111, 3) := by decide +kernel
theorem dX6_strike_11 : decode cX6_strike 11 = .ok (.istore_n 2, 1) := by decide +kernel
theorem dX6_strike_12 : decode cX6_strike 12 = .ok (.aload_n 0, 1) := by decide +kernel
theorem dX6_strike_13 : decode cX6_strike 13 = .ok (.iload_n 2, 1) := by decide +kernel
theorem dX6_strike_14 : decode cX6_strike 14 = .ok (.ifCond .ne 7, 3) := by decide +kernel
theorem dX6_strike_17 : decode cX6_strike 17 = .ok (.iconst 1, 1) := by decide +kernel
theorem dX6_strike_18 : decode cX6_strike 18 = .ok (.goto 39, 3) := by decide +kernel
theorem dX6_strike_21 : decode cX6_strike 21 = .ok (.aload_n 0, 1) := by decide +kernel
theorem dX6_strike_22 : decode cX6_strike 22 = .ok (.getfield 13, 3) := by decide +kernel
theorem dX6_strike_25 : decode cX6_strike 25 = .ok (.iload_n 1, 1) := by decide +kernel
theorem dX6_strike_26 : decode cX6_strike 26 = .ok (.iaload, 1) := by decide +kernel
theorem dX6_strike_27 : decode cX6_strike 27 = .ok (.bipush 8, 2) := by decide +kernel
theorem dX6_strike_29 : decode cX6_strike 29 = .ok (.if_icmp .eq 23, 3) := by decide +kernel
theorem dX6_strike_32 : decode cX6_strike 32 = .ok (.aload_n 0, 1) := by decide +kernel
theorem dX6_strike_33 : decode cX6_strike 33 = .ok (.getfield 35, 3) := by decide +kernel
theorem dX6_strike_36 : decode cX6_strike 36 = .ok (.iload_n 1, 1) := by decide +kernel
theorem dX6_strike_37 : decode cX6_strike 37 = .ok (.iaload, 1) := by decide +kernel
theorem dX6_strike_38 : decode cX6_strike 38 = .ok (.iconst (-1), 1) := by decide +kernel
theorem dX6_strike_39 : decode cX6_strike 39 = .ok (.if_icmp .ne 13, 3) := by decide +kernel
theorem dX6_strike_42 : decode cX6_strike 42 = .ok (.aload_n 0, 1) := by decide +kernel
theorem dX6_strike_43 : decode cX6_strike 43 = .ok (.getfield 119, 3) := by decide +kernel
theorem dX6_strike_46 : decode cX6_strike 46 = .ok (.sipush 150, 3) := by decide +kernel
theorem dX6_strike_49 : decode cX6_strike 49 = .ok (.if_icmp .ne 7, 3) := by decide +kernel
theorem dX6_strike_52 : decode cX6_strike 52 = .ok (.iconst 2, 1) := by decide +kernel
theorem dX6_strike_53 : decode cX6_strike 53 = .ok (.goto 4, 3) := by decide +kernel
theorem dX6_strike_56 : decode cX6_strike 56 = .ok (.iconst 0, 1) := by decide +kernel
theorem dX6_strike_57 : decode cX6_strike 57 = .ok (.invokevirtual 115, 3) := by decide +kernel
theorem dX6_strike_60 : decode cX6_strike 60 = .ok (.ifCond .eq 5, 3) := by decide +kernel
theorem dX6_strike_63 : decode cX6_strike 63 = .ok (.iconst 0, 1) := by decide +kernel
theorem dX6_strike_64 : decode cX6_strike 64 = .ok (.ireturn, 1) := by decide +kernel
theorem dX6_strike_65 : decode cX6_strike 65 = .ok (.aload_n 0, 1) := by decide +kernel
theorem dX6_strike_66 : decode cX6_strike 66 = .ok (.getfield 35, 3) := by decide +kernel
theorem dX6_strike_69 : decode cX6_strike 69 = .ok (.iload_n 1, 1) := by decide +kernel
theorem dX6_strike_70 : decode cX6_strike 70 = .ok (.aload_n 0, 1) := by decide +kernel
theorem dX6_strike_71 : decode cX6_strike 71 = .ok (.getfield 119, 3) := by decide +kernel
theorem dX6_strike_74 : decode cX6_strike 74 = .ok (.iastore, 1) := by decide +kernel
theorem dX6_strike_75 : decode cX6_strike 75 = .ok (.aload_n 0, 1) := by decide +kernel
theorem dX6_strike_76 : decode cX6_strike 76 = .ok (.bipush 8, 2) := by decide +kernel
theorem dX6_strike_78 : decode cX6_strike 78 = .ok (.iconst (-1), 1) := by decide +kernel
theorem dX6_strike_79 : decode cX6_strike 79 = .ok (.iconst (-1), 1) := by decide +kernel
theorem dX6_strike_80 : decode cX6_strike 80 = .ok (.iload_n 1, 1) := by decide +kernel
theorem dX6_strike_81 : decode cX6_strike 81 = .ok (.iconst (-1), 1) := by decide +kernel
theorem dX6_strike_82 : decode cX6_strike 82 = .ok (.iconst (-1), 1) := by decide +kernel
theorem dX6_strike_83 : decode cX6_strike 83 = .ok (.invokevirtual 138, 3) := by decide +kernel
theorem dX6_strike_86 : decode cX6_strike 86 = .ok (.ireturn, 1) := by decide +kernel
theorem dX6_isKnown_0 : decode cX6_isKnown 0 = .ok (.aload_n 0, 1) := by decide +kernel
theorem dX6_isKnown_1 : decode cX6_isKnown 1 = .ok (.getfield 17, 3) := by decide +kernel
theorem dX6_isKnown_4 : decode cX6_isKnown 4 = .ok (.iload_n 1, 1) := by decide +kernel
theorem dX6_isKnown_5 : decode cX6_isKnown 5 = .ok (.iaload, 1) := by decide +kernel
theorem dX6_isKnown_6 : decode cX6_isKnown 6 = .ok (.iload_n 2, 1) := by decide +kernel
theorem dX6_isKnown_7 : decode cX6_isKnown 7 = .ok (.if_icmp .gt 32, 3) := by decide +kernel
theorem dX6_isKnown_10 : decode cX6_isKnown 10 = .ok (.aload_n 0, 1) := by decide +kernel
theorem dX6_isKnown_11 : decode cX6_isKnown 11 = .ok (.getfield 35, 3) := by decide +kernel
theorem dX6_isKnown_14 : decode cX6_isKnown 14 = .ok (.iload_n 1, 1) := by decide +kernel
theorem dX6_isKnown_15 : decode cX6_isKnown 15 = .ok (.iaload, 1) := by decide +kernel
theorem dX6_isKnown_16 : decode cX6_isKnown 16 = .ok (.iconst (-1), 1) := by decide +kernel
theorem dX6_isKnown_17 : decode cX6_isKnown 17 = .ok (.if_icmp .eq 18, 3) := by decide +kernel
theorem dX6_isKnown_20 : decode cX6_isKnown 20 = .ok (.aload_n 0, 1) := by decide +kernel
theorem dX6_isKnown_21 : decode cX6_isKnown 21 = .ok (.getfield 17, 3) := by decide +kernel
theorem dX6_isKnown_24 : decode cX6_isKnown 24 = .ok (.aload_n 0, 1) := by decide +kernel
theorem dX6_isKnown_25 : decode cX6_isKnown 25 = .ok (.getfield 35, 3) := by decide +kernel
theorem dX6_isKnown_28 : decode cX6_isKnown 28 = .ok (.iload_n 1, 1) := by decide +kernel
theorem dX6_isKnown_29 : decode cX6_isKnown 29 = .ok (.iaload, 1) := by decide +kernel
theorem dX6_isKnown_30 : decode cX6_isKnown 30 = .ok (.iaload, 1) := by decide +kernel
theorem dX6_isKnown_31 : decode cX6_isKnown 31 = .ok (.iload_n 2, 1) := by decide +kernel
theorem dX6_isKnown_32 : decode cX6_isKnown 32 = .ok (.if_icmp .le 7, 3) := by decide +kernel
theorem dX6_isKnown_35 : decode cX6_isKnown 35 = .ok (.iconst 1, 1) := by decide +kernel
theorem dX6_isKnown_36 : decode cX6_isKnown 36 = .ok (.goto 4, 3) := by decide +kernel
theorem dX6_isKnown_39 : decode cX6_isKnown 39 = .ok (.iconst 0, 1) := by decide +kernel
theorem dX6_isKnown_40 : decode cX6_isKnown 40 = .ok (.ireturn, 1) := by decide +kernel
theorem dX6_leadsTo_0 : decode cX6_leadsTo 0 = .ok (.iload_n 1, 1) := by decide +kernel
theorem dX6_leadsTo_1 : decode cX6_leadsTo 1 = .ok (.istore_n 2, 1) := by decide +kernel
theorem dX6_leadsTo_2 : decode cX6_leadsTo 2 = .ok (.iload_n 2, 1) := by decide +kernel
theorem dX6_leadsTo_3 : decode cX6_leadsTo 3 = .ok (.iconst (-1), 1) := by decide +kernel
theorem dX6_leadsTo_4 : decode cX6_leadsTo 4 = .ok (.if_icmp .eq 23, 3) := by decide +kernel
theorem dX6_leadsTo_7 : decode cX6_leadsTo 7 = .ok (.aload_n 0, 1) := by decide +kernel
theorem dX6_leadsTo_8 : decode cX6_leadsTo 8 = .ok (.getfield 50, 3) := by decide +kernel
theorem dX6_leadsTo_11 : decode cX6_leadsTo 11 = .ok (.iload_n 2, 1) := by decide +kernel
theorem dX6_leadsTo_12 : decode cX6_leadsTo 12 = .ok (.iaload, 1) := by decide +kernel
theorem dX6_leadsTo_13 : decode cX6_leadsTo 13 = .ok (.iconst (-1), 1) := by decide +kernel
theorem dX6_leadsTo_14 : decode cX6_leadsTo 14 = .ok (.if_icmp .eq 13, 3) := by decide +kernel
theorem dX6_leadsTo_17 : decode cX6_leadsTo 17 = .ok (.aload_n 0, 1) := by decide +kernel
theorem dX6_leadsTo_18 : decode cX6_leadsTo 18 = .ok (.getfield 50, 3) := by decide +kernel
theorem dX6_leadsTo_21 : decode cX6_leadsTo 21 = .ok (.iload_n 2, 1) := by decide +kernel
theorem dX6_leadsTo_22 : decode cX6_leadsTo 22 = .ok (.iaload, 1) := by decide +kernel
theorem dX6_leadsTo_23 : decode cX6_leadsTo 23 = .ok (.istore_n 2, 1) := by decide +kernel
theorem dX6_leadsTo_24 : decode cX6_leadsTo 24 = .ok (.goto (-22), 3) := by decide +kernel
theorem dX6_leadsTo_27 : decode cX6_leadsTo 27 = .ok (.iload_n 2, 1) := by decide +kernel
theorem dX6_leadsTo_28 : decode cX6_leadsTo 28 = .ok (.ireturn, 1) := by decide +kernel
set_option maxRecDepth 20000 in
theorem ggX6_goThrough_X6_isKnown : GoodIn wsX6_goThrough wsX6_isKnown := goodIn_r _ [22, 23, 24, 43, 44, 45, 46, 47, 48, 49, 50, 51, 52, 53, 54, 55, 56, 57, 58, 59, 60, 61, 62, 63, 64, 65, 66, 67, 68, 69, 70, 71, 72, 73, 74, 75, 76, 77, 78, 79, 80] (by decide +kernel) (by decide +kernel)
set_option maxRecDepth 20000 in
theorem gX6_goThrough_X6_isKnown : GoodIn wsX6_goThrough (wsV RX6 145 RX6 yX6_isKnown wsX6_isKnown) := goodIn_app (goodIn_of _ (by decide +kernel)) ggX6_goThrough_X6_isKnown
set_option maxRecDepth 20000 in
theorem ggX6_goThrough_X6_leadsTo : GoodIn wsX6_goThrough wsX6_leadsTo := goodIn_r _ [28, 1, 43, 44, 45, 46, 47, 48, 49, 50, 51, 52, 53, 54, 55, 56, 57, 58, 59, 60, 61, 62, 63, 64, 65, 66, 67, 68, 69, 70, 71, 72, 73, 74, 75, 76, 77, 78, 79, 80] (by decide +kernel) (by decide +kernel)
set_option maxRecDepth 20000 in
theorem gX6_goThrough_X6_leadsTo : GoodIn wsX6_goThrough (wsV RX6 149 RX6 yX6_leadsTo wsX6_leadsTo) := goodIn_app (goodIn_of _ (by decide +kernel)) ggX6_goThrough_X6_leadsTo
set_option maxRecDepth 20000 in
theorem ggX6_goThrough_X6_count : GoodIn wsX6_goThrough wsX6_count := goodIn_r _ [32, 11, 2, 3, 33, 4, 34, 7, 16, 6, 8, 35, 36, 37, 21, 38, 5, 39, 40, 41, 42, 9, 43, 44, 45, 46, 47, 48, 49, 50, 51, 52, 53, 54, 55, 56, 57, 58, 59, 60, 61, 62, 63, 64, 65, 66, 67, 68, 69, 70, 71, 72, 73, 74, 75, 76, 77, 78, 79, 80] (by decide +kernel) (by decide +kernel)
set_option maxRecDepth 20000 in
theorem gX6_goThrough_X6_count : GoodIn wsX6_goThrough (wsV RX6 152 RX6 yX6_count wsX6_count) := goodIn_app (goodIn_of _ (by decide +kernel)) ggX6_goThrough_X6_count
theorem dX6_goThrough_0 : decode cX6_goThrough 0 = .ok (.iconst 0, 1) := by decide +kernel
theorem dX6_goThrough_1 : decode cX6_goThrough 1 = .ok (.istore_n 3, 1) := by decide +kernel
theorem dX6_goThrough_2 : decode cX6_goThrough 2 = .ok (.iload_n 3, 1) := by decide +kernel
theorem dX6_goThrough_3 : decode cX6_goThrough 3 = .ok (.bipush 24, 2) := by decide +kernel
theorem dX6_goThrough_5 : decode cX6_goThrough 5 = .ok (.if_icmp .ge 72, 3) := by decide +kernel
theorem dX6_goThrough_8 : decode cX6_goThrough 8 = .ok (.aload_n 0, 1) := by decide +kernel
theorem dX6_goThrough_9 : decode cX6_goThrough 9 = .ok (.getfield 50, 3) := by decide +kernel
theorem dX6_goThrough_12 : decode cX6_goThrough 12 = .ok (.iload_n 3, 1) := by decide +kernel
theorem dX6_goThrough_13 : decode cX6_goThrough 13 = .ok (.iconst (-1), 1) := by decide +kernel
theorem dX6_goThrough_14 : decode cX6_goThrough 14 = .ok (.iastore, 1) := by decide +kernel
theorem dX6_goThrough_15 : decode cX6_goThrough 15 = .ok (.aload_n 0, 1) := by decide +kernel
theorem dX6_goThrough_16 : decode cX6_goThrough 16 = .ok (.getfield 53, 3) := by decide +kernel
theorem dX6_goThrough_19 : decode cX6_goThrough 19 = .ok (.iload_n 3, 1) := by decide +kernel
theorem dX6_goThrough_20 : decode cX6_goThrough 20 = .ok (.iconst 0, 1) := by decide +kernel
theorem dX6_goThrough_21 : decode cX6_goThrough 21 = .ok (.iastore, 1) := by decide +kernel
theorem dX6_goThrough_22 : decode cX6_goThrough 22 = .ok (.aload_n 0, 1) := by decide +kernel
theorem dX6_goThrough_23 : decode cX6_goThrough 23 = .ok (.getfield 56, 3) := by decide +kernel
theorem dX6_goThrough_26 : decode cX6_goThrough 26 = .ok (.iload_n 3, 1) := by decide +kernel
theorem dX6_goThrough_27 : decode cX6_goThrough 27 = .ok (.iconst (-1), 1) := by decide +kernel
theorem dX6_goThrough_28 : decode cX6_goThrough 28 = .ok (.iastore, 1) := by decide +kernel
theorem dX6_goThrough_29 : decode cX6_goThrough 29 = .ok (.aload_n 0, 1) := by decide +kernel
theorem dX6_goThrough_30 : decode cX6_goThrough 30 = .ok (.getfield 59, 3) := by decide +kernel
theorem dX6_goThrough_33 : decode cX6_goThrough 33 = .ok (.iload_n 3, 1) := by decide +kernel
theorem dX6_goThrough_34 : decode cX6_goThrough 34 = .ok (.iconst (-1), 1) := by decide +kernel
theorem dX6_goThrough_35 : decode cX6_goThrough 35 = .ok (.iastore, 1) := by decide +kernel
theorem dX6_goThrough_36 : decode cX6_goThrough 36 = .ok (.aload_n 0, 1) := by decide +kernel
theorem dX6_goThrough_37 : decode cX6_goThrough 37 = .ok (.getfield 62, 3) := by decide +kernel
theorem dX6_goThrough_40 : decode cX6_goThrough 40 = .ok (.iload_n 3, 1) := by decide +kernel
theorem dX6_goThrough_41 : decode cX6_goThrough 41 = .ok (.iconst (-1), 1) := by decide +kernel
theorem dX6_goThrough_42 : decode cX6_goThrough 42 = .ok (.iastore, 1) := by decide +kernel
theorem dX6_goThrough_43 : decode cX6_goThrough 43 = .ok (.aload_n 0, 1) := by decide +kernel
theorem dX6_goThrough_44 : decode cX6_goThrough 44 = .ok (.getfield 65, 3) := by decide +kernel
theorem dX6_goThrough_47 : decode cX6_goThrough 47 = .ok (.iload_n 3, 1) := by decide +kernel
theorem dX6_goThrough_48 : decode cX6_goThrough 48 = .ok (.iconst (-1), 1) := by decide +kernel
theorem dX6_goThrough_49 : decode cX6_goThrough 49 = .ok (.iastore, 1) := by decide +kernel
theorem dX6_goThrough_50 : decode cX6_goThrough 50 = .ok (.aload_n 0, 1) := by decide +kernel
theorem dX6_goThrough_51 : decode cX6_goThrough 51 = .ok (.getfield 68, 3) := by decide +kernel
theorem dX6_goThrough_54 : decode cX6_goThrough 54 = .ok (.iload_n 3, 1) := by decide +kernel
theorem dX6_goThrough_55 : decode cX6_goThrough 55 = .ok (.iconst (-1), 1) := by decide +kernel
theorem dX6_goThrough_56 : decode cX6_goThrough 56 = .ok (.iastore, 1) := by decide +kernel
theorem dX6_goThrough_57 : decode cX6_goThrough 57 = .ok (.aload_n 0, 1) := by decide +kernel
theorem dX6_goThrough_58 : decode cX6_goThrough 58 = .ok (.getfield 71, 3) := by decide +kernel
theorem dX6_goThrough_61 : decode cX6_goThrough 61 = .ok (.iload_n 3, 1) := by decide +kernel
theorem dX6_goThrough_62 : decode cX6_goThrough 62 = .ok (.iconst (-1), 1) := by decide +kernel
theorem dX6_goThrough_63 : decode cX6_goThrough 63 = .ok (.iastore, 1) := by decide +kernel
theorem dX6_goThrough_64 : decode cX6_goThrough 64 = .ok (.aload_n 0, 1) := by decide +kernel
theorem dX6_goThrough_65 : decode cX6_goThrough 65 = .ok (.getfield 74, 3) := by decide +kernel
theorem dX6_goThrough_68 : decode cX6_goThrough 68 = .ok (.iload_n 3, 1) := by decide +kernel
theorem dX6_goThrough_69 : decode cX6_goThrough 69 = .ok (.iconst 0, 1) := by decide +kernel
theorem dX6_goThrough_70 : decode cX6_goThrough 70 = .ok (.bastore, 1) := by decide +kernel
theorem dX6_goThrough_71 : decode cX6_goThrough 71 = .ok (.iinc 3 1, 3) := by decide +kernel
theorem dX6_goThrough_74 : decode cX6_goThrough 74 = .ok (.goto (-72), 3) := by decide +kernel
theorem dX6_goThrough_77 : decode cX6_goThrough 77 = .ok (.iconst 0, 1) := by decide +kernel
theorem dX6_goThrough_78 : decode cX6_goThrough 78 = .ok (.istore_n 3, 1) := by decide +kernel
theorem dX6_goThrough_79 : decode cX6_goThrough 79 = .ok (.iload_n 3, 1) := by decide +kernel
theorem dX6_goThrough_80 : decode cX6_goThrough 80 = .ok (.aload_n 0, 1) := by decide +kernel
theorem dX6_goThrough_81 : decode cX6_goThrough 81 = .ok (.getfield 119, 3) := by decide +kernel
theorem dX6_goThrough_84 : decode cX6_goThrough 84 = .ok (.if_icmp .ge 46, 3) := by decide +kernel
theorem dX6_goThrough_87 : decode cX6_goThrough 87 = .ok (.aload_n 0, 1) := by decide +kernel
theorem dX6_goThrough_88 : decode cX6_goThrough 88 = .ok (.getfield 13, 3) := by decide +kernel
theorem dX6_goThrough_91 : decode cX6_goThrough 91 = .ok (.iload_n 3, 1) := by decide +kernel
theorem dX6_goThrough_92 : decode cX6_goThrough 92 = .ok (.iaload, 1) := by decide +kernel
theorem dX6_goThrough_93 : decode cX6_goThrough 93 = .ok (.bipush 7, 2) := by decide +kernel
theorem dX6_goThrough_95 : decode cX6_goThrough 95 = .ok (.if_icmp .ne 29, 3) := by decide +kernel
theorem dX6_goThrough_98 : decode cX6_goThrough 98 = .ok (.aload_n 0, 1) := by decide +kernel
theorem dX6_goThrough_99 : decode cX6_goThrough 99 = .ok (.iload_n 3, 1) := by decide +kernel
theorem dX6_goThrough_100 : decode cX6_goThrough 100 = .ok (.iload_n 2, 1) := by decide +kernel
theorem dX6_goThrough_101 : decode cX6_goThrough 101 = .ok (.invokevirtual 145, 3) := by decide +kernel
theorem dX6_goThrough_104 : decode cX6_goThrough 104 = .ok (.ifCond .eq 20, 3) := by decide +kernel
theorem dX6_goThrough_107 : decode cX6_goThrough 107 = .ok (.aload_n 0, 1) := by decide +kernel
theorem dX6_goThrough_108 : decode cX6_goThrough 108 = .ok (.getfield 50, 3) := by decide +kernel
theorem dX6_goThrough_111 : decode cX6_goThrough 111 = .ok (.aload_n 0, 1) := by decide +kernel
theorem dX6_goThrough_112 : decode cX6_goThrough 112 = .ok (.getfield 26, 3) := by decide +kernel
theorem dX6_goThrough_115 : decode cX6_goThrough 115 = .ok (.iload_n 3, 1) := by decide +kernel
theorem dX6_goThrough_116 : decode cX6_goThrough 116 = .ok (.iaload, 1) := by decide +kernel
theorem dX6_goThrough_117 : decode cX6_goThrough 117 = .ok (.aload_n 0, 1) := by decide +kernel
theorem dX6_goThrough_118 : decode cX6_goThrough 118 = .ok (.getfield 23, 3) := by decide +kernel
theorem dX6_goThrough_121 : decode cX6_goThrough 121 = .ok (.iload_n 3, 1) := by decide +kernel
theorem dX6_goThrough_122 : decode cX6_goThrough 122 = .ok (.iaload, 1) := by decide +kernel
theorem dX6_goThrough_123 : decode cX6_goThrough 123 = .ok (.iastore, 1) := by decide +kernel
theorem dX6_goThrough_124 : decode cX6_goThrough 124 = .ok (.iinc 3 1, 3) := by decide +kernel
theorem dX6_goThrough_127 : decode cX6_goThrough 127 = .ok (.goto (-48), 3) := by decide +kernel
theorem dX6_goThrough_130 : decode cX6_goThrough 130 = .ok (.iconst 0, 1) := by decide +kernel
theorem dX6_goThrough_131 : decode cX6_goThrough 131 = .ok (.istore_n 3, 1) := by decide +kernel
theorem dX6_goThrough_132 : decode cX6_goThrough 132 = .ok (.iload_n 3, 1) := by decide +kernel
theorem dX6_goThrough_133 : decode cX6_goThrough 133 = .ok (.aload_n 0, 1) := by decide +kernel
theorem dX6_goThrough_134 : decode cX6_goThrough 134 = .ok (.getfield 122, 3) := by decide +kernel
theorem dX6_goThrough_137 : decode cX6_goThrough 137 = .ok (.if_icmp .ge 66, 3) := by decide +kernel
theorem dX6_goThrough_140 : decode cX6_goThrough 140 = .ok (.aload_n 0, 1) := by decide +kernel
theorem dX6_goThrough_141 : decode cX6_goThrough 141 = .ok (.getfield 38, 3) := by decide +kernel
theorem dX6_goThrough_144 : decode cX6_goThrough 144 = .ok (.iload_n 3, 1) := by decide +kernel
theorem dX6_goThrough_145 : decode cX6_goThrough 145 = .ok (.iaload, 1) := by decide +kernel
theorem dX6_goThrough_146 : decode cX6_goThrough 146 = .ok (.istore 4, 2) := by decide +kernel
theorem dX6_goThrough_148 : decode cX6_goThrough 148 = .ok (.aload_n 0, 1) := by decide +kernel
theorem dX6_goThrough_149 : decode cX6_goThrough 149 = .ok (.getfield 20, 3) := by decide +kernel
theorem dX6_goThrough_152 : decode cX6_goThrough 152 = .ok (.iload 4, 2) := by decide +kernel
theorem dX6_goThrough_154 : decode cX6_goThrough 154 = .ok (.iaload, 1) := by decide +kernel
theorem dX6_goThrough_155 : decode cX6_goThrough 155 = .ok (.iload_n 1, 1) := by decide +kernel
theorem dX6_goThrough_156 : decode cX6_goThrough 156 = .ok (.if_icmp .gt 41, 3) := by decide +kernel
theorem dX6_goThrough_159 : decode cX6_goThrough 159 = .ok (.aload_n 0, 1) := by decide +kernel
theorem dX6_goThrough_160 : decode cX6_goThrough 160 = .ok (.iload 4, 2) := by decide +kernel
theorem dX6_goThrough_162 : decode cX6_goThrough 162 = .ok (.iload_n 2, 1) := by decide +kernel
theorem dX6_goThrough_163 : decode cX6_goThrough 163 = .ok (.invokevirtual 145, 3) := by decide +kernel
theorem dX6_goThrough_166 : decode cX6_goThrough 166 = .ok (.ifCond .eq 31, 3) := by decide +kernel
theorem dX6_goThrough_169 : decode cX6_goThrough 169 = .ok (.aload_n 0, 1) := by decide +kernel
theorem dX6_goThrough_170 : decode cX6_goThrough 170 = .ok (.iload 4, 2) := by decide +kernel
theorem dX6_goThrough_172 : decode cX6_goThrough 172 = .ok (.aload_n 0, 1) := by decide +kernel
theorem dX6_goThrough_173 : decode cX6_goThrough 173 = .ok (.aload_n 0, 1) := by decide +kernel
theorem dX6_goThrough_174 : decode cX6_goThrough 174 = .ok (.getfield 23, 3) := by decide +kernel
theorem dX6_goThrough_177 : decode cX6_goThrough 177 = .ok (.iload 4, 2) := by decide +kernel
theorem dX6_goThrough_179 : decode cX6_goThrough 179 = .ok (.iaload, 1) := by decide +kernel
theorem dX6_goThrough_180 : decode cX6_goThrough 180 = .ok (.invokevirtual 149, 3) := by decide +kernel
theorem dX6_goThrough_183 : decode cX6_goThrough 183 = .ok (.aload_n 0, 1) := by decide +kernel
theorem dX6_goThrough_184 : decode cX6_goThrough 184 = .ok (.aload_n 0, 1) := by decide +kernel
theorem dX6_goThrough_185 : decode cX6_goThrough 185 = .ok (.getfield 26, 3) := by decide +kernel
theorem dX6_goThrough_188 : decode cX6_goThrough 188 = .ok (.iload 4, 2) := by decide +kernel
theorem dX6_goThrough_190 : decode cX6_goThrough 190 = .ok (.iaload, 1) := by decide +kernel
theorem dX6_goThrough_191 : decode cX6_goThrough 191 = .ok (.invokevirtual 149, 3) := by decide +kernel
theorem dX6_goThrough_194 : decode cX6_goThrough 194 = .ok (.invokevirtual 152, 3) := by decide +kernel
theorem dX6_goThrough_197 : decode cX6_goThrough 197 = .ok (.iinc 3 1, 3) := by decide +kernel
theorem dX6_goThrough_200 : decode cX6_goThrough 200 = .ok (.goto (-68), 3) := by decide +kernel
theorem dX6_goThrough_203 : decode cX6_goThrough 203 = .ok (.iconst 0, 1) := by decide +kernel
theorem dX6_goThrough_204 : decode cX6_goThrough 204 = .ok (.istore_n 3, 1) := by decide +kernel
theorem dX6_goThrough_205 : decode cX6_goThrough 205 = .ok (.iload_n 3, 1) := by decide +kernel
theorem dX6_goThrough_206 : decode cX6_goThrough 206 = .ok (.aload_n 0, 1) := by decide +kernel
theorem dX6_goThrough_207 : decode cX6_goThrough 207 = .ok (.getfield 108, 3) := by decide +kernel
theorem dX6_goThrough_210 : decode cX6_goThrough 210 = .ok (.if_icmp .ge 35, 3) := by decide +kernel
theorem dX6_goThrough_213 : decode cX6_goThrough 213 = .ok (.aload_n 0, 1) := by decide +kernel
theorem dX6_goThrough_214 : decode cX6_goThrough 214 = .ok (.getfield 53, 3) := by decide +kernel
theorem dX6_goThrough_217 : decode cX6_goThrough 217 = .ok (.iload_n 3, 1) := by decide +kernel
theorem dX6_goThrough_218 : decode cX6_goThrough 218 = .ok (.aload_n 0, 1) := by decide +kernel
theorem dX6_goThrough_219 : decode cX6_goThrough 219 = .ok (.getfield 50, 3) := by decide +kernel
theorem dX6_goThrough_222 : decode cX6_goThrough 222 = .ok (.iload_n 3, 1) := by decide +kernel
theorem dX6_goThrough_223 : decode cX6_goThrough 223 = .ok (.iaload, 1) := by decide +kernel
theorem dX6_goThrough_224 : decode cX6_goThrough 224 = .ok (.iconst (-1), 1) := by decide +kernel
theorem dX6_goThrough_225 : decode cX6_goThrough 225 = .ok (.if_icmp .ne 12, 3) := by decide +kernel
theorem dX6_goThrough_228 : decode cX6_goThrough 228 = .ok (.aload_n 0, 1) := by decide +kernel
theorem dX6_goThrough_229 : decode cX6_goThrough 229 = .ok (.getfield 53, 3) := by decide +kernel
theorem dX6_goThrough_232 : decode cX6_goThrough 232 = .ok (.iload_n 3, 1) := by decide +kernel
theorem dX6_goThrough_233 : decode cX6_goThrough 233 = .ok (.iaload, 1) := by decide +kernel
theorem dX6_goThrough_234 : decode cX6_goThrough 234 = .ok (.goto 4, 3) := by decide +kernel
theorem dX6_goThrough_237 : decode cX6_goThrough 237 = .ok (.iconst 3, 1) := by decide +kernel
theorem dX6_goThrough_238 : decode cX6_goThrough 238 = .ok (.iastore, 1) := by decide +kernel
theorem dX6_goThrough_239 : decode cX6_goThrough 239 = .ok (.iinc 3 1, 3) := by decide +kernel
theorem dX6_goThrough_242 : decode cX6_goThrough 242 = .ok (.goto (-37), 3) := by decide +kernel
theorem dX6_goThrough_245 : decode cX6_goThrough 245 = .ok (.return_, 1) := by decide +kernel
set_option maxRecDepth 20000 in
theorem ggX6_count_X6_part : GoodIn wsX6_count wsX6_part := goodIn_r _ [15, 16, 22, 23, 24, 25, 26, 27, 28, 29, 30, 31, 32, 33, 34, 35, 36, 37, 38, 39, 40, 41, 42, 43, 44, 45, 46, 47, 48, 49, 50, 51, 52, 53, 54, 55, 56, 57, 58, 59] (by decide +kernel) (by decide +kernel)
set_option maxRecDepth 20000 in
theorem gX6_count_X6_part : GoodIn wsX6_count (wsV RX6 156 RX6 yX6_part wsX6_part) := goodIn_app (goodIn_of _ (by decide +kernel)) ggX6_count_X6_part
set_option maxRecDepth 20000 in
theorem ggX6_count_X6_tied : GoodIn wsX6_count wsX6_tied := goodIn_r _ [20, 9, 21, 16, 11, 12, 13, 14, 15, 22, 23, 24, 25, 26, 27, 28, 29, 30, 31, 32, 33, 34, 35, 36, 37, 38, 39, 40, 41, 42, 43, 44, 45, 46, 47, 48, 49, 50, 51, 52, 53, 54, 55, 56, 57, 58, 59] (by decide +kernel) (by decide +kernel)
set_option maxRecDepth 20000 in
theorem gX6_count_X6_tied : GoodIn wsX6_count (wsV RX6 160 RX6 yX6_tied wsX6_tied) := goodIn_app (goodIn_of _ (by decide +kernel)) ggX6_count_X6_tied
theorem dX6_count_0 : decode cX6_count 0 = .ok (.aload_n 0, 1) := by decide +kernel
theorem dX6_count_1 : decode cX6_count 1 = .ok (.getfield 13, 3) := by decide +kernel
theorem dX6_count_4 : decode cX6_count 4 = .ok (.iload_n 1, 1) := by decide +kernel
theorem dX6_count_5 : decode cX6_count 5 = .ok (.iaload, 1) := by decide +kernel
theorem dX6_count_6 : decode cX6_count 6 = .ok (.ifCond .ne 101, 3) := by decide +kernel
theorem dX6_count_9 : decode cX6_count 9 = .ok (.aload_n 0, 1) := by decide +kernel
theorem dX6_count_10 : decode cX6_count 10 = .ok (.getfield 53, 3) := by decide +kernel
theorem dX6_count_13 : decode cX6_count 13 = .ok (.iload_n 2, 1) := by decide +kernel
theorem dX6_count_14 : decode cX6_count 14 = .ok (.iaload, 1) := by decide +kernel
theorem dX6_count_15 : decode cX6_count 15 = .ok (.ifCond .ne 236, 3) := by decide +kernel
theorem dX6_count_18 : decode cX6_count 18 = .ok (.aload_n 0, 1) := by decide +kernel
theorem dX6_count_19 : decode cX6_count 19 = .ok (.getfield 53, 3) := by decide +kernel
theorem dX6_count_22 : decode cX6_count 22 = .ok (.iload_n 2, 1) := by decide +kernel
theorem dX6_count_23 : decode cX6_count 23 = .ok (.iconst 1, 1) := by decide +kernel
theorem dX6_count_24 : decode cX6_count 24 = .ok (.iastore, 1) := by decide +kernel
theorem dX6_count_25 : decode cX6_count 25 = .ok (.aload_n 0, 1) := by decide +kernel
theorem dX6_count_26 : decode cX6_count 26 = .ok (.getfield 56, 3) := by decide +kernel
theorem dX6_count_29 : decode cX6_count 29 = .ok (.iload_n 2, 1) := by decide +kernel
theorem dX6_count_30 : decode cX6_count 30 = .ok (.aload_n 0, 1) := by decide +kernel
theorem dX6_count_31 : decode cX6_count 31 = .ok (.getfield 29, 3) := by decide +kernel
theorem dX6_count_34 : decode cX6_count 34 = .ok (.iload_n 1, 1) := by decide +kernel
theorem dX6_count_35 : decode cX6_count 35 = .ok (.iaload, 1) := by decide +kernel
theorem dX6_count_36 : decode cX6_count 36 = .ok (.iastore, 1) := by decide +kernel
theorem dX6_count_37 : decode cX6_count 37 = .ok (.aload_n 0, 1) := by decide +kernel
theorem dX6_count_38 : decode cX6_count 38 = .ok (.getfield 59, 3) := by decide +kernel
theorem dX6_count_41 : decode cX6_count 41 = .ok (.iload_n 2, 1) := by decide +kernel
theorem dX6_count_42 : decode cX6_count 42 = .ok (.aload_n 0, 1) := by decide +kernel
theorem dX6_count_43 : decode cX6_count 43 = .ok (.getfield 32, 3) := by decide +kernel
theorem dX6_count_46 : decode cX6_count 46 = .ok (.iload_n 1, 1) := by decide +kernel
theorem dX6_count_47 : decode cX6_count 47 = .ok (.iaload, 1) := by decide +kernel
theorem dX6_count_48 : decode cX6_count 48 = .ok (.iastore, 1) := by decide +kernel
theorem dX6_count_49 : decode cX6_count 49 = .ok (.aload_n 0, 1) := by decide +kernel
theorem dX6_count_50 : decode cX6_count 50 = .ok (.getfield 68, 3) := by decide +kernel
theorem dX6_count_53 : decode cX6_count 53 = .ok (.iload_n 2, 1) := by decide +kernel
theorem dX6_count_54 : decode cX6_count 54 = .ok (.aload_n 0, 1) := by decide +kernel
theorem dX6_count_55 : decode cX6_count 55 = .ok (.getfield 20, 3) := by decide +kernel
theorem dX6_count_58 : decode cX6_count 58 = .ok (.iload_n 1, 1) := by decide +kernel
theorem dX6_count_59 : decode cX6_count 59 = .ok (.iaload, 1) := by decide +kernel
theorem dX6_count_60 : decode cX6_count 60 = .ok (.iastore, 1) := by decide +kernel
theorem dX6_count_61 : decode cX6_count 61 = .ok (.aload_n 0, 1) := by decide +kernel
theorem dX6_count_62 : decode cX6_count 62 = .ok (.getfield 65, 3) := by decide +kernel
theorem dX6_count_65 : decode cX6_count 65 = .ok (.iload_n 2, 1) := by decide +kernel
theorem dX6_count_66 : decode cX6_count 66 = .ok (.iload_n 3, 1) := by decide +kernel
theorem dX6_count_67 : decode cX6_count 67 = .ok (.iconst (-1), 1) := by decide +kernel
theorem dX6_count_68 : decode cX6_count 68 = .ok (.if_icmp .eq 22, 3) := by decide +kernel
theorem dX6_count_71 : decode cX6_count 71 = .ok (.iload_n 3, 1) := by decide +kernel
theorem dX6_count_72 : decode cX6_count 72 = .ok (.iload_n 2, 1) := by decide +kernel
theorem dX6_count_73 : decode cX6_count 73 = .ok (.if_icmp .eq 17, 3) := by decide +kernel
theorem dX6_count_76 : decode cX6_count 76 = .ok (.aload_n 0, 1) := by decide +kernel
theorem dX6_count_77 : decode cX6_count 77 = .ok (.getfield 53, 3) := by decide +kernel
theorem dX6_count_80 : decode cX6_count 80 = .ok (.iload_n 3, 1) := by decide +kernel
theorem dX6_count_81 : decode cX6_count 81 = .ok (.iaload, 1) := by decide +kernel
theorem dX6_count_82 : decode cX6_count 82 = .ok (.iconst 1, 1) := by decide +kernel
theorem dX6_count_83 : decode cX6_count 83 = .ok (.if_icmp .ne 7, 3) := by decide +kernel
theorem dX6_count_86 : decode cX6_count 86 = .ok (.iload_n 3, 1) := by decide +kernel
theorem dX6_count_87 : decode cX6_count 87 = .ok (.goto 4, 3) := by decide +kernel
theorem dX6_count_90 : decode cX6_count 90 = .ok (.iconst (-1), 1) := by decide +kernel
theorem dX6_count_91 : decode cX6_count 91 = .ok (.iastore, 1) := by decide +kernel
theorem dX6_count_92 : decode cX6_count 92 = .ok (.aload_n 0, 1) := by decide +kernel
theorem dX6_count_93 : decode cX6_count 93 = .ok (.getfield 71, 3) := by decide +kernel
theorem dX6_count_96 : decode cX6_count 96 = .ok (.iload_n 2, 1) := by decide +kernel
theorem dX6_count_97 : decode cX6_count 97 = .ok (.aload_n 0, 1) := by decide +kernel
theorem dX6_count_98 : decode cX6_count 98 = .ok (.getfield 65, 3) := by decide +kernel
theorem dX6_count_101 : decode cX6_count 101 = .ok (.iload_n 2, 1) := by decide +kernel
theorem dX6_count_102 : decode cX6_count 102 = .ok (.iaload, 1) := by decide +kernel
theorem dX6_count_103 : decode cX6_count 103 = .ok (.iastore, 1) := by decide +kernel
theorem dX6_count_104 : decode cX6_count 104 = .ok (.goto 147, 3) := by decide +kernel
theorem dX6_count_107 : decode cX6_count 107 = .ok (.aload_n 0, 1) := by decide +kernel
theorem dX6_count_108 : decode cX6_count 108 = .ok (.getfield 53, 3) := by decide +kernel
theorem dX6_count_111 : decode cX6_count 111 = .ok (.iload_n 2, 1) := by decide +kernel
theorem dX6_count_112 : decode cX6_count 112 = .ok (.iaload, 1) := by decide +kernel
theorem dX6_count_113 : decode cX6_count 113 = .ok (.iconst 1, 1) := by decide +kernel
theorem dX6_count_114 : decode cX6_count 114 = .ok (.if_icmp .ne 137, 3) := by decide +kernel
theorem dX6_count_117 : decode cX6_count 117 = .ok (.aload_n 0, 1) := by decide +kernel
theorem dX6_count_118 : decode cX6_count 118 = .ok (.getfield 13, 3) := by decide +kernel
theorem dX6_count_121 : decode cX6_count 121 = .ok (.iload_n 1, 1) := by decide +kernel
theorem dX6_count_122 : decode cX6_count 122 = .ok (.iaload, 1) := by decide +kernel
theorem dX6_count_123 : decode cX6_count 123 = .ok (.iconst 3, 1) := by decide +kernel
theorem dX6_count_124 : decode cX6_count 124 = .ok (.if_icmp .ge 68, 3) := by decide +kernel
theorem dX6_count_127 : decode cX6_count 127 = .ok (.aload_n 0, 1) := by decide +kernel
theorem dX6_count_128 : decode cX6_count 128 = .ok (.getfield 56, 3) := by decide +kernel
theorem dX6_count_131 : decode cX6_count 131 = .ok (.iload_n 2, 1) := by decide +kernel
theorem dX6_count_132 : decode cX6_count 132 = .ok (.aload_n 0, 1) := by decide +kernel
theorem dX6_count_133 : decode cX6_count 133 = .ok (.getfield 13, 3) := by decide +kernel
theorem dX6_count_136 : decode cX6_count 136 = .ok (.iload_n 1, 1) := by decide +kernel
theorem dX6_count_137 : decode cX6_count 137 = .ok (.iaload, 1) := by decide +kernel
theorem dX6_count_138 : decode cX6_count 138 = .ok (.iconst 1, 1) := by decide +kernel
theorem dX6_count_139 : decode cX6_count 139 = .ok (.if_icmp .ne 12, 3) := by decide +kernel
theorem dX6_count_142 : decode cX6_count 142 = .ok (.aload_n 0, 1) := by decide +kernel
theorem dX6_count_143 : decode cX6_count 143 = .ok (.getfield 29, 3) := by decide +kernel
theorem dX6_count_146 : decode cX6_count 146 = .ok (.iload_n 1, 1) := by decide +kernel
theorem dX6_count_147 : decode cX6_count 147 = .ok (.iaload, 1) := by decide +kernel
theorem dX6_count_148 : decode cX6_count 148 = .ok (.goto 9, 3) := by decide +kernel
theorem dX6_count_151 : decode cX6_count 151 = .ok (.aload_n 0, 1) := by decide +kernel
theorem dX6_count_152 : decode cX6_count 152 = .ok (.getfield 56, 3) := by decide +kernel
theorem dX6_count_155 : decode cX6_count 155 = .ok (.iload_n 2, 1) := by decide +kernel
theorem dX6_count_156 : decode cX6_count 156 = .ok (.iaload, 1) := by decide +kernel
theorem dX6_count_157 : decode cX6_count 157 = .ok (.iastore, 1) := by decide +kernel
theorem dX6_count_158 : decode cX6_count 158 = .ok (.aload_n 0, 1) := by decide +kernel
theorem dX6_count_159 : decode cX6_count 159 = .ok (.getfield 59, 3) := by decide +kernel
theorem dX6_count_162 : decode cX6_count 162 = .ok (.iload_n 2, 1) := by decide +kernel
theorem dX6_count_163 : decode cX6_count 163 = .ok (.aload_n 0, 1) := by decide +kernel
theorem dX6_count_164 : decode cX6_count 164 = .ok (.getfield 13, 3) := by decide +kernel
theorem dX6_count_167 : decode cX6_count 167 = .ok (.iload_n 1, 1) := by decide +kernel
theorem dX6_count_168 : decode cX6_count 168 = .ok (.iaload, 1) := by decide +kernel
theorem dX6_count_169 : decode cX6_count 169 = .ok (.iconst 2, 1) := by decide +kernel
theorem dX6_count_170 : decode cX6_count 170 = .ok (.if_icmp .ne 12, 3) := by decide +kernel
theorem dX6_count_173 : decode cX6_count 173 = .ok (.aload_n 0, 1) := by decide +kernel
theorem dX6_count_174 : decode cX6_count 174 = .ok (.getfield 32, 3) := by decide +kernel
theorem dX6_count_177 : decode cX6_count 177 = .ok (.iload_n 1, 1) := by decide +kernel
theorem dX6_count_178 : decode cX6_count 178 = .ok (.iaload, 1) := by decide +kernel
theorem dX6_count_179 : decode cX6_count 179 = .ok (.goto 9, 3) := by decide +kernel
theorem dX6_count_182 : decode cX6_count 182 = .ok (.aload_n 0, 1) := by decide +kernel
theorem dX6_count_183 : decode cX6_count 183 = .ok (.getfield 59, 3) := by decide +kernel
theorem dX6_count_186 : decode cX6_count 186 = .ok (.iload_n 2, 1) := by decide +kernel
theorem dX6_count_187 : decode cX6_count 187 = .ok (.iaload, 1) := by decide +kernel
theorem dX6_count_188 : decode cX6_count 188 = .ok (.iastore, 1) := by decide +kernel
theorem dX6_count_189 : decode cX6_count 189 = .ok (.goto 62, 3) := by decide +kernel
theorem dX6_count_192 : decode cX6_count 192 = .ok (.aload_n 0, 1) := by decide +kernel
theorem dX6_count_193 : decode cX6_count 193 = .ok (.getfield 13, 3) := by decide +kernel
theorem dX6_count_196 : decode cX6_count 196 = .ok (.iload_n 1, 1) := by decide +kernel
theorem dX6_count_197 : decode cX6_count 197 = .ok (.iaload, 1) := by decide +kernel
theorem dX6_count_198 : decode cX6_count 198 = .ok (.iconst 5, 1) := by decide +kernel
theorem dX6_count_199 : decode cX6_count 199 = .ok (.if_icmp .ne 25, 3) := by decide +kernel
theorem dX6_count_202 : decode cX6_count 202 = .ok (.aload_n 0, 1) := by decide +kernel
theorem dX6_count_203 : decode cX6_count 203 = .ok (.iload_n 2, 1) := by decide +kernel
theorem dX6_count_204 : decode cX6_count 204 = .ok (.invokevirtual 156, 3) := by decide +kernel
theorem dX6_count_207 : decode cX6_count 207 = .ok (.aload_n 0, 1) := by decide +kernel
theorem dX6_count_208 : decode cX6_count 208 = .ok (.getfield 53, 3) := by decide +kernel
theorem dX6_count_211 : decode cX6_count 211 = .ok (.iload_n 2, 1) := by decide +kernel
theorem dX6_count_212 : decode cX6_count 212 = .ok (.iconst 2, 1) := by decide +kernel
theorem dX6_count_213 : decode cX6_count 213 = .ok (.iastore, 1) := by decide +kernel
theorem dX6_count_214 : decode cX6_count 214 = .ok (.aload_n 0, 1) := by decide +kernel
theorem dX6_count_215 : decode cX6_count 215 = .ok (.getfield 56, 3) := by decide +kernel
theorem dX6_count_218 : decode cX6_count 218 = .ok (.iload_n 2, 1) := by decide +kernel
theorem dX6_count_219 : decode cX6_count 219 = .ok (.iconst (-1), 1) := by decide +kernel
theorem dX6_count_220 : decode cX6_count 220 = .ok (.iastore, 1) := by decide +kernel
theorem dX6_count_221 : decode cX6_count 221 = .ok (.goto 30, 3) := by decide +kernel
theorem dX6_count_224 : decode cX6_count 224 = .ok (.aload_n 0, 1) := by decide +kernel
theorem dX6_count_225 : decode cX6_count 225 = .ok (.getfield 53, 3) := by decide +kernel
theorem dX6_count_228 : decode cX6_count 228 = .ok (.iload_n 3, 1) := by decide +kernel
theorem dX6_count_229 : decode cX6_count 229 = .ok (.iaload, 1) := by decide +kernel
theorem dX6_count_230 : decode cX6_count 230 = .ok (.iconst 1, 1) := by decide +kernel
theorem dX6_count_231 : decode cX6_count 231 = .ok (.if_icmp .ne 20, 3) := by decide +kernel
theorem dX6_count_234 : decode cX6_count 234 = .ok (.iload_n 2, 1) := by decide +kernel
theorem dX6_count_235 : decode cX6_count 235 = .ok (.iload_n 3, 1) := by decide +kernel
theorem dX6_count_236 : decode cX6_count 236 = .ok (.if_icmp .eq 15, 3) := by decide +kernel
theorem dX6_count_239 : decode cX6_count 239 = .ok (.aload_n 0, 1) := by decide +kernel
theorem dX6_count_240 : decode cX6_count 240 = .ok (.aload_n 0, 1) := by decide +kernel
theorem dX6_count_241 : decode cX6_count 241 = .ok (.getfield 13, 3) := by decide +kernel
theorem dX6_count_244 : decode cX6_count 244 = .ok (.iload_n 1, 1) := by decide +kernel
theorem dX6_count_245 : decode cX6_count 245 = .ok (.iaload, 1) := by decide +kernel
theorem dX6_count_246 : decode cX6_count 246 = .ok (.iload_n 2, 1) := by decide +kernel
theorem dX6_count_247 : decode cX6_count 247 = .ok (.iload_n 3, 1) := by decide +kernel
theorem dX6_count_248 : decode cX6_count 248 = .ok (.invokevirtual 160, 3) := by decide +kernel
theorem dX6_count_251 : decode cX6_count 251 = .ok (.return_, 1) := by decide +kernel
theorem dX6_part_0 : decode cX6_part 0 = .ok (.aload_n 0, 1) := by decide +kernel
theorem dX6_part_1 : decode cX6_part 1 = .ok (.getfield 62, 3) := by decide +kernel
theorem dX6_part_4 : decode cX6_part 4 = .ok (.iload_n 1, 1) := by decide +kernel
theorem dX6_part_5 : decode cX6_part 5 = .ok (.iaload, 1) := by decide +kernel
theorem dX6_part_6 : decode cX6_part 6 = .ok (.iconst (-1), 1) := by decide +kernel
theorem dX6_part_7 : decode cX6_part 7 = .ok (.if_icmp .eq 22, 3) := by decide +kernel
theorem dX6_part_10 : decode cX6_part 10 = .ok (.aload_n 0, 1) := by decide +kernel
theorem dX6_part_11 : decode cX6_part 11 = .ok (.getfield 62, 3) := by decide +kernel
theorem dX6_part_14 : decode cX6_part 14 = .ok (.aload_n 0, 1) := by decide +kernel
theorem dX6_part_15 : decode cX6_part 15 = .ok (.getfield 62, 3) := by decide +kernel
theorem dX6_part_18 : decode cX6_part 18 = .ok (.iload_n 1, 1) := by decide +kernel
theorem dX6_part_19 : decode cX6_part 19 = .ok (.iaload, 1) := by decide +kernel
theorem dX6_part_20 : decode cX6_part 20 = .ok (.iconst (-1), 1) := by decide +kernel
theorem dX6_part_21 : decode cX6_part 21 = .ok (.iastore, 1) := by decide +kernel
theorem dX6_part_22 : decode cX6_part 22 = .ok (.aload_n 0, 1) := by decide +kernel
theorem dX6_part_23 : decode cX6_part 23 = .ok (.getfield 62, 3) := by decide +kernel
theorem dX6_part_26 : decode cX6_part 26 = .ok (.iload_n 1, 1) := by decide +kernel
theorem dX6_part_27 : decode cX6_part 27 = .ok (.iconst (-1), 1) := by decide +kernel
theorem dX6_part_28 : decode cX6_part 28 = .ok (.iastore, 1) := by decide +kernel
theorem dX6_part_29 : decode cX6_part 29 = .ok (.return_, 1) := by decide +kernel
set_option maxRecDepth 20000 in
theorem ggX6_tied_X6_part : GoodIn wsX6_tied wsX6_part := goodIn_r _ [8, 3, 9, 10, 11, 12, 13, 14, 15, 16, 17, 18, 19, 20, 21, 22, 23, 24, 25, 26, 27, 28, 29, 30, 31, 32, 33, 34, 35, 36, 37, 38, 39, 40, 41, 42, 43, 44, 45, 46] (by decide +kernel) (by decide +kernel)
set_option maxRecDepth 20000 in
theorem gX6_tied_X6_part : GoodIn wsX6_tied (wsV RX6 156 RX6 yX6_part wsX6_part) := goodIn_app (goodIn_of _ (by decide +kernel)) ggX6_tied_X6_part
theorem dX6_tied_0 : decode cX6_tied 0 = .ok (.iload_n 1, 1) := by decide +kernel
theorem dX6_tied_1 : decode cX6_tied 1 = .ok (.bipush 6, 2) := by decide +kernel
theorem dX6_tied_3 : decode cX6_tied 3 = .ok (.if_icmp .ne 20, 3) := by decide +kernel
theorem dX6_tied_6 : decode cX6_tied 6 = .ok (.aload_n 0, 1) := by decide +kernel
theorem dX6_tied_7 : decode cX6_tied 7 = .ok (.getfield 65, 3) := by decide +kernel
theorem dX6_tied_10 : decode cX6_tied 10 = .ok (.iload_n 2, 1) := by decide +kernel
theorem dX6_tied_11 : decode cX6_tied 11 = .ok (.iload_n 3, 1) := by decide +kernel
theorem dX6_tied_12 : decode cX6_tied 12 = .ok (.iastore, 1) := by decide +kernel
theorem dX6_tied_13 : decode cX6_tied 13 = .ok (.aload_n 0, 1) := by decide +kernel
theorem dX6_tied_14 : decode cX6_tied 14 = .ok (.getfield 74, 3) := by decide +kernel
theorem dX6_tied_17 : decode cX6_tied 17 = .ok (.iload_n 2, 1) := by decide +kernel
theorem dX6_tied_18 : decode cX6_tied 18 = .ok (.iconst 1, 1) := by decide +kernel
theorem dX6_tied_19 : decode cX6_tied 19 = .ok (.bastore, 1) := by decide +kernel
theorem dX6_tied_20 : decode cX6_tied 20 = .ok (.goto 65, 3) := by decide +kernel
theorem dX6_tied_23 : decode cX6_tied 23 = .ok (.iload_n 1, 1) := by decide +kernel
theorem dX6_tied_24 : decode cX6_tied 24 = .ok (.iconst 4, 1) := by decide +kernel
theorem dX6_tied_25 : decode cX6_tied 25 = .ok (.if_icmp .ne 21, 3) := by decide +kernel
theorem dX6_tied_28 : decode cX6_tied 28 = .ok (.aload_n 0, 1) := by decide +kernel
theorem dX6_tied_29 : decode cX6_tied 29 = .ok (.getfield 62, 3) := by decide +kernel
theorem dX6_tied_32 : decode cX6_tied 32 = .ok (.iload_n 2, 1) := by decide +kernel
theorem dX6_tied_33 : decode cX6_tied 33 = .ok (.iaload, 1) := by decide +kernel
theorem dX6_tied_34 : decode cX6_tied 34 = .ok (.iload_n 3, 1) := by decide +kernel
theorem dX6_tied_35 : decode cX6_tied 35 = .ok (.if_icmp .ne 11, 3) := by decide +kernel
theorem dX6_tied_38 : decode cX6_tied 38 = .ok (.aload_n 0, 1) := by decide +kernel
theorem dX6_tied_39 : decode cX6_tied 39 = .ok (.iload_n 2, 1) := by decide +kernel
theorem dX6_tied_40 : decode cX6_tied 40 = .ok (.invokevirtual 156, 3) := by decide +kernel
theorem dX6_tied_43 : decode cX6_tied 43 = .ok (.goto 42, 3) := by decide +kernel
theorem dX6_tied_46 : decode cX6_tied 46 = .ok (.iload_n 1, 1) := by decide +kernel
theorem dX6_tied_47 : decode cX6_tied 47 = .ok (.iconst 3, 1) := by decide +kernel
theorem dX6_tied_48 : decode cX6_tied 48 = .ok (.if_icmp .ne 37, 3) := by decide +kernel
theorem dX6_tied_51 : decode cX6_tied 51 = .ok (.aload_n 0, 1) := by decide +kernel
theorem dX6_tied_52 : decode cX6_tied 52 = .ok (.getfield 62, 3) := by decide +kernel
theorem dX6_tied_55 : decode cX6_tied 55 = .ok (.iload_n 2, 1) := by decide +kernel
theorem dX6_tied_56 : decode cX6_tied 56 = .ok (.iaload, 1) := by decide +kernel
theorem dX6_tied_57 : decode cX6_tied 57 = .ok (.iconst (-1), 1) := by decide +kernel
theorem dX6_tied_58 : decode cX6_tied 58 = .ok (.if_icmp .ne 27, 3) := by decide +kernel
theorem dX6_tied_61 : decode cX6_tied 61 = .ok (.aload_n 0, 1) := by decide +kernel
theorem dX6_tied_62 : decode cX6_tied 62 = .ok (.getfield 62, 3) := by decide +kernel
theorem dX6_tied_65 : decode cX6_tied 65 = .ok (.iload_n 3, 1) := by decide +kernel
theorem dX6_tied_66 : decode cX6_tied 66 = .ok (.iaload, 1) := by decide +kernel
theorem dX6_tied_67 : decode cX6_tied 67 = .ok (.iconst (-1), 1) := by decide +kernel
theorem dX6_tied_68 : decode cX6_tied 68 = .ok (.if_icmp .ne 17, 3) := by decide +kernel
theorem dX6_tied_71 : decode cX6_tied 71 = .ok (.aload_n 0, 1) := by decide +kernel
theorem dX6_tied_72 : decode cX6_tied 72 = .ok (.getfield 62, 3) := by decide +kernel
theorem dX6_tied_75 : decode cX6_tied 75 = .ok (.iload_n 2, 1) := by decide +kernel
theorem dX6_tied_76 : decode cX6_tied 76 = .ok (.iload_n 3, 1) := by decide +kernel
theorem dX6_tied_77 : decode cX6_tied 77 = .ok (.iastore, 1) := by decide +kernel
theorem dX6_tied_78 : decode cX6_tied 78 = .ok (.aload_n 0, 1) := by decide +kernel
theorem dX6_tied_79 : decode cX6_tied 79 = .ok (.getfield 62, 3) := by decide +kernel
theorem dX6_tied_82 : decode cX6_tied 82 = .ok (.iload_n 3, 1) := by decide +kernel
theorem dX6_tied_83 : decode cX6_tied 83 = .ok (.iload_n 2, 1) := by decide +kernel
theorem dX6_tied_84 : decode cX6_tied 84 = .ok (.iastore, 1) := by decide +kernel
theorem dX6_tied_85 : decode cX6_tied 85 = .ok (.return_, 1) := by decide +kernel
theorem dX6_ageOf_0 : decode cX6_ageOf 0 = .ok (.aload_n 0, 1) := by decide +kernel
theorem dX6_ageOf_1 : decode cX6_ageOf 1 = .ok (.getfield 53, 3) := by decide +kernel
theorem dX6_ageOf_4 : decode cX6_ageOf 4 = .ok (.iload_n 1, 1) := by decide +kernel
theorem dX6_ageOf_5 : decode cX6_ageOf 5 = .ok (.iaload, 1) := by decide +kernel
theorem dX6_ageOf_6 : decode cX6_ageOf 6 = .ok (.iconst 1, 1) := by decide +kernel
theorem dX6_ageOf_7 : decode cX6_ageOf 7 = .ok (.if_icmp .ne 18, 3) := by decide +kernel
theorem dX6_ageOf_10 : decode cX6_ageOf 10 = .ok (.iload_n 2, 1) := by decide +kernel
theorem dX6_ageOf_11 : decode cX6_ageOf 11 = .ok (.aload_n 0, 1) := by decide +kernel
theorem dX6_ageOf_12 : decode cX6_ageOf 12 = .ok (.getfield 68, 3) := by decide +kernel
theorem dX6_ageOf_15 : decode cX6_ageOf 15 = .ok (.iload_n 1, 1) := by decide +kernel
theorem dX6_ageOf_16 : decode cX6_ageOf 16 = .ok (.iaload, 1) := by decide +kernel
theorem dX6_ageOf_17 : decode cX6_ageOf 17 = .ok (.isub, 1) := by decide +kernel
theorem dX6_ageOf_18 : decode cX6_ageOf 18 = .ok (.sipush 365, 3) := by decide +kernel
theorem dX6_ageOf_21 : decode cX6_ageOf 21 = .ok (.idiv, 1) := by decide +kernel
theorem dX6_ageOf_22 : decode cX6_ageOf 22 = .ok (.goto 4, 3) := by decide +kernel
theorem dX6_ageOf_25 : decode cX6_ageOf 25 = .ok (.iconst (-1), 1) := by decide +kernel
theorem dX6_ageOf_26 : decode cX6_ageOf 26 = .ok (.ireturn, 1) := by decide +kernel
set_option maxRecDepth 20000 in
theorem ggX6_isChild_X6_ageOf : GoodIn wsX6_isChild wsX6_ageOf := goodIn_r _ [7, 8, 9, 10, 11, 12, 13, 14, 15, 16, 17, 18, 19, 20, 21, 22, 23, 24, 25, 26, 27, 28, 29, 30, 31, 32, 33, 34, 35, 36, 37, 38, 39, 40, 41, 42, 43, 44, 45, 46, 47] (by decide +kernel) (by decide +kernel)
set_option maxRecDepth 20000 in
theorem gX6_isChild_X6_ageOf : GoodIn wsX6_isChild (wsV RX6 163 RX6 yX6_ageOf wsX6_ageOf) := goodIn_app (goodIn_of _ (by decide +kernel)) ggX6_isChild_X6_ageOf
theorem dX6_isChild_0 : decode cX6_isChild 0 = .ok (.aload_n 0, 1) := by decide +kernel
theorem dX6_isChild_1 : decode cX6_isChild 1 = .ok (.getfield 65, 3) := by decide +kernel
theorem dX6_isChild_4 : decode cX6_isChild 4 = .ok (.iload_n 1, 1) := by decide +kernel
theorem dX6_isChild_5 : decode cX6_isChild 5 = .ok (.iaload, 1) := by decide +kernel
theorem dX6_isChild_6 : decode cX6_isChild 6 = .ok (.iload_n 2, 1) := by decide +kernel
theorem dX6_isChild_7 : decode cX6_isChild 7 = .ok (.if_icmp .ne 28, 3) := by decide +kernel
theorem dX6_isChild_10 : decode cX6_isChild 10 = .ok (.aload_n 0, 1) := by decide +kernel
theorem dX6_isChild_11 : decode cX6_isChild 11 = .ok (.iload_n 1, 1) := by decide +kernel
theorem dX6_isChild_12 : decode cX6_isChild 12 = .ok (.iload_n 3, 1) := by decide +kernel
theorem dX6_isChild_13 : decode cX6_isChild 13 = .ok (.invokevirtual 163, 3) := by decide +kernel
theorem dX6_isChild_16 : decode cX6_isChild 16 = .ok (.bipush 18, 2) := by decide +kernel
theorem dX6_isChild_18 : decode cX6_isChild 18 = .ok (.if_icmp .ge 17, 3) := by decide +kernel
theorem dX6_isChild_21 : decode cX6_isChild 21 = .ok (.aload_n 0, 1) := by decide +kernel
theorem dX6_isChild_22 : decode cX6_isChild 22 = .ok (.getfield 62, 3) := by decide +kernel
theorem dX6_isChild_25 : decode cX6_isChild 25 = .ok (.iload_n 1, 1) := by decide +kernel
theorem dX6_isChild_26 : decode cX6_isChild 26 = .ok (.iaload, 1) := by decide +kernel
theorem dX6_isChild_27 : decode cX6_isChild 27 = .ok (.iconst (-1), 1) := by decide +kernel
theorem dX6_isChild_28 : decode cX6_isChild 28 = .ok (.if_icmp .ne 7, 3) := by decide +kernel
theorem dX6_isChild_31 : decode cX6_isChild 31 = .ok (.iconst 1, 1) := by decide +kernel
theorem dX6_isChild_32 : decode cX6_isChild 32 = .ok (.goto 4, 3) := by decide +kernel
theorem dX6_isChild_35 : decode cX6_isChild 35 = .ok (.iconst 0, 1) := by decide +kernel
theorem dX6_isChild_36 : decode cX6_isChild 36 = .ok (.ireturn, 1) := by decide +kernel
set_option maxRecDepth 20000 in
theorem ggX6_settle_X6_isChild : GoodIn wsX6_settle wsX6_isChild := goodIn_r _ [10, 11, 5, 12, 13, 14, 9, 15, 3, 16, 17, 18, 19, 20, 21, 22, 23, 24, 25, 26, 27, 28, 29, 30, 31, 32, 33, 34, 35, 36, 37, 38, 39, 40, 41, 42, 43, 44, 45, 46, 47, 48, 49, 50, 51, 52, 53, 54] (by decide +kernel) (by decide +kernel)
set_option maxRecDepth 20000 in
theorem gX6_settle_X6_isChild : GoodIn wsX6_settle (wsV RX6 167 RX6 yX6_isChild wsX6_isChild) := goodIn_app (goodIn_of _ (by decide +kernel)) ggX6_settle_X6_isChild
theorem dX6_settle_0 : decode cX6_settle 0 = .ok (.iconst 0, 1) := by decide +kernel
theorem dX6_settle_1 : decode cX6_settle 1 = .ok (.istore_n 2, 1) := by decide +kernel
theorem dX6_settle_2 : decode cX6_settle 2 = .ok (.iload_n 2, 1) := by decide +kernel
theorem dX6_settle_3 : decode cX6_settle 3 = .ok (.aload_n 0, 1) := by decide +kernel
theorem dX6_settle_4 : decode cX6_settle 4 = .ok (.getfield 108, 3) := by decide +kernel
theorem dX6_settle_7 : decode cX6_settle 7 = .ok (.if_icmp .ge 30, 3) := by decide +kernel
theorem dX6_settle_10 : decode cX6_settle 10 = .ok (.aload_n 0, 1) := by decide +kernel
theorem dX6_settle_11 : decode cX6_settle 11 = .ok (.getfield 78, 3) := by decide +kernel
theorem dX6_settle_14 : decode cX6_settle 14 = .ok (.iload_n 2, 1) := by decide +kernel
theorem dX6_settle_15 : decode cX6_settle 15 = .ok (.aload_n 0, 1) := by decide +kernel
theorem dX6_settle_16 : decode cX6_settle 16 = .ok (.getfield 53, 3) := by decide +kernel
theorem dX6_settle_19 : decode cX6_settle 19 = .ok (.iload_n 2, 1) := by decide +kernel
theorem dX6_settle_20 : decode cX6_settle 20 = .ok (.iaload, 1) := by decide +kernel
theorem dX6_settle_21 : decode cX6_settle 21 = .ok (.iconst 1, 1) := by decide +kernel
theorem dX6_settle_22 : decode cX6_settle 22 = .ok (.if_icmp .ne 7, 3) := by decide +kernel
theorem dX6_settle_25 : decode cX6_settle 25 = .ok (.iload_n 2, 1) := by decide +kernel
theorem dX6_settle_26 : decode cX6_settle 26 = .ok (.goto 4, 3) := by decide +kernel
theorem dX6_settle_29 : decode cX6_settle 29 = .ok (.iconst (-1), 1) := by decide +kernel
theorem dX6_settle_30 : decode cX6_settle 30 = .ok (.iastore, 1) := by decide +kernel
theorem dX6_settle_31 : decode cX6_settle 31 = .ok (.iinc 2 1, 3) := by decide +kernel
theorem dX6_settle_34 : decode cX6_settle 34 = .ok (.goto (-32), 3) := by decide +kernel
theorem dX6_settle_37 : decode cX6_settle 37 = .ok (.iconst 1, 1) := by decide +kernel
theorem dX6_settle_38 : decode cX6_settle 38 = .ok (.istore_n 2, 1) := by decide +kernel
theorem dX6_settle_39 : decode cX6_settle 39 = .ok (.iload_n 2, 1) := by decide +kernel
theorem dX6_settle_40 : decode cX6_settle 40 = .ok (.ifCond .eq 155, 3) := by decide +kernel
theorem dX6_settle_43 : decode cX6_settle 43 = .ok (.iconst 0, 1) := by decide +kernel
theorem dX6_settle_44 : decode cX6_settle 44 = .ok (.istore_n 2, 1) := by decide +kernel
theorem dX6_settle_45 : decode cX6_settle 45 = .ok (.iconst 0, 1) := by decide +kernel
theorem dX6_settle_46 : decode cX6_settle 46 = .ok (.istore_n 3, 1) := by decide +kernel
theorem dX6_settle_47 : decode cX6_settle 47 = .ok (.iload_n 3, 1) := by decide +kernel
theorem dX6_settle_48 : decode cX6_settle 48 = .ok (.aload_n 0, 1) := by decide +kernel
theorem dX6_settle_49 : decode cX6_settle 49 = .ok (.getfield 108, 3) := by decide +kernel
theorem dX6_settle_52 : decode cX6_settle 52 = .ok (.if_icmp .ge 140, 3) := by decide +kernel
theorem dX6_settle_55 : decode cX6_settle 55 = .ok (.iconst 0, 1) := by decide +kernel
theorem dX6_settle_56 : decode cX6_settle 56 = .ok (.istore 4, 2) := by decide +kernel
theorem dX6_settle_58 : decode cX6_settle 58 = .ok (.iload 4, 2) := by decide +kernel
theorem dX6_settle_60 : decode cX6_settle 60 = .ok (.aload_n 0, 1) := by decide +kernel
theorem dX6_settle_61 : decode cX6_settle 61 = .ok (.getfield 108, 3) := by decide +kernel
theorem dX6_settle_64 : decode cX6_settle 64 = .ok (.if_icmp .ge 122, 3) := by decide +kernel
theorem dX6_settle_67 : decode cX6_settle 67 = .ok (.aload_n 0, 1) := by decide +kernel
theorem dX6_settle_68 : decode cX6_settle 68 = .ok (.getfield 53, 3) := by decide +kernel
theorem dX6_settle_71 : decode cX6_settle 71 = .ok (.iload_n 3, 1) := by decide +kernel
theorem dX6_settle_72 : decode cX6_settle 72 = .ok (.iaload, 1) := by decide +kernel
theorem dX6_settle_73 : decode cX6_settle 73 = .ok (.iconst 1, 1) := by decide +kernel
theorem dX6_settle_74 : decode cX6_settle 74 = .ok (.if_icmp .ne 34, 3) := by decide +kernel
theorem dX6_settle_77 : decode cX6_settle 77 = .ok (.aload_n 0, 1) := by decide +kernel
theorem dX6_settle_78 : decode cX6_settle 78 = .ok (.getfield 53, 3) := by decide +kernel
theorem dX6_settle_81 : decode cX6_settle 81 = .ok (.iload 4, 2) := by decide +kernel
theorem dX6_settle_83 : decode cX6_settle 83 = .ok (.iaload, 1) := by decide +kernel
theorem dX6_settle_84 : decode cX6_settle 84 = .ok (.iconst 1, 1) := by decide +kernel
theorem dX6_settle_85 : decode cX6_settle 85 = .ok (.if_icmp .ne 23, 3) := by decide +kernel
theorem dX6_settle_88 : decode cX6_settle 88 = .ok (.aload_n 0, 1) := by decide +kernel
theorem dX6_settle_89 : decode cX6_settle 89 = .ok (.getfield 56, 3) := by decide +kernel
theorem dX6_settle_92 : decode cX6_settle 92 = .ok (.iload_n 3, 1) := by decide +kernel
theorem dX6_settle_93 : decode cX6_settle 93 = .ok (.iaload, 1) := by decide +kernel
theorem dX6_settle_94 : decode cX6_settle 94 = .ok (.aload_n 0, 1) := by decide +kernel
theorem dX6_settle_95 : decode cX6_settle 95 = .ok (.getfield 56, 3) := by decide +kernel
theorem dX6_settle_98 : decode cX6_settle 98 = .ok (.iload 4, 2) := by decide +kernel
theorem dX6_settle_100 : decode cX6_settle 100 = .ok (.iaload, 1) := by decide +kernel
theorem dX6_settle_101 : decode cX6_settle 101 = .ok (.if_icmp .ne 7, 3) := by decide +kernel
theorem dX6_settle_104 : decode cX6_settle 104 = .ok (.iconst 1, 1) := by decide +kernel
theorem dX6_settle_105 : decode cX6_settle 105 = .ok (.goto 4, 3) := by decide +kernel
theorem dX6_settle_108 : decode cX6_settle 108 = .ok (.iconst 0, 1) := by decide +kernel
theorem dX6_settle_109 : decode cX6_settle 109 = .ok (.istore 5, 2) := by decide +kernel
theorem dX6_settle_111 : decode cX6_settle 111 = .ok (.iload 5, 2) := by decide +kernel
theorem dX6_settle_113 : decode cX6_settle 113 = .ok (.ifCond .eq 67, 3) := by decide +kernel
theorem dX6_settle_116 : decode cX6_settle 116 = .ok (.aload_n 0, 1) := by decide +kernel
theorem dX6_settle_117 : decode cX6_settle 117 = .ok (.getfield 78, 3) := by decide +kernel
theorem dX6_settle_120 : decode cX6_settle 120 = .ok (.iload 4, 2) := by decide +kernel
theorem dX6_settle_122 : decode cX6_settle 122 = .ok (.iaload, 1) := by decide +kernel
theorem dX6_settle_123 : decode cX6_settle 123 = .ok (.aload_n 0, 1) := by decide +kernel
theorem dX6_settle_124 : decode cX6_settle 124 = .ok (.getfield 78, 3) := by decide +kernel
theorem dX6_settle_127 : decode cX6_settle 127 = .ok (.iload_n 3, 1) := by decide +kernel
theorem dX6_settle_128 : decode cX6_settle 128 = .ok (.iaload, 1) := by decide +kernel
theorem dX6_settle_129 : decode cX6_settle 129 = .ok (.if_icmp .ge 51, 3) := by decide +kernel
theorem dX6_settle_132 : decode cX6_settle 132 = .ok (.aload_n 0, 1) := by decide +kernel
theorem dX6_settle_133 : decode cX6_settle 133 = .ok (.getfield 62, 3) := by decide +kernel
theorem dX6_settle_136 : decode cX6_settle 136 = .ok (.iload_n 3, 1) := by decide +kernel
theorem dX6_settle_137 : decode cX6_settle 137 = .ok (.iaload, 1) := by decide +kernel
theorem dX6_settle_138 : decode cX6_settle 138 = .ok (.iload 4, 2) := by decide +kernel
theorem dX6_settle_140 : decode cX6_settle 140 = .ok (.if_icmp .eq 25, 3) := by decide +kernel
theorem dX6_settle_143 : decode cX6_settle 143 = .ok (.aload_n 0, 1) := by decide +kernel
theorem dX6_settle_144 : decode cX6_settle 144 = .ok (.iload_n 3, 1) := by decide +kernel
theorem dX6_settle_145 : decode cX6_settle 145 = .ok (.iload 4, 2) := by decide +kernel
theorem dX6_settle_147 : decode cX6_settle 147 = .ok (.iload_n 1, 1) := by decide +kernel
theorem dX6_settle_148 : decode cX6_settle 148 = .ok (.invokevirtual 167, 3) := by decide +kernel
theorem dX6_settle_151 : decode cX6_settle 151 = .ok (.ifCond .ne 14, 3) := by decide +kernel
theorem dX6_settle_154 : decode cX6_settle 154 = .ok (.aload_n 0, 1) := by decide +kernel
theorem dX6_settle_155 : decode cX6_settle 155 = .ok (.iload 4, 2) := by decide +kernel
theorem dX6_settle_157 : decode cX6_settle 157 = .ok (.iload_n 3, 1) := by decide +kernel
theorem dX6_settle_158 : decode cX6_settle 158 = .ok (.iload_n 1, 1) := by decide +kernel
theorem dX6_settle_159 : decode cX6_settle 159 = .ok (.invokevirtual 167, 3) := by decide +kernel
theorem dX6_settle_162 : decode cX6_settle 162 = .ok (.ifCond .eq 18, 3) := by decide +kernel
theorem dX6_settle_165 : decode cX6_settle 165 = .ok (.aload_n 0, 1) := by decide +kernel
theorem dX6_settle_166 : decode cX6_settle 166 = .ok (.getfield 78, 3) := by decide +kernel
theorem dX6_settle_169 : decode cX6_settle 169 = .ok (.iload_n 3, 1) := by decide +kernel
theorem dX6_settle_170 : decode cX6_settle 170 = .ok (.aload_n 0, 1) := by decide +kernel
theorem dX6_settle_171 : decode cX6_settle 171 = .ok (.getfield 78, 3) := by decide +kernel
theorem dX6_settle_174 : decode cX6_settle 174 = .ok (.iload 4, 2) := by decide +kernel
theorem dX6_settle_176 : decode cX6_settle 176 = .ok (.iaload, 1) := by decide +kernel
theorem dX6_settle_177 : decode cX6_settle 177 = .ok (.iastore, 1) := by decide +kernel
theorem dX6_settle_178 : decode cX6_settle 178 = .ok (.iconst 1, 1) := by decide +kernel
theorem dX6_settle_179 : decode cX6_settle 179 = .ok (.istore_n 2, 1) := by decide +kernel
theorem dX6_settle_180 : decode cX6_settle 180 = .ok (.iinc 4 1, 3) := by decide +kernel
theorem dX6_settle_183 : decode cX6_settle 183 = .ok (.goto (-125), 3) := by decide +kernel
theorem dX6_settle_186 : decode cX6_settle 186 = .ok (.iinc 3 1, 3) := by decide +kernel
theorem dX6_settle_189 : decode cX6_settle 189 = .ok (.goto (-142), 3) := by decide +kernel
theorem dX6_settle_192 : decode cX6_settle 192 = .ok (.goto (-153), 3) := by decide +kernel
theorem dX6_settle_195 : decode cX6_settle 195 = .ok (.return_, 1) := by decide +kernel
set_option maxRecDepth 20000 in
theorem ggX6_tells_X6_ageOf : GoodIn wsX6_tells wsX6_ageOf := goodIn_r _ [11, 1, 12, 22, 23, 24, 25, 26, 27, 28, 29, 30, 31, 32, 33, 34, 35, 36, 37, 38, 39, 40, 41, 42, 43, 44, 45, 46, 47, 48, 49, 50, 51, 52, 53, 54, 55, 56, 57, 58, 59] (by decide +kernel) (by decide +kernel)
set_option maxRecDepth 20000 in
theorem gX6_tells_X6_ageOf : GoodIn wsX6_tells (wsV RX6 163 RX6 yX6_ageOf wsX6_ageOf) := goodIn_app (goodIn_of _ (by decide +kernel)) ggX6_tells_X6_ageOf
set_option maxRecDepth 20000 in
theorem ggX6_tells_X6_settle : GoodIn wsX6_tells wsX6_settle := goodIn_r _ [16, 17, 6, 1, 2, 4, 18, 19, 20, 10, 21, 5, 7, 8, 9, 11, 12, 22, 23, 24, 25, 26, 27, 28, 29, 30, 31, 32, 33, 34, 35, 36, 37, 38, 39, 40, 41, 42, 43, 44, 45, 46, 47, 48, 49, 50, 51, 52, 53, 54, 55, 56, 57, 58, 59] (by decide +kernel) (by decide +kernel)
set_option maxRecDepth 20000 in
theorem gX6_tells_X6_settle : GoodIn wsX6_tells (wsV RX6 170 RX6 yX6_settle wsX6_settle) := goodIn_app (goodIn_of _ (by decide +kernel)) ggX6_tells_X6_settle
theorem dX6_tells_0 : decode cX6_tells 0 = .ok (.iload_n 2, 1) := by decide +kernel
theorem dX6_tells_1 : decode cX6_tells 1 = .ok (.iconst 3, 1) := by decide +kernel
theorem dX6_tells_2 : decode cX6_tells 2 = .ok (.if_icmp .ge 37, 3) := by decide +kernel
theorem dX6_tells_5 : decode cX6_tells 5 = .ok (.iload_n 2, 1) := by decide +kernel
theorem dX6_tells_6 : decode cX6_tells 6 = .ok (.ifCond .ne 12, 3) := by decide +kernel
theorem dX6_tells_9 : decode cX6_tells 9 = .ok (.aload_n 0, 1) := by decide +kernel
theorem dX6_tells_10 : decode cX6_tells 10 = .ok (.getfield 53, 3) := by decide +kernel
theorem dX6_tells_13 : decode cX6_tells 13 = .ok (.iload_n 1, 1) := by decide +kernel
theorem dX6_tells_14 : decode cX6_tells 14 = .ok (.iaload, 1) := by decide +kernel
theorem dX6_tells_15 : decode cX6_tells 15 = .ok (.goto 23, 3) := by decide +kernel
theorem dX6_tells_18 : decode cX6_tells 18 = .ok (.iload_n 2, 1) := by decide +kernel
theorem dX6_tells_19 : decode cX6_tells 19 = .ok (.iconst 1, 1) := by decide +kernel
theorem dX6_tells_20 : decode cX6_tells 20 = .ok (.if_icmp .ne 12, 3) := by decide +kernel
theorem dX6_tells_23 : decode cX6_tells 23 = .ok (.aload_n 0, 1) := by decide +kernel
theorem dX6_tells_24 : decode cX6_tells 24 = .ok (.getfield 56, 3) := by decide +kernel
theorem dX6_tells_27 : decode cX6_tells 27 = .ok (.iload_n 1, 1) := by decide +kernel
theorem dX6_tells_28 : decode cX6_tells 28 = .ok (.iaload, 1) := by decide +kernel
theorem dX6_tells_29 : decode cX6_tells 29 = .ok (.goto 9, 3) := by decide +kernel
theorem dX6_tells_32 : decode cX6_tells 32 = .ok (.aload_n 0, 1) := by decide +kernel
theorem dX6_tells_33 : decode cX6_tells 33 = .ok (.getfield 59, 3) := by decide +kernel
theorem dX6_tells_36 : decode cX6_tells 36 = .ok (.iload_n 1, 1) := by decide +kernel
theorem dX6_tells_37 : decode cX6_tells 37 = .ok (.iaload, 1) := by decide +kernel
theorem dX6_tells_38 : decode cX6_tells 38 = .ok (.ireturn, 1) := by decide +kernel
theorem dX6_tells_39 : decode cX6_tells 39 = .ok (.iload_n 2, 1) := by decide +kernel
theorem dX6_tells_40 : decode cX6_tells 40 = .ok (.bipush 6, 2) := by decide +kernel
theorem dX6_tells_42 : decode cX6_tells 42 = .ok (.if_icmp .ge 38, 3) := by decide +kernel
theorem dX6_tells_45 : decode cX6_tells 45 = .ok (.iload_n 2, 1) := by decide +kernel
theorem dX6_tells_46 : decode cX6_tells 46 = .ok (.iconst 3, 1) := by decide +kernel
theorem dX6_tells_47 : decode cX6_tells 47 = .ok (.if_icmp .ne 12, 3) := by decide +kernel
theorem dX6_tells_50 : decode cX6_tells 50 = .ok (.aload_n 0, 1) := by decide +kernel
theorem dX6_tells_51 : decode cX6_tells 51 = .ok (.getfield 62, 3) := by decide +kernel
theorem dX6_tells_54 : decode cX6_tells 54 = .ok (.iload_n 1, 1) := by decide +kernel
theorem dX6_tells_55 : decode cX6_tells 55 = .ok (.iaload, 1) := by decide +kernel
theorem dX6_tells_56 : decode cX6_tells 56 = .ok (.goto 23, 3) := by decide +kernel
theorem dX6_tells_59 : decode cX6_tells 59 = .ok (.iload_n 2, 1) := by decide +kernel
theorem dX6_tells_60 : decode cX6_tells 60 = .ok (.iconst 4, 1) := by decide +kernel
theorem dX6_tells_61 : decode cX6_tells 61 = .ok (.if_icmp .ne 12, 3) := by decide +kernel
theorem dX6_tells_64 : decode cX6_tells 64 = .ok (.aload_n 0, 1) := by decide +kernel
theorem dX6_tells_65 : decode cX6_tells 65 = .ok (.getfield 65, 3) := by decide +kernel
theorem dX6_tells_68 : decode cX6_tells 68 = .ok (.iload_n 1, 1) := by decide +kernel
theorem dX6_tells_69 : decode cX6_tells 69 = .ok (.iaload, 1) := by decide +kernel
theorem dX6_tells_70 : decode cX6_tells 70 = .ok (.goto 9, 3) := by decide +kernel
theorem dX6_tells_73 : decode cX6_tells 73 = .ok (.aload_n 0, 1) := by decide +kernel
theorem dX6_tells_74 : decode cX6_tells 74 = .ok (.iload_n 1, 1) := by decide +kernel
theorem dX6_tells_75 : decode cX6_tells 75 = .ok (.iload_n 3, 1) := by decide +kernel
theorem dX6_tells_76 : decode cX6_tells 76 = .ok (.invokevirtual 163, 3) := by decide +kernel
theorem dX6_tells_79 : decode cX6_tells 79 = .ok (.ireturn, 1) := by decide +kernel
theorem dX6_tells_80 : decode cX6_tells 80 = .ok (.aload_n 0, 1) := by decide +kernel
theorem dX6_tells_81 : decode cX6_tells 81 = .ok (.iload_n 3, 1) := by decide +kernel
theorem dX6_tells_82 : decode cX6_tells 82 = .ok (.invokevirtual 170, 3) := by decide +kernel
theorem dX6_tells_85 : decode cX6_tells 85 = .ok (.aload_n 0, 1) := by decide +kernel
theorem dX6_tells_86 : decode cX6_tells 86 = .ok (.getfield 78, 3) := by decide +kernel
theorem dX6_tells_89 : decode cX6_tells 89 = .ok (.iload_n 1, 1) := by decide +kernel
theorem dX6_tells_90 : decode cX6_tells 90 = .ok (.iaload, 1) := by decide +kernel
theorem dX6_tells_91 : decode cX6_tells 91 = .ok (.ireturn, 1) := by decide +kernel
theorem dX6_day_0 : decode cX6_day 0 = .ok (.aload_n 0, 1) := by decide +kernel
theorem dX6_day_1 : decode cX6_day 1 = .ok (.iconst 0, 1) := by decide +kernel
theorem dX6_day_2 : decode cX6_day 2 = .ok (.putfield 105, 3) := by decide +kernel
theorem dX6_day_5 : decode cX6_day 5 = .ok (.aload_n 0, 1) := by decide +kernel
theorem dX6_day_6 : decode cX6_day 6 = .ok (.getfield 7, 3) := by decide +kernel
theorem dX6_day_9 : decode cX6_day 9 = .ok (.ireturn, 1) := by decide +kernel
set_option maxRecDepth 20000 in
theorem ggX6_actOf_X6_within : GoodIn wsX6_actOf wsX6_within := goodIn_r _ [10] (by decide +kernel) (by decide +kernel)
set_option maxRecDepth 20000 in
theorem gX6_actOf_X6_within : GoodIn wsX6_actOf (va_wsS RX6 111 yX6_within wsX6_within) := goodIn_app (goodIn_of _ (by decide +kernel)) ggX6_actOf_X6_within
set_option maxRecDepth 20000 in
theorem ggX6_actOf_X6_refused : GoodIn wsX6_actOf wsX6_refused := goodIn_r _ [14, 15, 16, 17, 18, 19, 20, 21, 22, 23, 24, 25, 26, 27, 28, 29, 30, 31, 32, 33, 34, 35, 36, 37, 38, 39, 40, 41, 42, 43, 44, 45, 46, 47, 48, 49, 50, 51, 52, 53] (by decide +kernel) (by decide +kernel)
set_option maxRecDepth 20000 in
theorem gX6_actOf_X6_refused : GoodIn wsX6_actOf (wsV RX6 115 RX6 yX6_refused wsX6_refused) := goodIn_app (goodIn_of _ (by decide +kernel)) ggX6_actOf_X6_refused
theorem dX6_actOf_0 : decode cX6_actOf 0 = .ok (.aload_n 0, 1) := by decide +kernel
theorem dX6_actOf_1 : decode cX6_actOf 1 = .ok (.iload_n 1, 1) := by decide +kernel
theorem dX6_actOf_2 : decode cX6_actOf 2 = .ok (.iconst 0, 1) := by decide +kernel
theorem dX6_actOf_3 : decode cX6_actOf 3 = .ok (.aload_n 0, 1) := by decide +kernel
theorem dX6_actOf_4 : decode cX6_actOf 4 = .ok (.getfield 119, 3) := by decide +kernel
theorem dX6_actOf_7 : decode cX6_actOf 7 = .ok (.iconst 1, 1) := by decide +kernel
theorem dX6_actOf_8 : decode cX6_actOf 8 = .ok (.isub, 1) := by decide +kernel
theorem dX6_actOf_9 : decode cX6_actOf 9 = .ok (.invokestatic 111, 3) := by decide +kernel
theorem dX6_actOf_12 : decode cX6_actOf 12 = .ok (.ifCond .ne 7, 3) := by decide +kernel
theorem dX6_actOf_15 : decode cX6_actOf 15 = .ok (.iconst 1, 1) := by decide +kernel
theorem dX6_actOf_16 : decode cX6_actOf 16 = .ok (.goto 17, 3) := by decide +kernel
theorem dX6_actOf_19 : decode cX6_actOf 19 = .ok (.iload_n 2, 1) := by decide +kernel
theorem dX6_actOf_20 : decode cX6_actOf 20 = .ok (.iconst 0, 1) := by decide +kernel
theorem dX6_actOf_21 : decode cX6_actOf 21 = .ok (.iconst 4, 1) := by decide +kernel
theorem dX6_actOf_22 : decode cX6_actOf 22 = .ok (.invokestatic 111, 3) := by decide +kernel
theorem dX6_actOf_25 : decode cX6_actOf 25 = .ok (.ifCond .ne 7, 3) := by decide +kernel
theorem dX6_actOf_28 : decode cX6_actOf 28 = .ok (.iconst 2, 1) := by decide +kernel
theorem dX6_actOf_29 : decode cX6_actOf 29 = .ok (.goto 4, 3) := by decide +kernel
theorem dX6_actOf_32 : decode cX6_actOf 32 = .ok (.iconst 0, 1) := by decide +kernel
theorem dX6_actOf_33 : decode cX6_actOf 33 = .ok (.invokevirtual 115, 3) := by decide +kernel
theorem dX6_actOf_36 : decode cX6_actOf 36 = .ok (.ifCond .eq 5, 3) := by decide +kernel
theorem dX6_actOf_39 : decode cX6_actOf 39 = .ok (.iconst 0, 1) := by decide +kernel
theorem dX6_actOf_40 : decode cX6_actOf 40 = .ok (.ireturn, 1) := by decide +kernel
theorem dX6_actOf_41 : decode cX6_actOf 41 = .ok (.iload_n 2, 1) := by decide +kernel
theorem dX6_actOf_42 : decode cX6_actOf 42 = .ok (.ifCond .ne 12, 3) := by decide +kernel
theorem dX6_actOf_45 : decode cX6_actOf 45 = .ok (.aload_n 0, 1) := by decide +kernel
theorem dX6_actOf_46 : decode cX6_actOf 46 = .ok (.getfield 13, 3) := by decide +kernel
theorem dX6_actOf_49 : decode cX6_actOf 49 = .ok (.iload_n 1, 1) := by decide +kernel
theorem dX6_actOf_50 : decode cX6_actOf 50 = .ok (.iaload, 1) := by decide +kernel
theorem dX6_actOf_51 : decode cX6_actOf 51 = .ok (.goto 51, 3) := by decide +kernel
theorem dX6_actOf_54 : decode cX6_actOf 54 = .ok (.iload_n 2, 1) := by decide +kernel
theorem dX6_actOf_55 : decode cX6_actOf 55 = .ok (.iconst 1, 1) := by decide +kernel
theorem dX6_actOf_56 : decode cX6_actOf 56 = .ok (.if_icmp .ne 12, 3) := by decide +kernel
theorem dX6_actOf_59 : decode cX6_actOf 59 = .ok (.aload_n 0, 1) := by decide +kernel
theorem dX6_actOf_60 : decode cX6_actOf 60 = .ok (.getfield 17, 3) := by decide +kernel
theorem dX6_actOf_63 : decode cX6_actOf 63 = .ok (.iload_n 1, 1) := by decide +kernel
theorem dX6_actOf_64 : decode cX6_actOf 64 = .ok (.iaload, 1) := by decide +kernel
theorem dX6_actOf_65 : decode cX6_actOf 65 = .ok (.goto 37, 3) := by decide +kernel
theorem dX6_actOf_68 : decode cX6_actOf 68 = .ok (.iload_n 2, 1) := by decide +kernel
theorem dX6_actOf_69 : decode cX6_actOf 69 = .ok (.iconst 2, 1) := by decide +kernel
theorem dX6_actOf_70 : decode cX6_actOf 70 = .ok (.if_icmp .ne 12, 3) := by decide +kernel
theorem dX6_actOf_73 : decode cX6_actOf 73 = .ok (.aload_n 0, 1) := by decide +kernel
theorem dX6_actOf_74 : decode cX6_actOf 74 = .ok (.getfield 20, 3) := by decide +kernel
theorem dX6_actOf_77 : decode cX6_actOf 77 = .ok (.iload_n 1, 1) := by decide +kernel
theorem dX6_actOf_78 : decode cX6_actOf 78 = .ok (.iaload, 1) := by decide +kernel
theorem dX6_actOf_79 : decode cX6_actOf 79 = .ok (.goto 23, 3) := by decide +kernel
theorem dX6_actOf_82 : decode cX6_actOf 82 = .ok (.iload_n 2, 1) := by decide +kernel
theorem dX6_actOf_83 : decode cX6_actOf 83 = .ok (.iconst 3, 1) := by decide +kernel
theorem dX6_actOf_84 : decode cX6_actOf 84 = .ok (.if_icmp .ne 12, 3) := by decide +kernel
theorem dX6_actOf_87 : decode cX6_actOf 87 = .ok (.aload_n 0, 1) := by decide +kernel
theorem dX6_actOf_88 : decode cX6_actOf 88 = .ok (.getfield 23, 3) := by decide +kernel
theorem dX6_actOf_91 : decode cX6_actOf 91 = .ok (.iload_n 1, 1) := by decide +kernel
theorem dX6_actOf_92 : decode cX6_actOf 92 = .ok (.iaload, 1) := by decide +kernel
theorem dX6_actOf_93 : decode cX6_actOf 93 = .ok (.goto 9, 3) := by decide +kernel
theorem dX6_actOf_96 : decode cX6_actOf 96 = .ok (.aload_n 0, 1) := by decide +kernel
theorem dX6_actOf_97 : decode cX6_actOf 97 = .ok (.getfield 35, 3) := by decide +kernel
theorem dX6_actOf_100 : decode cX6_actOf 100 = .ok (.iload_n 1, 1) := by decide +kernel
theorem dX6_actOf_101 : decode cX6_actOf 101 = .ok (.iaload, 1) := by decide +kernel
theorem dX6_actOf_102 : decode cX6_actOf 102 = .ok (.ireturn, 1) := by decide +kernel
set_option maxRecDepth 20000 in
theorem ggX6_asOf_X6_isPerson : GoodIn wsX6_asOf wsX6_isPerson := goodIn_r _ [5, 6, 7, 8, 4, 9, 81, 82, 83, 84, 85, 86, 87, 88, 89, 90, 91, 92, 93, 94, 95, 96, 97, 98, 99, 100, 101, 102, 103, 104, 105, 106, 107, 108, 109, 110, 111, 112, 113, 114, 115, 116, 117, 118] (by decide +kernel) (by decide +kernel)
set_option maxRecDepth 20000 in
theorem gX6_asOf_X6_isPerson : GoodIn wsX6_asOf (wsV RX6 132 RX6 yX6_isPerson wsX6_isPerson) := goodIn_app (goodIn_of _ (by decide +kernel)) ggX6_asOf_X6_isPerson
set_option maxRecDepth 20000 in
theorem ggX6_asOf_X6_within : GoodIn wsX6_asOf wsX6_within := goodIn_r _ [9] (by decide +kernel) (by decide +kernel)
set_option maxRecDepth 20000 in
theorem gX6_asOf_X6_within : GoodIn wsX6_asOf (va_wsS RX6 111 yX6_within wsX6_within) := goodIn_app (goodIn_of _ (by decide +kernel)) ggX6_asOf_X6_within
set_option maxRecDepth 20000 in
theorem ggX6_asOf_X6_isDay : GoodIn wsX6_asOf wsX6_isDay := goodIn_r _ [13, 14, 7, 8, 4, 9, 81, 82, 83, 84, 85, 86, 87, 88, 89, 90, 91, 92, 93, 94, 95, 96, 97, 98, 99, 100, 101, 102, 103, 104, 105, 106, 107, 108, 109, 110, 111, 112, 113, 114, 115, 116, 117, 118] (by decide +kernel) (by decide +kernel)
set_option maxRecDepth 20000 in
theorem gX6_asOf_X6_isDay : GoodIn wsX6_asOf (wsV RX6 135 RX6 yX6_isDay wsX6_isDay) := goodIn_app (goodIn_of _ (by decide +kernel)) ggX6_asOf_X6_isDay
set_option maxRecDepth 20000 in
theorem ggX6_asOf_X6_refused : GoodIn wsX6_asOf wsX6_refused := goodIn_r _ [18, 19, 81, 82, 83, 84, 85, 86, 87, 88, 89, 90, 91, 92, 93, 94, 95, 96, 97, 98, 99, 100, 101, 102, 103, 104, 105, 106, 107, 108, 109, 110, 111, 112, 113, 114, 115, 116, 117, 118] (by decide +kernel) (by decide +kernel)
set_option maxRecDepth 20000 in
theorem gX6_asOf_X6_refused : GoodIn wsX6_asOf (wsV RX6 115 RX6 yX6_refused wsX6_refused) := goodIn_app (goodIn_of _ (by decide +kernel)) ggX6_asOf_X6_refused
set_option maxRecDepth 20000 in
theorem ggX6_asOf_X6_goThrough : GoodIn wsX6_asOf wsX6_goThrough := goodIn_r _ [23, 24, 25, 26, 27, 28, 29, 30, 31, 32, 33, 34, 35, 36, 37, 38, 39, 6, 40, 41, 42, 4, 43, 44, 45, 46, 47, 48, 49, 50, 51, 52, 53, 54, 55, 56, 57, 58, 59, 60, 61, 62, 63, 81, 82, 83, 84, 85, 86, 87, 88, 89, 90, 91, 92, 93, 94, 95, 96, 97, 98, 99, 100, 101, 102, 103, 104, 105, 106, 107, 108, 109, 110, 111, 112, 113, 114, 115, 116, 117, 118] (by decide +kernel) (by decide +kernel)
set_option maxRecDepth 20000 in
theorem gX6_asOf_X6_goThrough : GoodIn wsX6_asOf (wsV RX6 173 RX6 yX6_goThrough wsX6_goThrough) := goodIn_app (goodIn_of _ (by decide +kernel)) ggX6_asOf_X6_goThrough
set_option maxRecDepth 20000 in
theorem ggX6_asOf_X6_tells : GoodIn wsX6_asOf wsX6_tells := goodIn_r _ [67, 25, 26, 27, 28, 29, 68, 69, 70, 71, 4, 72, 30, 73, 74, 75, 76, 6, 77, 78, 79, 80, 81, 82, 83, 84, 85, 86, 87, 88, 89, 90, 91, 92, 93, 94, 95, 96, 97, 98, 99, 100, 101, 102, 103, 104, 105, 106, 107, 108, 109, 110, 111, 112, 113, 114, 115, 116, 117, 118] (by decide +kernel) (by decide +kernel)
set_option maxRecDepth 20000 in
theorem gX6_asOf_X6_tells : GoodIn wsX6_asOf (wsV RX6 177 RX6 yX6_tells wsX6_tells) := goodIn_app (goodIn_of _ (by decide +kernel)) ggX6_asOf_X6_tells
theorem dX6_asOf_0 : decode cX6_asOf 0 = .ok (.aload_n 0, 1) := by decide +kernel
theorem dX6_asOf_1 : decode cX6_asOf 1 = .ok (.aload_n 0, 1) := by decide +kernel
theorem dX6_asOf_2 : decode cX6_asOf 2 = .ok (.iload_n 1, 1) := by decide +kernel
theorem dX6_asOf_3 : decode cX6_asOf 3 = .ok (.invokevirtual 132, 3) := by decide +kernel
theorem dX6_asOf_6 : decode cX6_asOf 6 = .ok (.ifCond .ne 7, 3) := by decide +kernel
theorem dX6_asOf_9 : decode cX6_asOf 9 = .ok (.iconst 1, 1) := by decide +kernel
theorem dX6_asOf_10 : decode cX6_asOf 10 = .ok (.goto 35, 3) := by decide +kernel
theorem dX6_asOf_13 : decode cX6_asOf 13 = .ok (.iload_n 2, 1) := by decide +kernel
theorem dX6_asOf_14 : decode cX6_asOf 14 = .ok (.iconst 0, 1) := by decide +kernel
theorem dX6_asOf_15 : decode cX6_asOf 15 = .ok (.bipush 6, 2) := by decide +kernel
theorem dX6_asOf_17 : decode cX6_asOf 17 = .ok (.invokestatic 111, 3) := by decide +kernel
theorem dX6_asOf_20 : decode cX6_asOf 20 = .ok (.ifCond .eq 20, 3) := by decide +kernel
theorem dX6_asOf_23 : decode cX6_asOf 23 = .ok (.aload_n 0, 1) := by decide +kernel
theorem dX6_asOf_24 : decode cX6_asOf 24 = .ok (.iload_n 3, 1) := by decide +kernel
theorem dX6_asOf_25 : decode cX6_asOf 25 = .ok (.invokevirtual 135, 3) := by decide +kernel
theorem dX6_asOf_28 : decode cX6_asOf 28 = .ok (.ifCond .eq 12, 3) := by decide +kernel
theorem dX6_asOf_31 : decode cX6_asOf 31 = .ok (.aload_n 0, 1) := by decide +kernel
theorem dX6_asOf_32 : decode cX6_asOf 32 = .ok (.iload 4, 2) := by decide +kernel
theorem dX6_asOf_34 : decode cX6_asOf 34 = .ok (.invokevirtual 135, 3) := by decide +kernel
theorem dX6_asOf_37 : decode cX6_asOf 37 = .ok (.ifCond .ne 7, 3) := by decide +kernel
theorem dX6_asOf_40 : decode cX6_asOf 40 = .ok (.iconst 2, 1) := by decide +kernel
theorem dX6_asOf_41 : decode cX6_asOf 41 = .ok (.goto 4, 3) := by decide +kernel
theorem dX6_asOf_44 : decode cX6_asOf 44 = .ok (.iconst 0, 1) := by decide +kernel
theorem dX6_asOf_45 : decode cX6_asOf 45 = .ok (.invokevirtual 115, 3) := by decide +kernel
theorem dX6_asOf_48 : decode cX6_asOf 48 = .ok (.ifCond .eq 5, 3) := by decide +kernel
theorem dX6_asOf_51 : decode cX6_asOf 51 = .ok (.iconst 0, 1) := by decide +kernel
theorem dX6_asOf_52 : decode cX6_asOf 52 = .ok (.ireturn, 1) := by decide +kernel
theorem dX6_asOf_53 : decode cX6_asOf 53 = .ok (.aload_n 0, 1) := by decide +kernel
theorem dX6_asOf_54 : decode cX6_asOf 54 = .ok (.iload_n 3, 1) := by decide +kernel
theorem dX6_asOf_55 : decode cX6_asOf 55 = .ok (.iload 4, 2) := by decide +kernel
theorem dX6_asOf_57 : decode cX6_asOf 57 = .ok (.invokevirtual 173, 3) := by decide +kernel
theorem dX6_asOf_60 : decode cX6_asOf 60 = .ok (.aload_n 0, 1) := by decide +kernel
theorem dX6_asOf_61 : decode cX6_asOf 61 = .ok (.iload_n 1, 1) := by decide +kernel
theorem dX6_asOf_62 : decode cX6_asOf 62 = .ok (.iload_n 2, 1) := by decide +kernel
theorem dX6_asOf_63 : decode cX6_asOf 63 = .ok (.iload_n 3, 1) := by decide +kernel
theorem dX6_asOf_64 : decode cX6_asOf 64 = .ok (.invokevirtual 177, 3) := by decide +kernel
theorem dX6_asOf_67 : decode cX6_asOf 67 = .ok (.ireturn, 1) := by decide +kernel
set_option maxRecDepth 20000 in
theorem ggX6_now_X6_asOf : GoodIn wsX6_now wsX6_asOf := goodIn_r _ [6, 7, 8, 9, 5, 10, 11, 12, 13, 14, 15, 16, 17, 18, 1, 19, 20, 21, 22, 23, 24, 25, 26, 27, 28, 29, 30, 31, 32, 33, 34, 35, 36, 37, 38, 39, 40, 41, 42, 43, 44, 45, 46, 47, 48, 49, 50, 51, 52, 53, 54, 55, 56, 57, 58, 59, 60, 61, 62, 63, 64, 65, 66, 67, 68, 69, 70, 71, 72, 73, 74, 75, 76, 77, 78, 79, 80, 81, 82, 83, 84, 85, 86, 87, 88, 89, 90, 91, 92, 93, 94, 95, 96, 97, 98, 99, 100, 101, 102, 103, 104, 105, 106, 107, 108, 109, 110, 111, 112, 113, 114, 115, 116, 117, 118, 119, 120, 121, 122] (by decide +kernel) (by decide +kernel)
set_option maxRecDepth 20000 in
theorem gX6_now_X6_asOf : GoodIn wsX6_now (wsV RX6 181 RX6 yX6_asOf wsX6_asOf) := goodIn_app (goodIn_of _ (by decide +kernel)) ggX6_now_X6_asOf
theorem dX6_now_0 : decode cX6_now 0 = .ok (.aload_n 0, 1) := by decide +kernel
theorem dX6_now_1 : decode cX6_now 1 = .ok (.iload_n 1, 1) := by decide +kernel
theorem dX6_now_2 : decode cX6_now 2 = .ok (.iload_n 2, 1) := by decide +kernel
theorem dX6_now_3 : decode cX6_now 3 = .ok (.aload_n 0, 1) := by decide +kernel
theorem dX6_now_4 : decode cX6_now 4 = .ok (.getfield 7, 3) := by decide +kernel
theorem dX6_now_7 : decode cX6_now 7 = .ok (.aload_n 0, 1) := by decide +kernel
theorem dX6_now_8 : decode cX6_now 8 = .ok (.getfield 7, 3) := by decide +kernel
theorem dX6_now_11 : decode cX6_now 11 = .ok (.invokevirtual 181, 3) := by decide +kernel
theorem dX6_now_14 : decode cX6_now 14 = .ok (.ireturn, 1) := by decide +kernel
set_option maxRecDepth 20000 in
theorem ggX6_households_X6_within : GoodIn wsX6_households wsX6_within := goodIn_r _ [7] (by decide +kernel) (by decide +kernel)
set_option maxRecDepth 20000 in
theorem gX6_households_X6_within : GoodIn wsX6_households (va_wsS RX6 111 yX6_within wsX6_within) := goodIn_app (goodIn_of _ (by decide +kernel)) ggX6_households_X6_within
set_option maxRecDepth 20000 in
theorem ggX6_households_X6_isDay : GoodIn wsX6_households wsX6_isDay := goodIn_r _ [11, 12, 4, 5, 6, 7, 73, 74, 75, 76, 77, 78, 79, 80, 81, 82, 83, 84, 85, 86, 87, 88, 89, 90, 91, 92, 93, 94, 95, 96, 97, 98, 99, 100, 101, 102, 103, 104, 105, 106, 107, 108, 109, 110] (by decide +kernel) (by decide +kernel)
set_option maxRecDepth 20000 in
theorem gX6_households_X6_isDay : GoodIn wsX6_households (wsV RX6 135 RX6 yX6_isDay wsX6_isDay) := goodIn_app (goodIn_of _ (by decide +kernel)) ggX6_households_X6_isDay
set_option maxRecDepth 20000 in
theorem ggX6_households_X6_refused : GoodIn wsX6_households wsX6_refused := goodIn_r _ [16, 17, 73, 74, 75, 76, 77, 78, 79, 80, 81, 82, 83, 84, 85, 86, 87, 88, 89, 90, 91, 92, 93, 94, 95, 96, 97, 98, 99, 100, 101, 102, 103, 104, 105, 106, 107, 108, 109, 110] (by decide +kernel) (by decide +kernel)
set_option maxRecDepth 20000 in
theorem gX6_households_X6_refused : GoodIn wsX6_households (wsV RX6 115 RX6 yX6_refused wsX6_refused) := goodIn_app (goodIn_of _ (by decide +kernel)) ggX6_households_X6_refused
set_option maxRecDepth 20000 in
theorem ggX6_households_X6_goThrough : GoodIn wsX6_households wsX6_goThrough := goodIn_r _ [21, 22, 23, 2, 24, 25, 26, 27, 28, 29, 30, 31, 32, 33, 34, 35, 36, 1, 37, 38, 39, 6, 40, 41, 42, 43, 44, 45, 46, 47, 48, 49, 50, 51, 52, 53, 54, 55, 56, 57, 58, 59, 60, 73, 74, 75, 76, 77, 78, 79, 80, 81, 82, 83, 84, 85, 86, 87, 88, 89, 90, 91, 92, 93, 94, 95, 96, 97, 98, 99, 100, 101, 102, 103, 104, 105, 106, 107, 108, 109, 110] (by decide +kernel) (by decide +kernel)
set_option maxRecDepth 20000 in
theorem gX6_households_X6_goThrough : GoodIn wsX6_households (wsV RX6 173 RX6 yX6_goThrough wsX6_goThrough) := goodIn_app (goodIn_of _ (by decide +kernel)) ggX6_households_X6_goThrough
set_option maxRecDepth 20000 in
theorem ggX6_households_X6_settle : GoodIn wsX6_households wsX6_settle := goodIn_r _ [64, 1, 3, 23, 2, 25, 65, 66, 67, 6, 68, 26, 69, 70, 71, 72, 27, 73, 74, 75, 76, 77, 78, 79, 80, 81, 82, 83, 84, 85, 86, 87, 88, 89, 90, 91, 92, 93, 94, 95, 96, 97, 98, 99, 100, 101, 102, 103, 104, 105, 106, 107, 108, 109, 110] (by decide +kernel) (by decide +kernel)
set_option maxRecDepth 20000 in
theorem gX6_households_X6_settle : GoodIn wsX6_households (wsV RX6 170 RX6 yX6_settle wsX6_settle) := goodIn_app (goodIn_of _ (by decide +kernel)) ggX6_households_X6_settle
theorem dX6_households_0 : decode cX6_households 0 = .ok (.aload_n 0, 1) := by decide +kernel
theorem dX6_households_1 : decode cX6_households 1 = .ok (.iload_n 1, 1) := by decide +kernel
theorem dX6_households_2 : decode cX6_households 2 = .ok (.iconst 0, 1) := by decide +kernel
theorem dX6_households_3 : decode cX6_households 3 = .ok (.bipush 15, 2) := by decide +kernel
theorem dX6_households_5 : decode cX6_households 5 = .ok (.invokestatic 111, 3) := by decide +kernel
theorem dX6_households_8 : decode cX6_households 8 = .ok (.ifCond .ne 7, 3) := by decide +kernel
theorem dX6_households_11 : decode cX6_households 11 = .ok (.iconst 1, 1) := by decide +kernel
theorem dX6_households_12 : decode cX6_households 12 = .ok (.goto 24, 3) := by decide +kernel
theorem dX6_households_15 : decode cX6_households 15 = .ok (.aload_n 0, 1) := by decide +kernel
theorem dX6_households_16 : decode cX6_households 16 = .ok (.iload_n 2, 1) := by decide +kernel
theorem dX6_households_17 : decode cX6_households 17 = .ok (.invokevirtual 135, 3) := by decide +kernel
theorem dX6_households_20 : decode cX6_households 20 = .ok (.ifCond .eq 11, 3) := by decide +kernel
theorem dX6_households_23 : decode cX6_households 23 = .ok (.aload_n 0, 1) := by decide +kernel
theorem dX6_households_24 : decode cX6_households 24 = .ok (.iload_n 3, 1) := by decide +kernel
theorem dX6_households_25 : decode cX6_households 25 = .ok (.invokevirtual 135, 3) := by decide +kernel
theorem dX6_households_28 : decode cX6_households 28 = .ok (.ifCond .ne 7, 3) := by decide +kernel
theorem dX6_households_31 : decode cX6_households 31 = .ok (.iconst 2, 1) := by decide +kernel
theorem dX6_households_32 : decode cX6_households 32 = .ok (.goto 4, 3) := by decide +kernel
theorem dX6_households_35 : decode cX6_households 35 = .ok (.iconst 0, 1) := by decide +kernel
theorem dX6_households_36 : decode cX6_households 36 = .ok (.invokevirtual 115, 3) := by decide +kernel
theorem dX6_households_39 : decode cX6_households 39 = .ok (.ifCond .eq 5, 3) := by decide +kernel
theorem dX6_households_42 : decode cX6_households 42 = .ok (.iconst 0, 1) := by decide +kernel
theorem dX6_households_43 : decode cX6_households 43 = .ok (.ireturn, 1) := by decide +kernel
theorem dX6_households_44 : decode cX6_households 44 = .ok (.aload_n 0, 1) := by decide +kernel
theorem dX6_households_45 : decode cX6_households 45 = .ok (.iload_n 2, 1) := by decide +kernel
theorem dX6_households_46 : decode cX6_households 46 = .ok (.iload_n 3, 1) := by decide +kernel
theorem dX6_households_47 : decode cX6_households 47 = .ok (.invokevirtual 173, 3) := by decide +kernel
theorem dX6_households_50 : decode cX6_households 50 = .ok (.aload_n 0, 1) := by decide +kernel
theorem dX6_households_51 : decode cX6_households 51 = .ok (.iload_n 2, 1) := by decide +kernel
theorem dX6_households_52 : decode cX6_households 52 = .ok (.invokevirtual 170, 3) := by decide +kernel
theorem dX6_households_55 : decode cX6_households 55 = .ok (.iconst 0, 1) := by decide +kernel
theorem dX6_households_56 : decode cX6_households 56 = .ok (.istore 4, 2) := by decide +kernel
theorem dX6_households_58 : decode cX6_households 58 = .ok (.iconst 0, 1) := by decide +kernel
theorem dX6_households_59 : decode cX6_households 59 = .ok (.istore 5, 2) := by decide +kernel
theorem dX6_households_61 : decode cX6_households 61 = .ok (.iload 5, 2) := by decide +kernel
theorem dX6_households_63 : decode cX6_households 63 = .ok (.aload_n 0, 1) := by decide +kernel
theorem dX6_households_64 : decode cX6_households 64 = .ok (.getfield 108, 3) := by decide +kernel
theorem dX6_households_67 : decode cX6_households 67 = .ok (.if_icmp .ge 42, 3) := by decide +kernel
theorem dX6_households_70 : decode cX6_households 70 = .ok (.iload 4, 2) := by decide +kernel
theorem dX6_households_72 : decode cX6_households 72 = .ok (.aload_n 0, 1) := by decide +kernel
theorem dX6_households_73 : decode cX6_households 73 = .ok (.getfield 56, 3) := by decide +kernel
theorem dX6_households_76 : decode cX6_households 76 = .ok (.iload 5, 2) := by decide +kernel
theorem dX6_households_78 : decode cX6_households 78 = .ok (.iaload, 1) := by decide +kernel
theorem dX6_households_79 : decode cX6_households 79 = .ok (.iload_n 1, 1) := by decide +kernel
theorem dX6_households_80 : decode cX6_households 80 = .ok (.if_icmp .ne 19, 3) := by decide +kernel
theorem dX6_households_83 : decode cX6_households 83 = .ok (.aload_n 0, 1) := by decide +kernel
theorem dX6_households_84 : decode cX6_households 84 = .ok (.getfield 78, 3) := by decide +kernel
theorem dX6_households_87 : decode cX6_households 87 = .ok (.iload 5, 2) := by decide +kernel
theorem dX6_households_89 : decode cX6_households 89 = .ok (.iaload, 1) := by decide +kernel
theorem dX6_households_90 : decode cX6_households 90 = .ok (.iload 5, 2) := by decide +kernel
theorem dX6_households_92 : decode cX6_households 92 = .ok (.if_icmp .ne 7, 3) := by decide +kernel
theorem dX6_households_95 : decode cX6_households 95 = .ok (.iconst 1, 1) := by decide +kernel
theorem dX6_households_96 : decode cX6_households 96 = .ok (.goto 4, 3) := by decide +kernel
theorem dX6_households_99 : decode cX6_households 99 = .ok (.iconst 0, 1) := by decide +kernel
theorem dX6_households_100 : decode cX6_households 100 = .ok (.iadd, 1) := by decide +kernel
theorem dX6_households_101 : decode cX6_households 101 = .ok (.istore 4, 2) := by decide +kernel
theorem dX6_households_103 : decode cX6_households 103 = .ok (.iinc 5 1, 3) := by decide +kernel
theorem dX6_households_106 : decode cX6_households 106 = .ok (.goto (-45), 3) := by decide +kernel
theorem dX6_households_109 : decode cX6_households 109 = .ok (.iload 4, 2) := by decide +kernel
theorem dX6_households_111 : decode cX6_households 111 = .ok (.ireturn, 1) := by decide +kernel
set_option maxRecDepth 20000 in
theorem ggX6_money_X6_within : GoodIn wsX6_money wsX6_within := goodIn_r _ [7] (by decide +kernel) (by decide +kernel)
set_option maxRecDepth 20000 in
theorem gX6_money_X6_within : GoodIn wsX6_money (va_wsS RX6 111 yX6_within wsX6_within) := goodIn_app (goodIn_of _ (by decide +kernel)) ggX6_money_X6_within
set_option maxRecDepth 20000 in
theorem ggX6_money_X6_isDay : GoodIn wsX6_money wsX6_isDay := goodIn_r _ [11, 1, 4, 5, 6, 7, 60, 61, 62, 63, 64, 65, 66, 67, 68, 69, 70, 71, 72, 73, 74, 75, 76, 77, 78, 79, 80, 81, 82, 83, 84, 85, 86, 87, 88, 89, 90, 91, 92, 93, 94, 95, 96, 97] (by decide +kernel) (by decide +kernel)
set_option maxRecDepth 20000 in
theorem gX6_money_X6_isDay : GoodIn wsX6_money (wsV RX6 135 RX6 yX6_isDay wsX6_isDay) := goodIn_app (goodIn_of _ (by decide +kernel)) ggX6_money_X6_isDay
set_option maxRecDepth 20000 in
theorem ggX6_money_X6_refused : GoodIn wsX6_money wsX6_refused := goodIn_r _ [15, 16, 60, 61, 62, 63, 64, 65, 66, 67, 68, 69, 70, 71, 72, 73, 74, 75, 76, 77, 78, 79, 80, 81, 82, 83, 84, 85, 86, 87, 88, 89, 90, 91, 92, 93, 94, 95, 96, 97] (by decide +kernel) (by decide +kernel)
set_option maxRecDepth 20000 in
theorem gX6_money_X6_refused : GoodIn wsX6_money (wsV RX6 115 RX6 yX6_refused wsX6_refused) := goodIn_app (goodIn_of _ (by decide +kernel)) ggX6_money_X6_refused
set_option maxRecDepth 20000 in
theorem ggX6_money_X6_goThrough : GoodIn wsX6_money wsX6_goThrough := goodIn_r _ [20, 21, 22, 3, 23, 24, 25, 26, 27, 28, 29, 30, 31, 32, 33, 34, 35, 2, 36, 37, 38, 6, 39, 40, 41, 42, 43, 44, 45, 46, 47, 48, 49, 50, 51, 52, 53, 54, 55, 56, 57, 58, 59, 60, 61, 62, 63, 64, 65, 66, 67, 68, 69, 70, 71, 72, 73, 74, 75, 76, 77, 78, 79, 80, 81, 82, 83, 84, 85, 86, 87, 88, 89, 90, 91, 92, 93, 94, 95, 96, 97] (by decide +kernel) (by decide +kernel)
set_option maxRecDepth 20000 in
theorem gX6_money_X6_goThrough : GoodIn wsX6_money (wsV RX6 173 RX6 yX6_goThrough wsX6_goThrough) := goodIn_app (goodIn_of _ (by decide +kernel)) ggX6_money_X6_goThrough
theorem dX6_money_0 : decode cX6_money 0 = .ok (.iload_n 2, 1) := by decide +kernel
theorem dX6_money_1 : decode cX6_money 1 = .ok (.ifCond .lt 38, 3) := by decide +kernel
theorem dX6_money_4 : decode cX6_money 4 = .ok (.iload_n 3, 1) := by decide +kernel
theorem dX6_money_5 : decode cX6_money 5 = .ok (.iconst 1, 1) := by decide +kernel
theorem dX6_money_6 : decode cX6_money 6 = .ok (.bipush 60, 2) := by decide +kernel
theorem dX6_money_8 : decode cX6_money 8 = .ok (.invokestatic 111, 3) := by decide +kernel
theorem dX6_money_11 : decode cX6_money 11 = .ok (.ifCond .eq 28, 3) := by decide +kernel
theorem dX6_money_14 : decode cX6_money 14 = .ok (.iload_n 2, 1) := by decide +kernel
theorem dX6_money_15 : decode cX6_money 15 = .ok (.aload_n 0, 1) := by decide +kernel
theorem dX6_money_16 : decode cX6_money 16 = .ok (.getfield 7, 3) := by decide +kernel
theorem dX6_money_19 : decode cX6_money 19 = .ok (.iload_n 3, 1) := by decide +kernel
theorem dX6_money_20 : decode cX6_money 20 = .ok (.isub, 1) := by decide +kernel
theorem dX6_money_21 : decode cX6_money 21 = .ok (.iconst 1, 1) := by decide +kernel
theorem dX6_money_22 : decode cX6_money 22 = .ok (.iadd, 1) := by decide +kernel
theorem dX6_money_23 : decode cX6_money 23 = .ok (.if_icmp .gt 16, 3) := by decide +kernel
theorem dX6_money_26 : decode cX6_money 26 = .ok (.aload_n 0, 1) := by decide +kernel
theorem dX6_money_27 : decode cX6_money 27 = .ok (.iload 4, 2) := by decide +kernel
theorem dX6_money_29 : decode cX6_money 29 = .ok (.invokevirtual 135, 3) := by decide +kernel
theorem dX6_money_32 : decode cX6_money 32 = .ok (.ifCond .eq 7, 3) := by decide +kernel
theorem dX6_money_35 : decode cX6_money 35 = .ok (.iconst 1, 1) := by decide +kernel
theorem dX6_money_36 : decode cX6_money 36 = .ok (.goto 4, 3) := by decide +kernel
theorem dX6_money_39 : decode cX6_money 39 = .ok (.iconst 0, 1) := by decide +kernel
theorem dX6_money_40 : decode cX6_money 40 = .ok (.istore 5, 2) := by decide +kernel
theorem dX6_money_42 : decode cX6_money 42 = .ok (.aload_n 0, 1) := by decide +kernel
theorem dX6_money_43 : decode cX6_money 43 = .ok (.iload_n 1, 1) := by decide +kernel
theorem dX6_money_44 : decode cX6_money 44 = .ok (.iconst 0, 1) := by decide +kernel
theorem dX6_money_45 : decode cX6_money 45 = .ok (.iconst 3, 1) := by decide +kernel
theorem dX6_money_46 : decode cX6_money 46 = .ok (.invokestatic 111, 3) := by decide +kernel
theorem dX6_money_49 : decode cX6_money 49 = .ok (.ifCond .ne 7, 3) := by decide +kernel
theorem dX6_money_52 : decode cX6_money 52 = .ok (.iconst 1, 1) := by decide +kernel
theorem dX6_money_53 : decode cX6_money 53 = .ok (.goto 13, 3) := by decide +kernel
theorem dX6_money_56 : decode cX6_money 56 = .ok (.iload 5, 2) := by decide +kernel
theorem dX6_money_58 : decode cX6_money 58 = .ok (.ifCond .ne 7, 3) := by decide +kernel
theorem dX6_money_61 : decode cX6_money 61 = .ok (.iconst 2, 1) := by decide +kernel
theorem dX6_money_62 : decode cX6_money 62 = .ok (.goto 4, 3) := by decide +kernel
theorem dX6_money_65 : decode cX6_money 65 = .ok (.iconst 0, 1) := by decide +kernel
theorem dX6_money_66 : decode cX6_money 66 = .ok (.invokevirtual 115, 3) := by decide +kernel
theorem dX6_money_69 : decode cX6_money 69 = .ok (.ifCond .eq 5, 3) := by decide +kernel
theorem dX6_money_72 : decode cX6_money 72 = .ok (.iconst 0, 1) := by decide +kernel
theorem dX6_money_73 : decode cX6_money 73 = .ok (.ireturn, 1) := by decide +kernel
theorem dX6_money_74 : decode cX6_money 74 = .ok (.iconst 0, 1) := by decide +kernel
theorem dX6_money_75 : decode cX6_money 75 = .ok (.istore 6, 2) := by decide +kernel
theorem dX6_money_77 : decode cX6_money 77 = .ok (.iload_n 2, 1) := by decide +kernel
theorem dX6_money_78 : decode cX6_money 78 = .ok (.istore 7, 2) := by decide +kernel
theorem dX6_money_80 : decode cX6_money 80 = .ok (.iload 7, 2) := by decide +kernel
theorem dX6_money_82 : decode cX6_money 82 = .ok (.iload_n 2, 1) := by decide +kernel
theorem dX6_money_83 : decode cX6_money 83 = .ok (.iload_n 3, 1) := by decide +kernel
theorem dX6_money_84 : decode cX6_money 84 = .ok (.iadd, 1) := by decide +kernel
theorem dX6_money_85 : decode cX6_money 85 = .ok (.if_icmp .ge 69, 3) := by decide +kernel
theorem dX6_money_88 : decode cX6_money 88 = .ok (.aload_n 0, 1) := by decide +kernel
theorem dX6_money_89 : decode cX6_money 89 = .ok (.iload 7, 2) := by decide +kernel
theorem dX6_money_91 : decode cX6_money 91 = .ok (.iload 4, 2) := by decide +kernel
theorem dX6_money_93 : decode cX6_money 93 = .ok (.invokevirtual 173, 3) := by decide +kernel
theorem dX6_money_96 : decode cX6_money 96 = .ok (.iconst 0, 1) := by decide +kernel
theorem dX6_money_97 : decode cX6_money 97 = .ok (.istore 8, 2) := by decide +kernel
theorem dX6_money_99 : decode cX6_money 99 = .ok (.iload 8, 2) := by decide +kernel
theorem dX6_money_101 : decode cX6_money 101 = .ok (.aload_n 0, 1) := by decide +kernel
theorem dX6_money_102 : decode cX6_money 102 = .ok (.getfield 108, 3) := by decide +kernel
theorem dX6_money_105 : decode cX6_money 105 = .ok (.if_icmp .ge 43, 3) := by decide +kernel
theorem dX6_money_108 : decode cX6_money 108 = .ok (.iload 6, 2) := by decide +kernel
theorem dX6_money_110 : decode cX6_money 110 = .ok (.aload_n 0, 1) := by decide +kernel
theorem dX6_money_111 : decode cX6_money 111 = .ok (.getfield 56, 3) := by decide +kernel
theorem dX6_money_114 : decode cX6_money 114 = .ok (.iload 8, 2) := by decide +kernel
theorem dX6_money_116 : decode cX6_money 116 = .ok (.iaload, 1) := by decide +kernel
theorem dX6_money_117 : decode cX6_money 117 = .ok (.iconst (-1), 1) := by decide +kernel
theorem dX6_money_118 : decode cX6_money 118 = .ok (.if_icmp .eq 20, 3) := by decide +kernel
theorem dX6_money_121 : decode cX6_money 121 = .ok (.aload_n 0, 1) := by decide +kernel
theorem dX6_money_122 : decode cX6_money 122 = .ok (.getfield 56, 3) := by decide +kernel
theorem dX6_money_125 : decode cX6_money 125 = .ok (.iload 8, 2) := by decide +kernel
theorem dX6_money_127 : decode cX6_money 127 = .ok (.iaload, 1) := by decide +kernel
theorem dX6_money_128 : decode cX6_money 128 = .ok (.iconst 4, 1) := by decide +kernel
theorem dX6_money_129 : decode cX6_money 129 = .ok (.idiv, 1) := by decide +kernel
theorem dX6_money_130 : decode cX6_money 130 = .ok (.iload_n 1, 1) := by decide +kernel
theorem dX6_money_131 : decode cX6_money 131 = .ok (.if_icmp .ne 7, 3) := by decide +kernel
theorem dX6_money_134 : decode cX6_money 134 = .ok (.iconst 1, 1) := by decide +kernel
theorem dX6_money_135 : decode cX6_money 135 = .ok (.goto 4, 3) := by decide +kernel
theorem dX6_money_138 : decode cX6_money 138 = .ok (.iconst 0, 1) := by decide +kernel
theorem dX6_money_139 : decode cX6_money 139 = .ok (.iadd, 1) := by decide +kernel
theorem dX6_money_140 : decode cX6_money 140 = .ok (.istore 6, 2) := by decide +kernel
theorem dX6_money_142 : decode cX6_money 142 = .ok (.iinc 8 1, 3) := by decide +kernel
theorem dX6_money_145 : decode cX6_money 145 = .ok (.goto (-46), 3) := by decide +kernel
theorem dX6_money_148 : decode cX6_money 148 = .ok (.iinc 7 1, 3) := by decide +kernel
theorem dX6_money_151 : decode cX6_money 151 = .ok (.goto (-71), 3) := by decide +kernel
theorem dX6_money_154 : decode cX6_money 154 = .ok (.iload 6, 2) := by decide +kernel
theorem dX6_money_156 : decode cX6_money 156 = .ok (.ireturn, 1) := by decide +kernel
set_option maxRecDepth 20000 in
theorem ggX6_changed_X6_isDay : GoodIn wsX6_changed wsX6_isDay := goodIn_r _ [7, 8, 9, 10, 6, 11, 78, 79, 80, 81, 82, 83, 84, 85, 86, 87, 88, 89, 90, 91, 92, 93, 94, 95, 96, 97, 98, 99, 100, 101, 102, 103, 104, 105, 106, 107, 108, 109, 110, 111, 112, 113, 114, 115] (by decide +kernel) (by decide +kernel)
set_option maxRecDepth 20000 in
theorem gX6_changed_X6_isDay : GoodIn wsX6_changed (wsV RX6 135 RX6 yX6_isDay wsX6_isDay) := goodIn_app (goodIn_of _ (by decide +kernel)) ggX6_changed_X6_isDay
set_option maxRecDepth 20000 in
theorem ggX6_changed_X6_refused : GoodIn wsX6_changed wsX6_refused := goodIn_r _ [15, 16, 78, 79, 80, 81, 82, 83, 84, 85, 86, 87, 88, 89, 90, 91, 92, 93, 94, 95, 96, 97, 98, 99, 100, 101, 102, 103, 104, 105, 106, 107, 108, 109, 110, 111, 112, 113, 114, 115] (by decide +kernel) (by decide +kernel)
set_option maxRecDepth 20000 in
theorem gX6_changed_X6_refused : GoodIn wsX6_changed (wsV RX6 115 RX6 yX6_refused wsX6_refused) := goodIn_app (goodIn_of _ (by decide +kernel)) ggX6_changed_X6_refused
set_option maxRecDepth 20000 in
theorem ggX6_changed_X6_goThrough : GoodIn wsX6_changed wsX6_goThrough := goodIn_r _ [20, 21, 22, 23, 24, 25, 26, 27, 28, 29, 30, 31, 32, 33, 34, 35, 36, 1, 37, 38, 39, 6, 40, 41, 42, 43, 44, 45, 46, 47, 48, 49, 50, 51, 52, 53, 54, 55, 56, 57, 58, 59, 60, 78, 79, 80, 81, 82, 83, 84, 85, 86, 87, 88, 89, 90, 91, 92, 93, 94, 95, 96, 97, 98, 99, 100, 101, 102, 103, 104, 105, 106, 107, 108, 109, 110, 111, 112, 113, 114, 115] (by decide +kernel) (by decide +kernel)
set_option maxRecDepth 20000 in
theorem gX6_changed_X6_goThrough : GoodIn wsX6_changed (wsV RX6 173 RX6 yX6_goThrough wsX6_goThrough) := goodIn_app (goodIn_of _ (by decide +kernel)) ggX6_changed_X6_goThrough
set_option maxRecDepth 20000 in
theorem ggX6_changed_X6_tells : GoodIn wsX6_changed wsX6_tells := goodIn_r _ [64, 22, 23, 24, 25, 26, 65, 66, 67, 68, 6, 69, 27, 70, 71, 72, 73, 1, 74, 75, 76, 77, 78, 79, 80, 81, 82, 83, 84, 85, 86, 87, 88, 89, 90, 91, 92, 93, 94, 95, 96, 97, 98, 99, 100, 101, 102, 103, 104, 105, 106, 107, 108, 109, 110, 111, 112, 113, 114, 115] (by decide +kernel) (by decide +kernel)
set_option maxRecDepth 20000 in
theorem gX6_changed_X6_tells : GoodIn wsX6_changed (wsV RX6 177 RX6 yX6_tells wsX6_tells) := goodIn_app (goodIn_of _ (by decide +kernel)) ggX6_changed_X6_tells
theorem dX6_changed_0 : decode cX6_changed 0 = .ok (.aload_n 0, 1) := by decide +kernel
theorem dX6_changed_1 : decode cX6_changed 1 = .ok (.aload_n 0, 1) := by decide +kernel
theorem dX6_changed_2 : decode cX6_changed 2 = .ok (.iload_n 1, 1) := by decide +kernel
theorem dX6_changed_3 : decode cX6_changed 3 = .ok (.invokevirtual 135, 3) := by decide +kernel
theorem dX6_changed_6 : decode cX6_changed 6 = .ok (.ifCond .eq 23, 3) := by decide +kernel
theorem dX6_changed_9 : decode cX6_changed 9 = .ok (.aload_n 0, 1) := by decide +kernel
theorem dX6_changed_10 : decode cX6_changed 10 = .ok (.iload_n 2, 1) := by decide +kernel
theorem dX6_changed_11 : decode cX6_changed 11 = .ok (.invokevirtual 135, 3) := by decide +kernel
theorem dX6_changed_14 : decode cX6_changed 14 = .ok (.ifCond .eq 15, 3) := by decide +kernel
theorem dX6_changed_17 : decode cX6_changed 17 = .ok (.aload_n 0, 1) := by decide +kernel
theorem dX6_changed_18 : decode cX6_changed 18 = .ok (.iload_n 3, 1) := by decide +kernel
theorem dX6_changed_19 : decode cX6_changed 19 = .ok (.invokevirtual 135, 3) := by decide +kernel
theorem dX6_changed_22 : decode cX6_changed 22 = .ok (.ifCond .eq 7, 3) := by decide +kernel
theorem dX6_changed_25 : decode cX6_changed 25 = .ok (.iconst 0, 1) := by decide +kernel
theorem dX6_changed_26 : decode cX6_changed 26 = .ok (.goto 4, 3) := by decide +kernel
theorem dX6_changed_29 : decode cX6_changed 29 = .ok (.iconst 1, 1) := by decide +kernel
theorem dX6_changed_30 : decode cX6_changed 30 = .ok (.invokevirtual 115, 3) := by decide +kernel
theorem dX6_changed_33 : decode cX6_changed 33 = .ok (.ifCond .eq 5, 3) := by decide +kernel
theorem dX6_changed_36 : decode cX6_changed 36 = .ok (.iconst 0, 1) := by decide +kernel
theorem dX6_changed_37 : decode cX6_changed 37 = .ok (.ireturn, 1) := by decide +kernel
theorem dX6_changed_38 : decode cX6_changed 38 = .ok (.aload_n 0, 1) := by decide +kernel
theorem dX6_changed_39 : decode cX6_changed 39 = .ok (.iload_n 1, 1) := by decide +kernel
theorem dX6_changed_40 : decode cX6_changed 40 = .ok (.iload_n 2, 1) := by decide +kernel
theorem dX6_changed_41 : decode cX6_changed 41 = .ok (.invokevirtual 173, 3) := by decide +kernel
theorem dX6_changed_44 : decode cX6_changed 44 = .ok (.iconst 0, 1) := by decide +kernel
theorem dX6_changed_45 : decode cX6_changed 45 = .ok (.istore 4, 2) := by decide +kernel
theorem dX6_changed_47 : decode cX6_changed 47 = .ok (.iload 4, 2) := by decide +kernel
theorem dX6_changed_49 : decode cX6_changed 49 = .ok (.aload_n 0, 1) := by decide +kernel
theorem dX6_changed_50 : decode cX6_changed 50 = .ok (.getfield 108, 3) := by decide +kernel
theorem dX6_changed_53 : decode cX6_changed 53 = .ok (.if_icmp .ge 45, 3) := by decide +kernel
theorem dX6_changed_56 : decode cX6_changed 56 = .ok (.iconst 0, 1) := by decide +kernel
theorem dX6_changed_57 : decode cX6_changed 57 = .ok (.istore 5, 2) := by decide +kernel
theorem dX6_changed_59 : decode cX6_changed 59 = .ok (.iload 5, 2) := by decide +kernel
theorem dX6_changed_61 : decode cX6_changed 61 = .ok (.iconst 5, 1) := by decide +kernel
theorem dX6_changed_62 : decode cX6_changed 62 = .ok (.if_icmp .ge 30, 3) := by decide +kernel
theorem dX6_changed_65 : decode cX6_changed 65 = .ok (.aload_n 0, 1) := by decide +kernel
theorem dX6_changed_66 : decode cX6_changed 66 = .ok (.getfield 81, 3) := by decide +kernel
theorem dX6_changed_69 : decode cX6_changed 69 = .ok (.iconst 5, 1) := by decide +kernel
theorem dX6_changed_70 : decode cX6_changed 70 = .ok (.iload 4, 2) := by decide +kernel
theorem dX6_changed_72 : decode cX6_changed 72 = .ok (.imul, 1) := by decide +kernel
theorem dX6_changed_73 : decode cX6_changed 73 = .ok (.iload 5, 2) := by decide +kernel
theorem dX6_changed_75 : decode cX6_changed 75 = .ok (.iadd, 1) := by decide +kernel
theorem dX6_changed_76 : decode cX6_changed 76 = .ok (.aload_n 0, 1) := by decide +kernel
theorem dX6_changed_77 : decode cX6_changed 77 = .ok (.iload 4, 2) := by decide +kernel
theorem dX6_changed_79 : decode cX6_changed 79 = .ok (.iload 5, 2) := by decide +kernel
theorem dX6_changed_81 : decode cX6_changed 81 = .ok (.iload_n 1, 1) := by decide +kernel
theorem dX6_changed_82 : decode cX6_changed 82 = .ok (.invokevirtual 177, 3) := by decide +kernel
theorem dX6_changed_85 : decode cX6_changed 85 = .ok (.iastore, 1) := by decide +kernel
theorem dX6_changed_86 : decode cX6_changed 86 = .ok (.iinc 5 1, 3) := by decide +kernel
theorem dX6_changed_89 : decode cX6_changed 89 = .ok (.goto (-30), 3) := by decide +kernel
theorem dX6_changed_92 : decode cX6_changed 92 = .ok (.iinc 4 1, 3) := by decide +kernel
theorem dX6_changed_95 : decode cX6_changed 95 = .ok (.goto (-48), 3) := by decide +kernel
theorem dX6_changed_98 : decode cX6_changed 98 = .ok (.aload_n 0, 1) := by decide +kernel
theorem dX6_changed_99 : decode cX6_changed 99 = .ok (.iload_n 1, 1) := by decide +kernel
theorem dX6_changed_100 : decode cX6_changed 100 = .ok (.iload_n 3, 1) := by decide +kernel
theorem dX6_changed_101 : decode cX6_changed 101 = .ok (.invokevirtual 173, 3) := by decide +kernel
theorem dX6_changed_104 : decode cX6_changed 104 = .ok (.iconst 0, 1) := by decide +kernel
theorem dX6_changed_105 : decode cX6_changed 105 = .ok (.istore 4, 2) := by decide +kernel
theorem dX6_changed_107 : decode cX6_changed 107 = .ok (.iconst 0, 1) := by decide +kernel
theorem dX6_changed_108 : decode cX6_changed 108 = .ok (.istore 5, 2) := by decide +kernel
theorem dX6_changed_110 : decode cX6_changed 110 = .ok (.iload 5, 2) := by decide +kernel
theorem dX6_changed_112 : decode cX6_changed 112 = .ok (.aload_n 0, 1) := by decide +kernel
theorem dX6_changed_113 : decode cX6_changed 113 = .ok (.getfield 108, 3) := by decide +kernel
theorem dX6_changed_116 : decode cX6_changed 116 = .ok (.if_icmp .ge 78, 3) := by decide +kernel
theorem dX6_changed_119 : decode cX6_changed 119 = .ok (.iconst 1, 1) := by decide +kernel
theorem dX6_changed_120 : decode cX6_changed 120 = .ok (.istore 6, 2) := by decide +kernel
theorem dX6_changed_122 : decode cX6_changed 122 = .ok (.iconst 0, 1) := by decide +kernel
theorem dX6_changed_123 : decode cX6_changed 123 = .ok (.istore 7, 2) := by decide +kernel
theorem dX6_changed_125 : decode cX6_changed 125 = .ok (.iload 7, 2) := by decide +kernel
theorem dX6_changed_127 : decode cX6_changed 127 = .ok (.iconst 5, 1) := by decide +kernel
theorem dX6_changed_128 : decode cX6_changed 128 = .ok (.if_icmp .ge 45, 3) := by decide +kernel
theorem dX6_changed_131 : decode cX6_changed 131 = .ok (.iload 6, 2) := by decide +kernel
theorem dX6_changed_133 : decode cX6_changed 133 = .ok (.ifCond .eq 31, 3) := by decide +kernel
theorem dX6_changed_136 : decode cX6_changed 136 = .ok (.aload_n 0, 1) := by decide +kernel
theorem dX6_changed_137 : decode cX6_changed 137 = .ok (.getfield 81, 3) := by decide +kernel
theorem dX6_changed_140 : decode cX6_changed 140 = .ok (.iconst 5, 1) := by decide +kernel
theorem dX6_changed_141 : decode cX6_changed 141 = .ok (.iload 5, 2) := by decide +kernel
theorem dX6_changed_143 : decode cX6_changed 143 = .ok (.imul, 1) := by decide +kernel
theorem dX6_changed_144 : decode cX6_changed 144 = .ok (.iload 7, 2) := by decide +kernel
theorem dX6_changed_146 : decode cX6_changed 146 = .ok (.iadd, 1) := by decide +kernel
theorem dX6_changed_147 : decode cX6_changed 147 = .ok (.iaload, 1) := by decide +kernel
theorem dX6_changed_148 : decode cX6_changed 148 = .ok (.aload_n 0, 1) := by decide +kernel
theorem dX6_changed_149 : decode cX6_changed 149 = .ok (.iload 5, 2) := by decide +kernel
theorem dX6_changed_151 : decode cX6_changed 151 = .ok (.iload 7, 2) := by decide +kernel
theorem dX6_changed_153 : decode cX6_changed 153 = .ok (.iload_n 1, 1) := by decide +kernel
theorem dX6_changed_154 : decode cX6_changed 154 = .ok (.invokevirtual 177, 3) := by decide +kernel
theorem dX6_changed_157 : decode cX6_changed 157 = .ok (.if_icmp .ne 7, 3) := by decide +kernel
theorem dX6_changed_160 : decode cX6_changed 160 = .ok (.iconst 1, 1) := by decide +kernel
theorem dX6_changed_161 : decode cX6_changed 161 = .ok (.goto 4, 3) := by decide +kernel
theorem dX6_changed_164 : decode cX6_changed 164 = .ok (.iconst 0, 1) := by decide +kernel
theorem dX6_changed_165 : decode cX6_changed 165 = .ok (.istore 6, 2) := by decide +kernel
theorem dX6_changed_167 : decode cX6_changed 167 = .ok (.iinc 7 1, 3) := by decide +kernel
theorem dX6_changed_170 : decode cX6_changed 170 = .ok (.goto (-45), 3) := by decide +kernel
theorem dX6_changed_173 : decode cX6_changed 173 = .ok (.iload 4, 2) := by decide +kernel
theorem dX6_changed_175 : decode cX6_changed 175 = .ok (.iload 6, 2) := by decide +kernel
theorem dX6_changed_177 : decode cX6_changed 177 = .ok (.ifCond .eq 7, 3) := by decide +kernel
theorem dX6_changed_180 : decode cX6_changed 180 = .ok (.iconst 0, 1) := by decide +kernel
theorem dX6_changed_181 : decode cX6_changed 181 = .ok (.goto 4, 3) := by decide +kernel
theorem dX6_changed_184 : decode cX6_changed 184 = .ok (.iconst 1, 1) := by decide +kernel
theorem dX6_changed_185 : decode cX6_changed 185 = .ok (.iadd, 1) := by decide +kernel
theorem dX6_changed_186 : decode cX6_changed 186 = .ok (.istore 4, 2) := by decide +kernel
theorem dX6_changed_188 : decode cX6_changed 188 = .ok (.iinc 5 1, 3) := by decide +kernel
theorem dX6_changed_191 : decode cX6_changed 191 = .ok (.goto (-81), 3) := by decide +kernel
theorem dX6_changed_194 : decode cX6_changed 194 = .ok (.iload 4, 2) := by decide +kernel
theorem dX6_changed_196 : decode cX6_changed 196 = .ok (.ireturn, 1) := by decide +kernel
theorem dX6_isSomebody_0 : decode cX6_isSomebody 0 = .ok (.aload_n 0, 1) := by decide +kernel
theorem dX6_isSomebody_1 : decode cX6_isSomebody 1 = .ok (.getfield 53, 3) := by decide +kernel
theorem dX6_isSomebody_4 : decode cX6_isSomebody 4 = .ok (.iload_n 1, 1) := by decide +kernel
theorem dX6_isSomebody_5 : decode cX6_isSomebody 5 = .ok (.iaload, 1) := by decide +kernel
theorem dX6_isSomebody_6 : decode cX6_isSomebody 6 = .ok (.iconst 1, 1) := by decide +kernel
theorem dX6_isSomebody_7 : decode cX6_isSomebody 7 = .ok (.if_icmp .eq 13, 3) := by decide +kernel
theorem dX6_isSomebody_10 : decode cX6_isSomebody 10 = .ok (.aload_n 0, 1) := by decide +kernel
theorem dX6_isSomebody_11 : decode cX6_isSomebody 11 = .ok (.getfield 53, 3) := by decide +kernel
theorem dX6_isSomebody_14 : decode cX6_isSomebody 14 = .ok (.iload_n 1, 1) := by decide +kernel
theorem dX6_isSomebody_15 : decode cX6_isSomebody 15 = .ok (.iaload, 1) := by decide +kernel
theorem dX6_isSomebody_16 : decode cX6_isSomebody 16 = .ok (.iconst 2, 1) := by decide +kernel
theorem dX6_isSomebody_17 : decode cX6_isSomebody 17 = .ok (.if_icmp .ne 7, 3) := by decide +kernel
theorem dX6_isSomebody_20 : decode cX6_isSomebody 20 = .ok (.iconst 1, 1) := by decide +kernel
theorem dX6_isSomebody_21 : decode cX6_isSomebody 21 = .ok (.goto 4, 3) := by decide +kernel
theorem dX6_isSomebody_24 : decode cX6_isSomebody 24 = .ok (.iconst 0, 1) := by decide +kernel
theorem dX6_isSomebody_25 : decode cX6_isSomebody 25 = .ok (.ireturn, 1) := by decide +kernel
set_option maxRecDepth 20000 in
theorem ggX6_origin_X6_isPerson : GoodIn wsX6_origin wsX6_isPerson := goodIn_r _ [9, 10, 11, 12, 8, 13, 64, 65, 66, 67, 68, 69, 70, 71, 72, 73, 74, 75, 76, 77, 78, 79, 80, 81, 82, 83, 84, 85, 86, 87, 88, 89, 90, 91, 92, 93, 94, 95, 96, 97, 98, 99, 100, 101] (by decide +kernel) (by decide +kernel)
set_option maxRecDepth 20000 in
theorem gX6_origin_X6_isPerson : GoodIn wsX6_origin (wsV RX6 132 RX6 yX6_isPerson wsX6_isPerson) := goodIn_app (goodIn_of _ (by decide +kernel)) ggX6_origin_X6_isPerson
set_option maxRecDepth 20000 in
theorem ggX6_origin_X6_refused : GoodIn wsX6_origin wsX6_refused := goodIn_r _ [17, 18, 64, 65, 66, 67, 68, 69, 70, 71, 72, 73, 74, 75, 76, 77, 78, 79, 80, 81, 82, 83, 84, 85, 86, 87, 88, 89, 90, 91, 92, 93, 94, 95, 96, 97, 98, 99, 100, 101] (by decide +kernel) (by decide +kernel)
set_option maxRecDepth 20000 in
theorem gX6_origin_X6_refused : GoodIn wsX6_origin (wsV RX6 115 RX6 yX6_refused wsX6_refused) := goodIn_app (goodIn_of _ (by decide +kernel)) ggX6_origin_X6_refused
set_option maxRecDepth 20000 in
theorem ggX6_origin_X6_goThrough : GoodIn wsX6_origin wsX6_goThrough := goodIn_r _ [22, 23, 24, 25, 26, 27, 2, 28, 4, 3, 29, 30, 31, 32, 33, 34, 35, 10, 36, 37, 38, 8, 39, 40, 41, 42, 43, 44, 45, 46, 47, 48, 49, 50, 51, 52, 53, 54, 55, 56, 57, 58, 59, 64, 65, 66, 67, 68, 69, 70, 71, 72, 73, 74, 75, 76, 77, 78, 79, 80, 81, 82, 83, 84, 85, 86, 87, 88, 89, 90, 91, 92, 93, 94, 95, 96, 97, 98, 99, 100, 101] (by decide +kernel) (by decide +kernel)
set_option maxRecDepth 20000 in
theorem gX6_origin_X6_goThrough : GoodIn wsX6_origin (wsV RX6 173 RX6 yX6_goThrough wsX6_goThrough) := goodIn_app (goodIn_of _ (by decide +kernel)) ggX6_origin_X6_goThrough
set_option maxRecDepth 20000 in
theorem ggX6_origin_X6_leadsTo : GoodIn wsX6_origin wsX6_leadsTo := goodIn_r _ [45, 23, 64, 65, 66, 67, 68, 69, 70, 71, 72, 73, 74, 75, 76, 77, 78, 79, 80, 81, 82, 83, 84, 85, 86, 87, 88, 89, 90, 91, 92, 93, 94, 95, 96, 97, 98, 99, 100, 101] (by decide +kernel) (by decide +kernel)
set_option maxRecDepth 20000 in
theorem gX6_origin_X6_leadsTo : GoodIn wsX6_origin (wsV RX6 149 RX6 yX6_leadsTo wsX6_leadsTo) := goodIn_app (goodIn_of _ (by decide +kernel)) ggX6_origin_X6_leadsTo
set_option maxRecDepth 20000 in
theorem ggX6_origin_X6_isSomebody : GoodIn wsX6_origin wsX6_isSomebody := goodIn_r _ [63, 24, 64, 65, 66, 67, 68, 69, 70, 71, 72, 73, 74, 75, 76, 77, 78, 79, 80, 81, 82, 83, 84, 85, 86, 87, 88, 89, 90, 91, 92, 93, 94, 95, 96, 97, 98, 99, 100, 101] (by decide +kernel) (by decide +kernel)
set_option maxRecDepth 20000 in
theorem gX6_origin_X6_isSomebody : GoodIn wsX6_origin (wsV RX6 185 RX6 yX6_isSomebody wsX6_isSomebody) := goodIn_app (goodIn_of _ (by decide +kernel)) ggX6_origin_X6_isSomebody
theorem dX6_origin_0 : decode cX6_origin 0 = .ok (.aload_n 0, 1) := by decide +kernel
theorem dX6_origin_1 : decode cX6_origin 1 = .ok (.aload_n 0, 1) := by decide +kernel
theorem dX6_origin_2 : decode cX6_origin 2 = .ok (.iload_n 1, 1) := by decide +kernel
theorem dX6_origin_3 : decode cX6_origin 3 = .ok (.invokevirtual 132, 3) := by decide +kernel
theorem dX6_origin_6 : decode cX6_origin 6 = .ok (.ifCond .eq 20, 3) := by decide +kernel
theorem dX6_origin_9 : decode cX6_origin 9 = .ok (.iload_n 2, 1) := by decide +kernel
theorem dX6_origin_10 : decode cX6_origin 10 = .ok (.iconst (-1), 1) := by decide +kernel
theorem dX6_origin_11 : decode cX6_origin 11 = .ok (.if_icmp .eq 11, 3) := by decide +kernel
theorem dX6_origin_14 : decode cX6_origin 14 = .ok (.aload_n 0, 1) := by decide +kernel
theorem dX6_origin_15 : decode cX6_origin 15 = .ok (.iload_n 2, 1) := by decide +kernel
theorem dX6_origin_16 : decode cX6_origin 16 = .ok (.invokevirtual 132, 3) := by decide +kernel
theorem dX6_origin_19 : decode cX6_origin 19 = .ok (.ifCond .eq 7, 3) := by decide +kernel
theorem dX6_origin_22 : decode cX6_origin 22 = .ok (.iconst 0, 1) := by decide +kernel
theorem dX6_origin_23 : decode cX6_origin 23 = .ok (.goto 4, 3) := by decide +kernel
theorem dX6_origin_26 : decode cX6_origin 26 = .ok (.iconst 1, 1) := by decide +kernel
theorem dX6_origin_27 : decode cX6_origin 27 = .ok (.invokevirtual 115, 3) := by decide +kernel
theorem dX6_origin_30 : decode cX6_origin 30 = .ok (.ifCond .eq 5, 3) := by decide +kernel
theorem dX6_origin_33 : decode cX6_origin 33 = .ok (.iconst 0, 1) := by decide +kernel
theorem dX6_origin_34 : decode cX6_origin 34 = .ok (.ireturn, 1) := by decide +kernel
theorem dX6_origin_35 : decode cX6_origin 35 = .ok (.aload_n 0, 1) := by decide +kernel
theorem dX6_origin_36 : decode cX6_origin 36 = .ok (.aload_n 0, 1) := by decide +kernel
theorem dX6_origin_37 : decode cX6_origin 37 = .ok (.getfield 7, 3) := by decide +kernel
theorem dX6_origin_40 : decode cX6_origin 40 = .ok (.aload_n 0, 1) := by decide +kernel
theorem dX6_origin_41 : decode cX6_origin 41 = .ok (.getfield 7, 3) := by decide +kernel
theorem dX6_origin_44 : decode cX6_origin 44 = .ok (.invokevirtual 173, 3) := by decide +kernel
theorem dX6_origin_47 : decode cX6_origin 47 = .ok (.aload_n 0, 1) := by decide +kernel
theorem dX6_origin_48 : decode cX6_origin 48 = .ok (.iload_n 2, 1) := by decide +kernel
theorem dX6_origin_49 : decode cX6_origin 49 = .ok (.invokevirtual 149, 3) := by decide +kernel
theorem dX6_origin_52 : decode cX6_origin 52 = .ok (.istore_n 3, 1) := by decide +kernel
theorem dX6_origin_53 : decode cX6_origin 53 = .ok (.iload_n 3, 1) := by decide +kernel
theorem dX6_origin_54 : decode cX6_origin 54 = .ok (.iconst (-1), 1) := by decide +kernel
theorem dX6_origin_55 : decode cX6_origin 55 = .ok (.if_icmp .eq 22, 3) := by decide +kernel
theorem dX6_origin_58 : decode cX6_origin 58 = .ok (.iload_n 3, 1) := by decide +kernel
theorem dX6_origin_59 : decode cX6_origin 59 = .ok (.iload_n 1, 1) := by decide +kernel
theorem dX6_origin_60 : decode cX6_origin 60 = .ok (.if_icmp .eq 13, 3) := by decide +kernel
theorem dX6_origin_63 : decode cX6_origin 63 = .ok (.iload_n 3, 1) := by decide +kernel
theorem dX6_origin_64 : decode cX6_origin 64 = .ok (.aload_n 0, 1) := by decide +kernel
theorem dX6_origin_65 : decode cX6_origin 65 = .ok (.getfield 65, 3) := by decide +kernel
theorem dX6_origin_68 : decode cX6_origin 68 = .ok (.iload_n 1, 1) := by decide +kernel
theorem dX6_origin_69 : decode cX6_origin 69 = .ok (.iaload, 1) := by decide +kernel
theorem dX6_origin_70 : decode cX6_origin 70 = .ok (.if_icmp .ne 7, 3) := by decide +kernel
theorem dX6_origin_73 : decode cX6_origin 73 = .ok (.iconst 1, 1) := by decide +kernel
theorem dX6_origin_74 : decode cX6_origin 74 = .ok (.goto 4, 3) := by decide +kernel
theorem dX6_origin_77 : decode cX6_origin 77 = .ok (.iconst 0, 1) := by decide +kernel
theorem dX6_origin_78 : decode cX6_origin 78 = .ok (.istore 4, 2) := by decide +kernel
theorem dX6_origin_80 : decode cX6_origin 80 = .ok (.aload_n 0, 1) := by decide +kernel
theorem dX6_origin_81 : decode cX6_origin 81 = .ok (.iload_n 1, 1) := by decide +kernel
theorem dX6_origin_82 : decode cX6_origin 82 = .ok (.invokevirtual 185, 3) := by decide +kernel
theorem dX6_origin_85 : decode cX6_origin 85 = .ok (.ifCond .ne 7, 3) := by decide +kernel
theorem dX6_origin_88 : decode cX6_origin 88 = .ok (.iconst (-1), 1) := by decide +kernel
theorem dX6_origin_89 : decode cX6_origin 89 = .ok (.goto 28, 3) := by decide +kernel
theorem dX6_origin_92 : decode cX6_origin 92 = .ok (.aload_n 0, 1) := by decide +kernel
theorem dX6_origin_93 : decode cX6_origin 93 = .ok (.getfield 74, 3) := by decide +kernel
theorem dX6_origin_96 : decode cX6_origin 96 = .ok (.iload_n 1, 1) := by decide +kernel
theorem dX6_origin_97 : decode cX6_origin 97 = .ok (.baload, 1) := by decide +kernel
theorem dX6_origin_98 : decode cX6_origin 98 = .ok (.ifCond .eq 13, 3) := by decide +kernel
theorem dX6_origin_101 : decode cX6_origin 101 = .ok (.iload 4, 2) := by decide +kernel
theorem dX6_origin_103 : decode cX6_origin 103 = .ok (.ifCond .ne 8, 3) := by decide +kernel
theorem dX6_origin_106 : decode cX6_origin 106 = .ok (.bipush (-2), 2) := by decide +kernel
theorem dX6_origin_108 : decode cX6_origin 108 = .ok (.goto 9, 3) := by decide +kernel
theorem dX6_origin_111 : decode cX6_origin 111 = .ok (.aload_n 0, 1) := by decide +kernel
theorem dX6_origin_112 : decode cX6_origin 112 = .ok (.getfield 71, 3) := by decide +kernel
theorem dX6_origin_115 : decode cX6_origin 115 = .ok (.iload_n 1, 1) := by decide +kernel
theorem dX6_origin_116 : decode cX6_origin 116 = .ok (.iaload, 1) := by decide +kernel
theorem dX6_origin_117 : decode cX6_origin 117 = .ok (.ireturn, 1) := by decide +kernel
set_option maxRecDepth 20000 in
theorem ggX6_like_X6_isSomebody : GoodIn wsX6_like wsX6_isSomebody := goodIn_r _ [8, 9, 10, 11, 12, 13, 14, 15, 16, 17, 18, 19, 20, 21, 22, 23, 24, 25, 26, 27, 28, 29, 30, 31, 32, 33, 34, 35, 36, 37, 38, 39, 40, 41, 42, 43, 44, 45, 46, 47] (by decide +kernel) (by decide +kernel)
set_option maxRecDepth 20000 in
theorem gX6_like_X6_isSomebody : GoodIn wsX6_like (wsV RX6 185 RX6 yX6_isSomebody wsX6_isSomebody) := goodIn_app (goodIn_of _ (by decide +kernel)) ggX6_like_X6_isSomebody
theorem dX6_like_0 : decode cX6_like 0 = .ok (.aload_n 0, 1) := by decide +kernel
theorem dX6_like_1 : decode cX6_like 1 = .ok (.iload_n 1, 1) := by decide +kernel
theorem dX6_like_2 : decode cX6_like 2 = .ok (.invokevirtual 185, 3) := by decide +kernel
theorem dX6_like_5 : decode cX6_like 5 = .ok (.ifCond .eq 11, 3) := by decide +kernel
theorem dX6_like_8 : decode cX6_like 8 = .ok (.aload_n 0, 1) := by decide +kernel
theorem dX6_like_9 : decode cX6_like 9 = .ok (.iload_n 2, 1) := by decide +kernel
theorem dX6_like_10 : decode cX6_like 10 = .ok (.invokevirtual 185, 3) := by decide +kernel
theorem dX6_like_13 : decode cX6_like 13 = .ok (.ifCond .ne 5, 3) := by decide +kernel
theorem dX6_like_16 : decode cX6_like 16 = .ok (.iconst 0, 1) := by decide +kernel
theorem dX6_like_17 : decode cX6_like 17 = .ok (.ireturn, 1) := by decide +kernel
theorem dX6_like_18 : decode cX6_like 18 = .ok (.aload_n 0, 1) := by decide +kernel
theorem dX6_like_19 : decode cX6_like 19 = .ok (.getfield 68, 3) := by decide +kernel
theorem dX6_like_22 : decode cX6_like 22 = .ok (.iload_n 1, 1) := by decide +kernel
theorem dX6_like_23 : decode cX6_like 23 = .ok (.iaload, 1) := by decide +kernel
theorem dX6_like_24 : decode cX6_like 24 = .ok (.aload_n 0, 1) := by decide +kernel
theorem dX6_like_25 : decode cX6_like 25 = .ok (.getfield 68, 3) := by decide +kernel
theorem dX6_like_28 : decode cX6_like 28 = .ok (.iload_n 2, 1) := by decide +kernel
theorem dX6_like_29 : decode cX6_like 29 = .ok (.iaload, 1) := by decide +kernel
theorem dX6_like_30 : decode cX6_like 30 = .ok (.if_icmp .le 19, 3) := by decide +kernel
theorem dX6_like_33 : decode cX6_like 33 = .ok (.aload_n 0, 1) := by decide +kernel
theorem dX6_like_34 : decode cX6_like 34 = .ok (.getfield 68, 3) := by decide +kernel
theorem dX6_like_37 : decode cX6_like 37 = .ok (.iload_n 1, 1) := by decide +kernel
theorem dX6_like_38 : decode cX6_like 38 = .ok (.iaload, 1) := by decide +kernel
theorem dX6_like_39 : decode cX6_like 39 = .ok (.aload_n 0, 1) := by decide +kernel
theorem dX6_like_40 : decode cX6_like 40 = .ok (.getfield 68, 3) := by decide +kernel
theorem dX6_like_43 : decode cX6_like 43 = .ok (.iload_n 2, 1) := by decide +kernel
theorem dX6_like_44 : decode cX6_like 44 = .ok (.iaload, 1) := by decide +kernel
theorem dX6_like_45 : decode cX6_like 45 = .ok (.isub, 1) := by decide +kernel
theorem dX6_like_46 : decode cX6_like 46 = .ok (.goto 16, 3) := by decide +kernel
theorem dX6_like_49 : decode cX6_like 49 = .ok (.aload_n 0, 1) := by decide +kernel
theorem dX6_like_50 : decode cX6_like 50 = .ok (.getfield 68, 3) := by decide +kernel
theorem dX6_like_53 : decode cX6_like 53 = .ok (.iload_n 2, 1) := by decide +kernel
theorem dX6_like_54 : decode cX6_like 54 = .ok (.iaload, 1) := by decide +kernel
theorem dX6_like_55 : decode cX6_like 55 = .ok (.aload_n 0, 1) := by decide +kernel
theorem dX6_like_56 : decode cX6_like 56 = .ok (.getfield 68, 3) := by decide +kernel
theorem dX6_like_59 : decode cX6_like 59 = .ok (.iload_n 1, 1) := by decide +kernel
theorem dX6_like_60 : decode cX6_like 60 = .ok (.iaload, 1) := by decide +kernel
theorem dX6_like_61 : decode cX6_like 61 = .ok (.isub, 1) := by decide +kernel
theorem dX6_like_62 : decode cX6_like 62 = .ok (.istore_n 3, 1) := by decide +kernel
theorem dX6_like_63 : decode cX6_like 63 = .ok (.iload_n 3, 1) := by decide +kernel
theorem dX6_like_64 : decode cX6_like 64 = .ok (.ifCond .ne 7, 3) := by decide +kernel
theorem dX6_like_67 : decode cX6_like 67 = .ok (.iconst 5, 1) := by decide +kernel
theorem dX6_like_68 : decode cX6_like 68 = .ok (.goto 14, 3) := by decide +kernel
theorem dX6_like_71 : decode cX6_like 71 = .ok (.iload_n 3, 1) := by decide +kernel
theorem dX6_like_72 : decode cX6_like 72 = .ok (.bipush 31, 2) := by decide +kernel
theorem dX6_like_74 : decode cX6_like 74 = .ok (.if_icmp .gt 7, 3) := by decide +kernel
theorem dX6_like_77 : decode cX6_like 77 = .ok (.iconst 2, 1) := by decide +kernel
theorem dX6_like_78 : decode cX6_like 78 = .ok (.goto 4, 3) := by decide +kernel
theorem dX6_like_81 : decode cX6_like 81 = .ok (.iconst 0, 1) := by decide +kernel
theorem dX6_like_82 : decode cX6_like 82 = .ok (.istore 4, 2) := by decide +kernel
theorem dX6_like_84 : decode cX6_like 84 = .ok (.iload 4, 2) := by decide +kernel
theorem dX6_like_86 : decode cX6_like 86 = .ok (.aload_n 0, 1) := by decide +kernel
theorem dX6_like_87 : decode cX6_like 87 = .ok (.getfield 59, 3) := by decide +kernel
theorem dX6_like_90 : decode cX6_like 90 = .ok (.iload_n 1, 1) := by decide +kernel
theorem dX6_like_91 : decode cX6_like 91 = .ok (.iaload, 1) := by decide +kernel
theorem dX6_like_92 : decode cX6_like 92 = .ok (.aload_n 0, 1) := by decide +kernel
theorem dX6_like_93 : decode cX6_like 93 = .ok (.getfield 59, 3) := by decide +kernel
theorem dX6_like_96 : decode cX6_like 96 = .ok (.iload_n 2, 1) := by decide +kernel
theorem dX6_like_97 : decode cX6_like 97 = .ok (.iaload, 1) := by decide +kernel
theorem dX6_like_98 : decode cX6_like 98 = .ok (.if_icmp .ne 7, 3) := by decide +kernel
theorem dX6_like_101 : decode cX6_like 101 = .ok (.iconst 3, 1) := by decide +kernel
theorem dX6_like_102 : decode cX6_like 102 = .ok (.goto 4, 3) := by decide +kernel
theorem dX6_like_105 : decode cX6_like 105 = .ok (.iconst 0, 1) := by decide +kernel
theorem dX6_like_106 : decode cX6_like 106 = .ok (.iadd, 1) := by decide +kernel
theorem dX6_like_107 : decode cX6_like 107 = .ok (.aload_n 0, 1) := by decide +kernel
theorem dX6_like_108 : decode cX6_like 108 = .ok (.getfield 56, 3) := by decide +kernel
theorem dX6_like_111 : decode cX6_like 111 = .ok (.iload_n 1, 1) := by decide +kernel
theorem dX6_like_112 : decode cX6_like 112 = .ok (.iaload, 1) := by decide +kernel
theorem dX6_like_113 : decode cX6_like 113 = .ok (.iconst (-1), 1) := by decide +kernel
theorem dX6_like_114 : decode cX6_like 114 = .ok (.if_icmp .eq 22, 3) := by decide +kernel
theorem dX6_like_117 : decode cX6_like 117 = .ok (.aload_n 0, 1) := by decide +kernel
theorem dX6_like_118 : decode cX6_like 118 = .ok (.getfield 56, 3) := by decide +kernel
theorem dX6_like_121 : decode cX6_like 121 = .ok (.iload_n 1, 1) := by decide +kernel
theorem dX6_like_122 : decode cX6_like 122 = .ok (.iaload, 1) := by decide +kernel
theorem dX6_like_123 : decode cX6_like 123 = .ok (.aload_n 0, 1) := by decide +kernel
theorem dX6_like_124 : decode cX6_like 124 = .ok (.getfield 56, 3) := by decide +kernel
theorem dX6_like_127 : decode cX6_like 127 = .ok (.iload_n 2, 1) := by decide +kernel
theorem dX6_like_128 : decode cX6_like 128 = .ok (.iaload, 1) := by decide +kernel
theorem dX6_like_129 : decode cX6_like 129 = .ok (.if_icmp .ne 7, 3) := by decide +kernel
theorem dX6_like_132 : decode cX6_like 132 = .ok (.iconst 2, 1) := by decide +kernel
theorem dX6_like_133 : decode cX6_like 133 = .ok (.goto 4, 3) := by decide +kernel
theorem dX6_like_136 : decode cX6_like 136 = .ok (.iconst 0, 1) := by decide +kernel
theorem dX6_like_137 : decode cX6_like 137 = .ok (.iadd, 1) := by decide +kernel
theorem dX6_like_138 : decode cX6_like 138 = .ok (.ireturn, 1) := by decide +kernel
set_option maxRecDepth 20000 in
theorem ggX6_likeness_X6_isPerson : GoodIn wsX6_likeness wsX6_isPerson := goodIn_r _ [6, 7, 8, 9, 5, 10, 68, 69, 70, 71, 72, 73, 74, 75, 76, 77, 78, 79, 80, 81, 82, 83, 84, 85, 86, 87, 88, 89, 90, 91, 92, 93, 94, 95, 96, 97, 98, 99, 100, 101, 102, 103, 104, 105] (by decide +kernel) (by decide +kernel)
set_option maxRecDepth 20000 in
theorem gX6_likeness_X6_isPerson : GoodIn wsX6_likeness (wsV RX6 132 RX6 yX6_isPerson wsX6_isPerson) := goodIn_app (goodIn_of _ (by decide +kernel)) ggX6_likeness_X6_isPerson
set_option maxRecDepth 20000 in
theorem ggX6_likeness_X6_refused : GoodIn wsX6_likeness wsX6_refused := goodIn_r _ [14, 15, 68, 69, 70, 71, 72, 73, 74, 75, 76, 77, 78, 79, 80, 81, 82, 83, 84, 85, 86, 87, 88, 89, 90, 91, 92, 93, 94, 95, 96, 97, 98, 99, 100, 101, 102, 103, 104, 105] (by decide +kernel) (by decide +kernel)
set_option maxRecDepth 20000 in
theorem gX6_likeness_X6_refused : GoodIn wsX6_likeness (wsV RX6 115 RX6 yX6_refused wsX6_refused) := goodIn_app (goodIn_of _ (by decide +kernel)) ggX6_likeness_X6_refused
set_option maxRecDepth 20000 in
theorem ggX6_likeness_X6_goThrough : GoodIn wsX6_likeness wsX6_goThrough := goodIn_r _ [19, 20, 21, 22, 23, 24, 25, 26, 27, 28, 29, 30, 31, 32, 33, 34, 35, 7, 36, 37, 38, 5, 39, 40, 41, 42, 43, 44, 45, 46, 47, 48, 49, 50, 51, 52, 53, 54, 55, 56, 57, 58, 59, 68, 69, 70, 71, 72, 73, 74, 75, 76, 77, 78, 79, 80, 81, 82, 83, 84, 85, 86, 87, 88, 89, 90, 91, 92, 93, 94, 95, 96, 97, 98, 99, 100, 101, 102, 103, 104, 105] (by decide +kernel) (by decide +kernel)
set_option maxRecDepth 20000 in
theorem gX6_likeness_X6_goThrough : GoodIn wsX6_likeness (wsV RX6 173 RX6 yX6_goThrough wsX6_goThrough) := goodIn_app (goodIn_of _ (by decide +kernel)) ggX6_likeness_X6_goThrough
set_option maxRecDepth 20000 in
theorem ggX6_likeness_X6_like : GoodIn wsX6_likeness wsX6_like := goodIn_r _ [63, 26, 23, 22, 64, 65, 66, 5, 67, 21, 68, 69, 70, 71, 72, 73, 74, 75, 76, 77, 78, 79, 80, 81, 82, 83, 84, 85, 86, 87, 88, 89, 90, 91, 92, 93, 94, 95, 96, 97, 98, 99, 100, 101, 102, 103, 104, 105] (by decide +kernel) (by decide +kernel)
set_option maxRecDepth 20000 in
theorem gX6_likeness_X6_like : GoodIn wsX6_likeness (wsV RX6 188 RX6 yX6_like wsX6_like) := goodIn_app (goodIn_of _ (by decide +kernel)) ggX6_likeness_X6_like
theorem dX6_likeness_0 : decode cX6_likeness 0 = .ok (.aload_n 0, 1) := by decide +kernel
theorem dX6_likeness_1 : decode cX6_likeness 1 = .ok (.iload_n 1, 1) := by decide +kernel
theorem dX6_likeness_2 : decode cX6_likeness 2 = .ok (.invokevirtual 132, 3) := by decide +kernel
theorem dX6_likeness_5 : decode cX6_likeness 5 = .ok (.ifCond .eq 15, 3) := by decide +kernel
theorem dX6_likeness_8 : decode cX6_likeness 8 = .ok (.aload_n 0, 1) := by decide +kernel
theorem dX6_likeness_9 : decode cX6_likeness 9 = .ok (.iload_n 2, 1) := by decide +kernel
theorem dX6_likeness_10 : decode cX6_likeness 10 = .ok (.invokevirtual 132, 3) := by decide +kernel
theorem dX6_likeness_13 : decode cX6_likeness 13 = .ok (.ifCond .eq 7, 3) := by decide +kernel
theorem dX6_likeness_16 : decode cX6_likeness 16 = .ok (.iconst 1, 1) := by decide +kernel
theorem dX6_likeness_17 : decode cX6_likeness 17 = .ok (.goto 4, 3) := by decide +kernel
theorem dX6_likeness_20 : decode cX6_likeness 20 = .ok (.iconst 0, 1) := by decide +kernel
theorem dX6_likeness_21 : decode cX6_likeness 21 = .ok (.istore_n 3, 1) := by decide +kernel
theorem dX6_likeness_22 : decode cX6_likeness 22 = .ok (.aload_n 0, 1) := by decide +kernel
theorem dX6_likeness_23 : decode cX6_likeness 23 = .ok (.iload_n 3, 1) := by decide +kernel
theorem dX6_likeness_24 : decode cX6_likeness 24 = .ok (.ifCond .ne 7, 3) := by decide +kernel
theorem dX6_likeness_27 : decode cX6_likeness 27 = .ok (.iconst 1, 1) := by decide +kernel
theorem dX6_likeness_28 : decode cX6_likeness 28 = .ok (.goto 13, 3) := by decide +kernel
theorem dX6_likeness_31 : decode cX6_likeness 31 = .ok (.iload_n 1, 1) := by decide +kernel
theorem dX6_likeness_32 : decode cX6_likeness 32 = .ok (.iload_n 2, 1) := by decide +kernel
theorem dX6_likeness_33 : decode cX6_likeness 33 = .ok (.if_icmp .ne 7, 3) := by decide +kernel
theorem dX6_likeness_36 : decode cX6_likeness 36 = .ok (.iconst 2, 1) := by decide +kernel
theorem dX6_likeness_37 : decode cX6_likeness 37 = .ok (.goto 4, 3) := by decide +kernel
theorem dX6_likeness_40 : decode cX6_likeness 40 = .ok (.iconst 0, 1) := by decide +kernel
theorem dX6_likeness_41 : decode cX6_likeness 41 = .ok (.invokevirtual 115, 3) := by decide +kernel
theorem dX6_likeness_44 : decode cX6_likeness 44 = .ok (.ifCond .eq 5, 3) := by decide +kernel
theorem dX6_likeness_47 : decode cX6_likeness 47 = .ok (.iconst 0, 1) := by decide +kernel
theorem dX6_likeness_48 : decode cX6_likeness 48 = .ok (.ireturn, 1) := by decide +kernel
theorem dX6_likeness_49 : decode cX6_likeness 49 = .ok (.aload_n 0, 1) := by decide +kernel
theorem dX6_likeness_50 : decode cX6_likeness 50 = .ok (.aload_n 0, 1) := by decide +kernel
theorem dX6_likeness_51 : decode cX6_likeness 51 = .ok (.getfield 7, 3) := by decide +kernel
theorem dX6_likeness_54 : decode cX6_likeness 54 = .ok (.aload_n 0, 1) := by decide +kernel
theorem dX6_likeness_55 : decode cX6_likeness 55 = .ok (.getfield 7, 3) := by decide +kernel
theorem dX6_likeness_58 : decode cX6_likeness 58 = .ok (.invokevirtual 173, 3) := by decide +kernel
theorem dX6_likeness_61 : decode cX6_likeness 61 = .ok (.aload_n 0, 1) := by decide +kernel
theorem dX6_likeness_62 : decode cX6_likeness 62 = .ok (.iload_n 1, 1) := by decide +kernel
theorem dX6_likeness_63 : decode cX6_likeness 63 = .ok (.iload_n 2, 1) := by decide +kernel
theorem dX6_likeness_64 : decode cX6_likeness 64 = .ok (.invokevirtual 188, 3) := by decide +kernel
theorem dX6_likeness_67 : decode cX6_likeness 67 = .ok (.ireturn, 1) := by decide +kernel
set_option maxRecDepth 20000 in
theorem ggX6_doubleOf_X6_isPerson : GoodIn wsX6_doubleOf wsX6_isPerson := goodIn_r _ [7, 2, 8, 9, 6, 10, 68, 69, 70, 71, 72, 73, 74, 75, 76, 77, 78, 79, 80, 81, 82, 83, 84, 85, 86, 87, 88, 89, 90, 91, 92, 93, 94, 95, 96, 97, 98, 99, 100, 101, 102, 103, 104, 105] (by decide +kernel) (by decide +kernel)
set_option maxRecDepth 20000 in
theorem gX6_doubleOf_X6_isPerson : GoodIn wsX6_doubleOf (wsV RX6 132 RX6 yX6_isPerson wsX6_isPerson) := goodIn_app (goodIn_of _ (by decide +kernel)) ggX6_doubleOf_X6_isPerson
set_option maxRecDepth 20000 in
theorem ggX6_doubleOf_X6_refused : GoodIn wsX6_doubleOf wsX6_refused := goodIn_r _ [14, 15, 68, 69, 70, 71, 72, 73, 74, 75, 76, 77, 78, 79, 80, 81, 82, 83, 84, 85, 86, 87, 88, 89, 90, 91, 92, 93, 94, 95, 96, 97, 98, 99, 100, 101, 102, 103, 104, 105] (by decide +kernel) (by decide +kernel)
set_option maxRecDepth 20000 in
theorem gX6_doubleOf_X6_refused : GoodIn wsX6_doubleOf (wsV RX6 115 RX6 yX6_refused wsX6_refused) := goodIn_app (goodIn_of _ (by decide +kernel)) ggX6_doubleOf_X6_refused
set_option maxRecDepth 20000 in
theorem ggX6_doubleOf_X6_goThrough : GoodIn wsX6_doubleOf wsX6_goThrough := goodIn_r _ [19, 20, 21, 22, 23, 24, 25, 26, 27, 28, 29, 30, 31, 32, 33, 34, 35, 2, 36, 37, 38, 6, 39, 40, 41, 42, 43, 44, 45, 46, 47, 48, 49, 50, 51, 52, 53, 54, 55, 56, 57, 58, 59, 68, 69, 70, 71, 72, 73, 74, 75, 76, 77, 78, 79, 80, 81, 82, 83, 84, 85, 86, 87, 88, 89, 90, 91, 92, 93, 94, 95, 96, 97, 98, 99, 100, 101, 102, 103, 104, 105] (by decide +kernel) (by decide +kernel)
set_option maxRecDepth 20000 in
theorem gX6_doubleOf_X6_goThrough : GoodIn wsX6_doubleOf (wsV RX6 173 RX6 yX6_goThrough wsX6_goThrough) := goodIn_app (goodIn_of _ (by decide +kernel)) ggX6_doubleOf_X6_goThrough
set_option maxRecDepth 20000 in
theorem ggX6_doubleOf_X6_like : GoodIn wsX6_doubleOf wsX6_like := goodIn_r _ [63, 26, 23, 22, 64, 65, 66, 6, 67, 21, 68, 69, 70, 71, 72, 73, 74, 75, 76, 77, 78, 79, 80, 81, 82, 83, 84, 85, 86, 87, 88, 89, 90, 91, 92, 93, 94, 95, 96, 97, 98, 99, 100, 101, 102, 103, 104, 105] (by decide +kernel) (by decide +kernel)
set_option maxRecDepth 20000 in
theorem gX6_doubleOf_X6_like : GoodIn wsX6_doubleOf (wsV RX6 188 RX6 yX6_like wsX6_like) := goodIn_app (goodIn_of _ (by decide +kernel)) ggX6_doubleOf_X6_like
theorem dX6_doubleOf_0 : decode cX6_doubleOf 0 = .ok (.aload_n 0, 1) := by decide +kernel
theorem dX6_doubleOf_1 : decode cX6_doubleOf 1 = .ok (.aload_n 0, 1) := by decide +kernel
theorem dX6_doubleOf_2 : decode cX6_doubleOf 2 = .ok (.iload_n 1, 1) := by decide +kernel
theorem dX6_doubleOf_3 : decode cX6_doubleOf 3 = .ok (.invokevirtual 132, 3) := by decide +kernel
theorem dX6_doubleOf_6 : decode cX6_doubleOf 6 = .ok (.ifCond .eq 7, 3) := by decide +kernel
theorem dX6_doubleOf_9 : decode cX6_doubleOf 9 = .ok (.iconst 0, 1) := by decide +kernel
theorem dX6_doubleOf_10 : decode cX6_doubleOf 10 = .ok (.goto 4, 3) := by decide +kernel
theorem dX6_doubleOf_13 : decode cX6_doubleOf 13 = .ok (.iconst 1, 1) := by decide +kernel
theorem dX6_doubleOf_14 : decode cX6_doubleOf 14 = .ok (.invokevirtual 115, 3) := by decide +kernel
theorem dX6_doubleOf_17 : decode cX6_doubleOf 17 = .ok (.ifCond .eq 5, 3) := by decide +kernel
theorem dX6_doubleOf_20 : decode cX6_doubleOf 20 = .ok (.iconst 0, 1) := by decide +kernel
theorem dX6_doubleOf_21 : decode cX6_doubleOf 21 = .ok (.ireturn, 1) := by decide +kernel
theorem dX6_doubleOf_22 : decode cX6_doubleOf 22 = .ok (.aload_n 0, 1) := by decide +kernel
theorem dX6_doubleOf_23 : decode cX6_doubleOf 23 = .ok (.aload_n 0, 1) := by decide +kernel
theorem dX6_doubleOf_24 : decode cX6_doubleOf 24 = .ok (.getfield 7, 3) := by decide +kernel
theorem dX6_doubleOf_27 : decode cX6_doubleOf 27 = .ok (.aload_n 0, 1) := by decide +kernel
theorem dX6_doubleOf_28 : decode cX6_doubleOf 28 = .ok (.getfield 7, 3) := by decide +kernel
theorem dX6_doubleOf_31 : decode cX6_doubleOf 31 = .ok (.invokevirtual 173, 3) := by decide +kernel
theorem dX6_doubleOf_34 : decode cX6_doubleOf 34 = .ok (.iconst 0, 1) := by decide +kernel
theorem dX6_doubleOf_35 : decode cX6_doubleOf 35 = .ok (.istore_n 2, 1) := by decide +kernel
theorem dX6_doubleOf_36 : decode cX6_doubleOf 36 = .ok (.iload_n 2, 1) := by decide +kernel
theorem dX6_doubleOf_37 : decode cX6_doubleOf 37 = .ok (.aload_n 0, 1) := by decide +kernel
theorem dX6_doubleOf_38 : decode cX6_doubleOf 38 = .ok (.getfield 108, 3) := by decide +kernel
theorem dX6_doubleOf_41 : decode cX6_doubleOf 41 = .ok (.if_icmp .ge 27, 3) := by decide +kernel
theorem dX6_doubleOf_44 : decode cX6_doubleOf 44 = .ok (.iload_n 2, 1) := by decide +kernel
theorem dX6_doubleOf_45 : decode cX6_doubleOf 45 = .ok (.iload_n 1, 1) := by decide +kernel
theorem dX6_doubleOf_46 : decode cX6_doubleOf 46 = .ok (.if_icmp .eq 16, 3) := by decide +kernel
theorem dX6_doubleOf_49 : decode cX6_doubleOf 49 = .ok (.aload_n 0, 1) := by decide +kernel
theorem dX6_doubleOf_50 : decode cX6_doubleOf 50 = .ok (.iload_n 1, 1) := by decide +kernel
theorem dX6_doubleOf_51 : decode cX6_doubleOf 51 = .ok (.iload_n 2, 1) := by decide +kernel
theorem dX6_doubleOf_52 : decode cX6_doubleOf 52 = .ok (.invokevirtual 188, 3) := by decide +kernel
theorem dX6_doubleOf_55 : decode cX6_doubleOf 55 = .ok (.bipush 8, 2) := by decide +kernel
theorem dX6_doubleOf_57 : decode cX6_doubleOf 57 = .ok (.if_icmp .lt 5, 3) := by decide +kernel
theorem dX6_doubleOf_60 : decode cX6_doubleOf 60 = .ok (.iload_n 2, 1) := by decide +kernel
theorem dX6_doubleOf_61 : decode cX6_doubleOf 61 = .ok (.ireturn, 1) := by decide +kernel
theorem dX6_doubleOf_62 : decode cX6_doubleOf 62 = .ok (.iinc 2 1, 3) := by decide +kernel
theorem dX6_doubleOf_65 : decode cX6_doubleOf 65 = .ok (.goto (-29), 3) := by decide +kernel
theorem dX6_doubleOf_68 : decode cX6_doubleOf 68 = .ok (.iconst (-1), 1) := by decide +kernel
theorem dX6_doubleOf_69 : decode cX6_doubleOf 69 = .ok (.ireturn, 1) := by decide +kernel
set_option maxRecDepth 20000 in
theorem ggX6_renumber_X6_isPerson : GoodIn wsX6_renumber wsX6_isPerson := goodIn_r _ [6, 7, 8, 9, 5, 10, 26, 27, 28, 29, 30, 31, 32, 33, 34, 35, 36, 37, 38, 39, 40, 41, 42, 43, 44, 45, 46, 47, 48, 49, 50, 51, 52, 53, 54, 55, 56, 57, 58, 59, 60, 61, 62, 63] (by decide +kernel) (by decide +kernel)
set_option maxRecDepth 20000 in
theorem gX6_renumber_X6_isPerson : GoodIn wsX6_renumber (wsV RX6 132 RX6 yX6_isPerson wsX6_isPerson) := goodIn_app (goodIn_of _ (by decide +kernel)) ggX6_renumber_X6_isPerson
set_option maxRecDepth 20000 in
theorem ggX6_renumber_X6_refused : GoodIn wsX6_renumber wsX6_refused := goodIn_r _ [14, 15, 26, 27, 28, 29, 30, 31, 32, 33, 34, 35, 36, 37, 38, 39, 40, 41, 42, 43, 44, 45, 46, 47, 48, 49, 50, 51, 52, 53, 54, 55, 56, 57, 58, 59, 60, 61, 62, 63] (by decide +kernel) (by decide +kernel)
set_option maxRecDepth 20000 in
theorem gX6_renumber_X6_refused : GoodIn wsX6_renumber (wsV RX6 115 RX6 yX6_refused wsX6_refused) := goodIn_app (goodIn_of _ (by decide +kernel)) ggX6_renumber_X6_refused
set_option maxRecDepth 20000 in
theorem ggX6_renumber_X6_giveTo : GoodIn wsX6_renumber wsX6_giveTo := goodIn_r _ [19, 20, 21, 1, 22, 23, 24, 5, 25, 26, 27, 28, 29, 30, 31, 32, 33, 34, 35, 36, 37, 38, 39, 40, 41, 42, 43, 44, 45, 46, 47, 48, 49, 50, 51, 52, 53, 54, 55, 56, 57, 58, 59, 60, 61, 62, 63] (by decide +kernel) (by decide +kernel)
set_option maxRecDepth 20000 in
theorem gX6_renumber_X6_giveTo : GoodIn wsX6_renumber (wsV RX6 142 RX6 yX6_giveTo wsX6_giveTo) := goodIn_app (goodIn_of _ (by decide +kernel)) ggX6_renumber_X6_giveTo
theorem dX6_renumber_0 : decode cX6_renumber 0 = .ok (.aload_n 0, 1) := by decide +kernel
theorem dX6_renumber_1 : decode cX6_renumber 1 = .ok (.aload_n 0, 1) := by decide +kernel
theorem dX6_renumber_2 : decode cX6_renumber 2 = .ok (.iload_n 1, 1) := by decide +kernel
theorem dX6_renumber_3 : decode cX6_renumber 3 = .ok (.invokevirtual 132, 3) := by decide +kernel
theorem dX6_renumber_6 : decode cX6_renumber 6 = .ok (.ifCond .ne 7, 3) := by decide +kernel
theorem dX6_renumber_9 : decode cX6_renumber 9 = .ok (.iconst 1, 1) := by decide +kernel
theorem dX6_renumber_10 : decode cX6_renumber 10 = .ok (.goto 17, 3) := by decide +kernel
theorem dX6_renumber_13 : decode cX6_renumber 13 = .ok (.aload_n 0, 1) := by decide +kernel
theorem dX6_renumber_14 : decode cX6_renumber 14 = .ok (.getfield 129, 3) := by decide +kernel
theorem dX6_renumber_17 : decode cX6_renumber 17 = .ok (.bipush 60, 2) := by decide +kernel
theorem dX6_renumber_19 : decode cX6_renumber 19 = .ok (.if_icmp .ne 7, 3) := by decide +kernel
theorem dX6_renumber_22 : decode cX6_renumber 22 = .ok (.iconst 2, 1) := by decide +kernel
theorem dX6_renumber_23 : decode cX6_renumber 23 = .ok (.goto 4, 3) := by decide +kernel
theorem dX6_renumber_26 : decode cX6_renumber 26 = .ok (.iconst 0, 1) := by decide +kernel
theorem dX6_renumber_27 : decode cX6_renumber 27 = .ok (.invokevirtual 115, 3) := by decide +kernel
theorem dX6_renumber_30 : decode cX6_renumber 30 = .ok (.ifCond .eq 5, 3) := by decide +kernel
theorem dX6_renumber_33 : decode cX6_renumber 33 = .ok (.iconst 0, 1) := by decide +kernel
theorem dX6_renumber_34 : decode cX6_renumber 34 = .ok (.ireturn, 1) := by decide +kernel
theorem dX6_renumber_35 : decode cX6_renumber 35 = .ok (.aload_n 0, 1) := by decide +kernel
theorem dX6_renumber_36 : decode cX6_renumber 36 = .ok (.iload_n 1, 1) := by decide +kernel
theorem dX6_renumber_37 : decode cX6_renumber 37 = .ok (.invokevirtual 142, 3) := by decide +kernel
theorem dX6_renumber_40 : decode cX6_renumber 40 = .ok (.ireturn, 1) := by decide +kernel
set_option maxRecDepth 20000 in
theorem ggX6_number_X6_isPerson : GoodIn wsX6_number wsX6_isPerson := goodIn_r _ [8, 9, 10, 11, 7, 12, 18, 19, 20, 21, 22, 23, 24, 25, 26, 27, 28, 29, 30, 31, 32, 33, 34, 35, 36, 37, 38, 39, 40, 41, 42, 43, 44, 45, 46, 47, 48, 49, 50, 51, 52, 53, 54, 55] (by decide +kernel) (by decide +kernel)
set_option maxRecDepth 20000 in
theorem gX6_number_X6_isPerson : GoodIn wsX6_number (wsV RX6 132 RX6 yX6_isPerson wsX6_isPerson) := goodIn_app (goodIn_of _ (by decide +kernel)) ggX6_number_X6_isPerson
set_option maxRecDepth 20000 in
theorem ggX6_number_X6_refused : GoodIn wsX6_number wsX6_refused := goodIn_r _ [16, 17, 18, 19, 20, 21, 22, 23, 24, 25, 26, 27, 28, 29, 30, 31, 32, 33, 34, 35, 36, 37, 38, 39, 40, 41, 42, 43, 44, 45, 46, 47, 48, 49, 50, 51, 52, 53, 54, 55] (by decide +kernel) (by decide +kernel)
set_option maxRecDepth 20000 in
theorem gX6_number_X6_refused : GoodIn wsX6_number (wsV RX6 115 RX6 yX6_refused wsX6_refused) := goodIn_app (goodIn_of _ (by decide +kernel)) ggX6_number_X6_refused
theorem dX6_number_0 : decode cX6_number 0 = .ok (.aload_n 0, 1) := by decide +kernel
theorem dX6_number_1 : decode cX6_number 1 = .ok (.aload_n 0, 1) := by decide +kernel
theorem dX6_number_2 : decode cX6_number 2 = .ok (.iload_n 1, 1) := by decide +kernel
theorem dX6_number_3 : decode cX6_number 3 = .ok (.invokevirtual 132, 3) := by decide +kernel
theorem dX6_number_6 : decode cX6_number 6 = .ok (.ifCond .eq 7, 3) := by decide +kernel
theorem dX6_number_9 : decode cX6_number 9 = .ok (.iconst 0, 1) := by decide +kernel
theorem dX6_number_10 : decode cX6_number 10 = .ok (.goto 4, 3) := by decide +kernel
theorem dX6_number_13 : decode cX6_number 13 = .ok (.iconst 1, 1) := by decide +kernel
theorem dX6_number_14 : decode cX6_number 14 = .ok (.invokevirtual 115, 3) := by decide +kernel
theorem dX6_number_17 : decode cX6_number 17 = .ok (.ifCond .eq 5, 3) := by decide +kernel
theorem dX6_number_20 : decode cX6_number 20 = .ok (.iconst 0, 1) := by decide +kernel
theorem dX6_number_21 : decode cX6_number 21 = .ok (.ireturn, 1) := by decide +kernel
theorem dX6_number_22 : decode cX6_number 22 = .ok (.iconst 0, 1) := by decide +kernel
theorem dX6_number_23 : decode cX6_number 23 = .ok (.istore_n 2, 1) := by decide +kernel
theorem dX6_number_24 : decode cX6_number 24 = .ok (.iconst 0, 1) := by decide +kernel
theorem dX6_number_25 : decode cX6_number 25 = .ok (.istore_n 3, 1) := by decide +kernel
theorem dX6_number_26 : decode cX6_number 26 = .ok (.iload_n 3, 1) := by decide +kernel
theorem dX6_number_27 : decode cX6_number 27 = .ok (.aload_n 0, 1) := by decide +kernel
theorem dX6_number_28 : decode cX6_number 28 = .ok (.getfield 129, 3) := by decide +kernel
theorem dX6_number_31 : decode cX6_number 31 = .ok (.if_icmp .ge 30, 3) := by decide +kernel
theorem dX6_number_34 : decode cX6_number 34 = .ok (.aload_n 0, 1) := by decide +kernel
theorem dX6_number_35 : decode cX6_number 35 = .ok (.getfield 47, 3) := by decide +kernel
theorem dX6_number_38 : decode cX6_number 38 = .ok (.iload_n 3, 1) := by decide +kernel
theorem dX6_number_39 : decode cX6_number 39 = .ok (.iaload, 1) := by decide +kernel
theorem dX6_number_40 : decode cX6_number 40 = .ok (.iload_n 1, 1) := by decide +kernel
theorem dX6_number_41 : decode cX6_number 41 = .ok (.if_icmp .ne 12, 3) := by decide +kernel
theorem dX6_number_44 : decode cX6_number 44 = .ok (.aload_n 0, 1) := by decide +kernel
theorem dX6_number_45 : decode cX6_number 45 = .ok (.getfield 44, 3) := by decide +kernel
theorem dX6_number_48 : decode cX6_number 48 = .ok (.iload_n 3, 1) := by decide +kernel
theorem dX6_number_49 : decode cX6_number 49 = .ok (.iaload, 1) := by decide +kernel
theorem dX6_number_50 : decode cX6_number 50 = .ok (.goto 4, 3) := by decide +kernel
theorem dX6_number_53 : decode cX6_number 53 = .ok (.iload_n 2, 1) := by decide +kernel
theorem dX6_number_54 : decode cX6_number 54 = .ok (.istore_n 2, 1) := by decide +kernel
theorem dX6_number_55 : decode cX6_number 55 = .ok (.iinc 3 1, 3) := by decide +kernel
theorem dX6_number_58 : decode cX6_number 58 = .ok (.goto (-32), 3) := by decide +kernel
theorem dX6_number_61 : decode cX6_number 61 = .ok (.iload_n 2, 1) := by decide +kernel
theorem dX6_number_62 : decode cX6_number 62 = .ok (.ireturn, 1) := by decide +kernel
set_option maxRecDepth 20000 in
theorem ggX6_bearer_X6_within : GoodIn wsX6_bearer wsX6_within := goodIn_r _ [8] (by decide +kernel) (by decide +kernel)
set_option maxRecDepth 20000 in
theorem gX6_bearer_X6_within : GoodIn wsX6_bearer (va_wsS RX6 111 yX6_within wsX6_within) := goodIn_app (goodIn_of _ (by decide +kernel)) ggX6_bearer_X6_within
set_option maxRecDepth 20000 in
theorem ggX6_bearer_X6_checkOf : GoodIn wsX6_bearer wsX6_checkOf := goodIn_r _ [11] (by decide +kernel) (by decide +kernel)
set_option maxRecDepth 20000 in
theorem gX6_bearer_X6_checkOf : GoodIn wsX6_bearer (va_wsS RX6 125 yX6_checkOf wsX6_checkOf) := goodIn_app (goodIn_of _ (by decide +kernel)) ggX6_bearer_X6_checkOf
set_option maxRecDepth 20000 in
theorem ggX6_bearer_X6_refused : GoodIn wsX6_bearer wsX6_refused := goodIn_r _ [15, 16, 17, 18, 19, 20, 21, 22, 23, 24, 25, 26, 27, 28, 29, 30, 31, 32, 33, 34, 35, 36, 37, 38, 39, 40, 41, 42, 43, 44, 45, 46, 47, 48, 49, 50, 51, 52, 53, 54] (by decide +kernel) (by decide +kernel)
set_option maxRecDepth 20000 in
theorem gX6_bearer_X6_refused : GoodIn wsX6_bearer (wsV RX6 115 RX6 yX6_refused wsX6_refused) := goodIn_app (goodIn_of _ (by decide +kernel)) ggX6_bearer_X6_refused
theorem dX6_bearer_0 : decode cX6_bearer 0 = .ok (.iload_n 1, 1) := by decide +kernel
theorem dX6_bearer_1 : decode cX6_bearer 1 = .ok (.sipush 10010, 3) := by decide +kernel
theorem dX6_bearer_4 : decode cX6_bearer 4 = .ok (.ldc 191, 2) := by decide +kernel
theorem dX6_bearer_6 : decode cX6_bearer 6 = .ok (.invokestatic 111, 3) := by decide +kernel
theorem dX6_bearer_9 : decode cX6_bearer 9 = .ok (.ifCond .eq 21, 3) := by decide +kernel
theorem dX6_bearer_12 : decode cX6_bearer 12 = .ok (.iload_n 1, 1) := by decide +kernel
theorem dX6_bearer_13 : decode cX6_bearer 13 = .ok (.bipush 10, 2) := by decide +kernel
theorem dX6_bearer_15 : decode cX6_bearer 15 = .ok (.idiv, 1) := by decide +kernel
theorem dX6_bearer_16 : decode cX6_bearer 16 = .ok (.invokestatic 125, 3) := by decide +kernel
theorem dX6_bearer_19 : decode cX6_bearer 19 = .ok (.iload_n 1, 1) := by decide +kernel
theorem dX6_bearer_20 : decode cX6_bearer 20 = .ok (.bipush 10, 2) := by decide +kernel
theorem dX6_bearer_22 : decode cX6_bearer 22 = .ok (.irem, 1) := by decide +kernel
theorem dX6_bearer_23 : decode cX6_bearer 23 = .ok (.if_icmp .ne 7, 3) := by decide +kernel
theorem dX6_bearer_26 : decode cX6_bearer 26 = .ok (.iconst 1, 1) := by decide +kernel
theorem dX6_bearer_27 : decode cX6_bearer 27 = .ok (.goto 4, 3) := by decide +kernel
theorem dX6_bearer_30 : decode cX6_bearer 30 = .ok (.iconst 0, 1) := by decide +kernel
theorem dX6_bearer_31 : decode cX6_bearer 31 = .ok (.istore_n 2, 1) := by decide +kernel
theorem dX6_bearer_32 : decode cX6_bearer 32 = .ok (.aload_n 0, 1) := by decide +kernel
theorem dX6_bearer_33 : decode cX6_bearer 33 = .ok (.iload_n 2, 1) := by decide +kernel
theorem dX6_bearer_34 : decode cX6_bearer 34 = .ok (.ifCond .eq 7, 3) := by decide +kernel
theorem dX6_bearer_37 : decode cX6_bearer 37 = .ok (.iconst 0, 1) := by decide +kernel
theorem dX6_bearer_38 : decode cX6_bearer 38 = .ok (.goto 4, 3) := by decide +kernel
theorem dX6_bearer_41 : decode cX6_bearer 41 = .ok (.iconst 1, 1) := by decide +kernel
theorem dX6_bearer_42 : decode cX6_bearer 42 = .ok (.invokevirtual 115, 3) := by decide +kernel
theorem dX6_bearer_45 : decode cX6_bearer 45 = .ok (.ifCond .eq 5, 3) := by decide +kernel
theorem dX6_bearer_48 : decode cX6_bearer 48 = .ok (.iconst 0, 1) := by decide +kernel
theorem dX6_bearer_49 : decode cX6_bearer 49 = .ok (.ireturn, 1) := by decide +kernel
theorem dX6_bearer_50 : decode cX6_bearer 50 = .ok (.iconst (-1), 1) := by decide +kernel
theorem dX6_bearer_51 : decode cX6_bearer 51 = .ok (.istore_n 3, 1) := by decide +kernel
theorem dX6_bearer_52 : decode cX6_bearer 52 = .ok (.iconst 0, 1) := by decide +kernel
theorem dX6_bearer_53 : decode cX6_bearer 53 = .ok (.istore 4, 2) := by decide +kernel
theorem dX6_bearer_55 : decode cX6_bearer 55 = .ok (.iload 4, 2) := by decide +kernel
theorem dX6_bearer_57 : decode cX6_bearer 57 = .ok (.aload_n 0, 1) := by decide +kernel
theorem dX6_bearer_58 : decode cX6_bearer 58 = .ok (.getfield 129, 3) := by decide +kernel
theorem dX6_bearer_61 : decode cX6_bearer 61 = .ok (.if_icmp .ge 32, 3) := by decide +kernel
theorem dX6_bearer_64 : decode cX6_bearer 64 = .ok (.aload_n 0, 1) := by decide +kernel
theorem dX6_bearer_65 : decode cX6_bearer 65 = .ok (.getfield 44, 3) := by decide +kernel
theorem dX6_bearer_68 : decode cX6_bearer 68 = .ok (.iload 4, 2) := by decide +kernel
theorem dX6_bearer_70 : decode cX6_bearer 70 = .ok (.iaload, 1) := by decide +kernel
theorem dX6_bearer_71 : decode cX6_bearer 71 = .ok (.iload_n 1, 1) := by decide +kernel
theorem dX6_bearer_72 : decode cX6_bearer 72 = .ok (.if_icmp .ne 13, 3) := by decide +kernel
theorem dX6_bearer_75 : decode cX6_bearer 75 = .ok (.aload_n 0, 1) := by decide +kernel
theorem dX6_bearer_76 : decode cX6_bearer 76 = .ok (.getfield 47, 3) := by decide +kernel
theorem dX6_bearer_79 : decode cX6_bearer 79 = .ok (.iload 4, 2) := by decide +kernel
theorem dX6_bearer_81 : decode cX6_bearer 81 = .ok (.iaload, 1) := by decide +kernel
theorem dX6_bearer_82 : decode cX6_bearer 82 = .ok (.goto 4, 3) := by decide +kernel
theorem dX6_bearer_85 : decode cX6_bearer 85 = .ok (.iload_n 3, 1) := by decide +kernel
theorem dX6_bearer_86 : decode cX6_bearer 86 = .ok (.istore_n 3, 1) := by decide +kernel
theorem dX6_bearer_87 : decode cX6_bearer 87 = .ok (.iinc 4 1, 3) := by decide +kernel
theorem dX6_bearer_90 : decode cX6_bearer 90 = .ok (.goto (-35), 3) := by decide +kernel
theorem dX6_bearer_93 : decode cX6_bearer 93 = .ok (.iload_n 3, 1) := by decide +kernel
theorem dX6_bearer_94 : decode cX6_bearer 94 = .ok (.ireturn, 1) := by decide +kernel
set_option maxRecDepth 20000 in
theorem ggX6_isRoll_X6_within : GoodIn wsX6_isRoll wsX6_within := goodIn_r _ [5] (by decide +kernel) (by decide +kernel)
set_option maxRecDepth 20000 in
theorem gX6_isRoll_X6_within : GoodIn wsX6_isRoll (va_wsS RX6 111 yX6_within wsX6_within) := goodIn_app (goodIn_of _ (by decide +kernel)) ggX6_isRoll_X6_within
theorem dX6_isRoll_0 : decode cX6_isRoll 0 = .ok (.iload_n 1, 1) := by decide +kernel
theorem dX6_isRoll_1 : decode cX6_isRoll 1 = .ok (.iconst 0, 1) := by decide +kernel
theorem dX6_isRoll_2 : decode cX6_isRoll 2 = .ok (.aload_n 0, 1) := by decide +kernel
theorem dX6_isRoll_3 : decode cX6_isRoll 3 = .ok (.getfield 192, 3) := by decide +kernel
theorem dX6_isRoll_6 : decode cX6_isRoll 6 = .ok (.iconst 1, 1) := by decide +kernel
theorem dX6_isRoll_7 : decode cX6_isRoll 7 = .ok (.isub, 1) := by decide +kernel
theorem dX6_isRoll_8 : decode cX6_isRoll 8 = .ok (.invokestatic 111, 3) := by decide +kernel
theorem dX6_isRoll_11 : decode cX6_isRoll 11 = .ok (.ireturn, 1) := by decide +kernel
set_option maxRecDepth 20000 in
theorem ggX6_roll_X6_within : GoodIn wsX6_roll wsX6_within := goodIn_r _ [7] (by decide +kernel) (by decide +kernel)
set_option maxRecDepth 20000 in
theorem gX6_roll_X6_within : GoodIn wsX6_roll (va_wsS RX6 111 yX6_within wsX6_within) := goodIn_app (goodIn_of _ (by decide +kernel)) ggX6_roll_X6_within
set_option maxRecDepth 20000 in
theorem ggX6_roll_X6_refused : GoodIn wsX6_roll wsX6_refused := goodIn_r _ [11, 12, 13, 14, 15, 16, 17, 18, 19, 20, 21, 22, 23, 24, 25, 26, 27, 28, 29, 30, 31, 32, 33, 34, 35, 36, 37, 38, 39, 40, 41, 42, 43, 44, 45, 46, 47, 48, 49, 50] (by decide +kernel) (by decide +kernel)
set_option maxRecDepth 20000 in
theorem gX6_roll_X6_refused : GoodIn wsX6_roll (wsV RX6 115 RX6 yX6_refused wsX6_refused) := goodIn_app (goodIn_of _ (by decide +kernel)) ggX6_roll_X6_refused
theorem dX6_roll_0 : decode cX6_roll 0 = .ok (.aload_n 0, 1) := by decide +kernel
theorem dX6_roll_1 : decode cX6_roll 1 = .ok (.iload_n 2, 1) := by decide +kernel
theorem dX6_roll_2 : decode cX6_roll 2 = .ok (.iconst 0, 1) := by decide +kernel
theorem dX6_roll_3 : decode cX6_roll 3 = .ok (.iconst 3, 1) := by decide +kernel
theorem dX6_roll_4 : decode cX6_roll 4 = .ok (.invokestatic 111, 3) := by decide +kernel
theorem dX6_roll_7 : decode cX6_roll 7 = .ok (.ifCond .ne 7, 3) := by decide +kernel
theorem dX6_roll_10 : decode cX6_roll 10 = .ok (.iconst 1, 1) := by decide +kernel
theorem dX6_roll_11 : decode cX6_roll 11 = .ok (.goto 29, 3) := by decide +kernel
theorem dX6_roll_14 : decode cX6_roll 14 = .ok (.iload_n 1, 1) := by decide +kernel
theorem dX6_roll_15 : decode cX6_roll 15 = .ok (.iconst 0, 1) := by decide +kernel
theorem dX6_roll_16 : decode cX6_roll 16 = .ok (.iconst 3, 1) := by decide +kernel
theorem dX6_roll_17 : decode cX6_roll 17 = .ok (.invokestatic 111, 3) := by decide +kernel
theorem dX6_roll_20 : decode cX6_roll 20 = .ok (.ifCond .ne 7, 3) := by decide +kernel
theorem dX6_roll_23 : decode cX6_roll 23 = .ok (.iconst 2, 1) := by decide +kernel
theorem dX6_roll_24 : decode cX6_roll 24 = .ok (.goto 16, 3) := by decide +kernel
theorem dX6_roll_27 : decode cX6_roll 27 = .ok (.aload_n 0, 1) := by decide +kernel
theorem dX6_roll_28 : decode cX6_roll 28 = .ok (.getfield 192, 3) := by decide +kernel
theorem dX6_roll_31 : decode cX6_roll 31 = .ok (.iconst 5, 1) := by decide +kernel
theorem dX6_roll_32 : decode cX6_roll 32 = .ok (.if_icmp .ne 7, 3) := by decide +kernel
theorem dX6_roll_35 : decode cX6_roll 35 = .ok (.iconst 3, 1) := by decide +kernel
theorem dX6_roll_36 : decode cX6_roll 36 = .ok (.goto 4, 3) := by decide +kernel
theorem dX6_roll_39 : decode cX6_roll 39 = .ok (.iconst 0, 1) := by decide +kernel
theorem dX6_roll_40 : decode cX6_roll 40 = .ok (.invokevirtual 115, 3) := by decide +kernel
theorem dX6_roll_43 : decode cX6_roll 43 = .ok (.ifCond .eq 5, 3) := by decide +kernel
theorem dX6_roll_46 : decode cX6_roll 46 = .ok (.iconst 0, 1) := by decide +kernel
theorem dX6_roll_47 : decode cX6_roll 47 = .ok (.ireturn, 1) := by decide +kernel
theorem dX6_roll_48 : decode cX6_roll 48 = .ok (.aload_n 0, 1) := by decide +kernel
theorem dX6_roll_49 : decode cX6_roll 49 = .ok (.getfield 84, 3) := by decide +kernel
theorem dX6_roll_52 : decode cX6_roll 52 = .ok (.aload_n 0, 1) := by decide +kernel
theorem dX6_roll_53 : decode cX6_roll 53 = .ok (.getfield 192, 3) := by decide +kernel
theorem dX6_roll_56 : decode cX6_roll 56 = .ok (.iload_n 1, 1) := by decide +kernel
theorem dX6_roll_57 : decode cX6_roll 57 = .ok (.iastore, 1) := by decide +kernel
theorem dX6_roll_58 : decode cX6_roll 58 = .ok (.aload_n 0, 1) := by decide +kernel
theorem dX6_roll_59 : decode cX6_roll 59 = .ok (.getfield 87, 3) := by decide +kernel
theorem dX6_roll_62 : decode cX6_roll 62 = .ok (.aload_n 0, 1) := by decide +kernel
theorem dX6_roll_63 : decode cX6_roll 63 = .ok (.getfield 192, 3) := by decide +kernel
theorem dX6_roll_66 : decode cX6_roll 66 = .ok (.iload_n 2, 1) := by decide +kernel
theorem dX6_roll_67 : decode cX6_roll 67 = .ok (.iastore, 1) := by decide +kernel
theorem dX6_roll_68 : decode cX6_roll 68 = .ok (.aload_n 0, 1) := by decide +kernel
theorem dX6_roll_69 : decode cX6_roll 69 = .ok (.dup, 1) := by decide +kernel
theorem dX6_roll_70 : decode cX6_roll 70 = .ok (.getfield 192, 3) := by decide +kernel
theorem dX6_roll_73 : decode cX6_roll 73 = .ok (.iconst 1, 1) := by decide +kernel
theorem dX6_roll_74 : decode cX6_roll 74 = .ok (.iadd, 1) := by decide +kernel
theorem dX6_roll_75 : decode cX6_roll 75 = .ok (.putfield 192, 3) := by decide +kernel
theorem dX6_roll_78 : decode cX6_roll 78 = .ok (.aload_n 0, 1) := by decide +kernel
theorem dX6_roll_79 : decode cX6_roll 79 = .ok (.getfield 192, 3) := by decide +kernel
theorem dX6_roll_82 : decode cX6_roll 82 = .ok (.iconst 1, 1) := by decide +kernel
theorem dX6_roll_83 : decode cX6_roll 83 = .ok (.isub, 1) := by decide +kernel
theorem dX6_roll_84 : decode cX6_roll 84 = .ok (.ireturn, 1) := by decide +kernel
set_option maxRecDepth 20000 in
theorem ggX6_belongs_X6_ageOf : GoodIn wsX6_belongs wsX6_ageOf := goodIn_r _ [9, 10, 11, 15, 16, 17, 18, 19, 20, 21, 22, 23, 24, 25, 26, 27, 28, 29, 30, 31, 32, 33, 34, 35, 36, 37, 38, 39, 40, 41, 42, 43, 44, 45, 46, 47, 48, 49, 50, 51, 52] (by decide +kernel) (by decide +kernel)
set_option maxRecDepth 20000 in
theorem gX6_belongs_X6_ageOf : GoodIn wsX6_belongs (wsV RX6 163 RX6 yX6_ageOf wsX6_ageOf) := goodIn_app (goodIn_of _ (by decide +kernel)) ggX6_belongs_X6_ageOf
set_option maxRecDepth 20000 in
theorem ggX6_belongs_X6_within : GoodIn wsX6_belongs wsX6_within := goodIn_r _ [14] (by decide +kernel) (by decide +kernel)
set_option maxRecDepth 20000 in
theorem gX6_belongs_X6_within : GoodIn wsX6_belongs (va_wsS RX6 111 yX6_within wsX6_within) := goodIn_app (goodIn_of _ (by decide +kernel)) ggX6_belongs_X6_within
theorem dX6_belongs_0 : decode cX6_belongs 0 = .ok (.aload_n 0, 1) := by decide +kernel
theorem dX6_belongs_1 : decode cX6_belongs 1 = .ok (.iload_n 2, 1) := by decide +kernel
theorem dX6_belongs_2 : decode cX6_belongs 2 = .ok (.aload_n 0, 1) := by decide +kernel
theorem dX6_belongs_3 : decode cX6_belongs 3 = .ok (.getfield 7, 3) := by decide +kernel
theorem dX6_belongs_6 : decode cX6_belongs 6 = .ok (.invokevirtual 163, 3) := by decide +kernel
theorem dX6_belongs_9 : decode cX6_belongs 9 = .ok (.istore_n 3, 1) := by decide +kernel
theorem dX6_belongs_10 : decode cX6_belongs 10 = .ok (.iload_n 3, 1) := by decide +kernel
theorem dX6_belongs_11 : decode cX6_belongs 11 = .ok (.iconst (-1), 1) := by decide +kernel
theorem dX6_belongs_12 : decode cX6_belongs 12 = .ok (.if_icmp .ne 5, 3) := by decide +kernel
theorem dX6_belongs_15 : decode cX6_belongs 15 = .ok (.iconst 0, 1) := by decide +kernel
theorem dX6_belongs_16 : decode cX6_belongs 16 = .ok (.ireturn, 1) := by decide +kernel
theorem dX6_belongs_17 : decode cX6_belongs 17 = .ok (.aload_n 0, 1) := by decide +kernel
theorem dX6_belongs_18 : decode cX6_belongs 18 = .ok (.getfield 84, 3) := by decide +kernel
theorem dX6_belongs_21 : decode cX6_belongs 21 = .ok (.iload_n 1, 1) := by decide +kernel
theorem dX6_belongs_22 : decode cX6_belongs 22 = .ok (.iaload, 1) := by decide +kernel
theorem dX6_belongs_23 : decode cX6_belongs 23 = .ok (.istore 4, 2) := by decide +kernel
theorem dX6_belongs_25 : decode cX6_belongs 25 = .ok (.iload 4, 2) := by decide +kernel
theorem dX6_belongs_27 : decode cX6_belongs 27 = .ok (.iconst 1, 1) := by decide +kernel
theorem dX6_belongs_28 : decode cX6_belongs 28 = .ok (.if_icmp .ne 17, 3) := by decide +kernel
theorem dX6_belongs_31 : decode cX6_belongs 31 = .ok (.iload_n 3, 1) := by decide +kernel
theorem dX6_belongs_32 : decode cX6_belongs 32 = .ok (.bipush 18, 2) := by decide +kernel
theorem dX6_belongs_34 : decode cX6_belongs 34 = .ok (.if_icmp .lt 7, 3) := by decide +kernel
theorem dX6_belongs_37 : decode cX6_belongs 37 = .ok (.iconst 1, 1) := by decide +kernel
theorem dX6_belongs_38 : decode cX6_belongs 38 = .ok (.goto 52, 3) := by decide +kernel
theorem dX6_belongs_41 : decode cX6_belongs 41 = .ok (.iconst 0, 1) := by decide +kernel
theorem dX6_belongs_42 : decode cX6_belongs 42 = .ok (.goto 48, 3) := by decide +kernel
theorem dX6_belongs_45 : decode cX6_belongs 45 = .ok (.iload 4, 2) := by decide +kernel
theorem dX6_belongs_47 : decode cX6_belongs 47 = .ok (.iconst 2, 1) := by decide +kernel
theorem dX6_belongs_48 : decode cX6_belongs 48 = .ok (.if_icmp .ne 14, 3) := by decide +kernel
theorem dX6_belongs_51 : decode cX6_belongs 51 = .ok (.iload_n 3, 1) := by decide +kernel
theorem dX6_belongs_52 : decode cX6_belongs 52 = .ok (.bipush 6, 2) := by decide +kernel
theorem dX6_belongs_54 : decode cX6_belongs 54 = .ok (.bipush 15, 2) := by decide +kernel
theorem dX6_belongs_56 : decode cX6_belongs 56 = .ok (.invokestatic 111, 3) := by decide +kernel
theorem dX6_belongs_59 : decode cX6_belongs 59 = .ok (.goto 31, 3) := by decide +kernel
theorem dX6_belongs_62 : decode cX6_belongs 62 = .ok (.iload 4, 2) := by decide +kernel
theorem dX6_belongs_64 : decode cX6_belongs 64 = .ok (.iconst 3, 1) := by decide +kernel
theorem dX6_belongs_65 : decode cX6_belongs 65 = .ok (.if_icmp .ne 20, 3) := by decide +kernel
theorem dX6_belongs_68 : decode cX6_belongs 68 = .ok (.aload_n 0, 1) := by decide +kernel
theorem dX6_belongs_69 : decode cX6_belongs 69 = .ok (.getfield 56, 3) := by decide +kernel
theorem dX6_belongs_72 : decode cX6_belongs 72 = .ok (.iload_n 2, 1) := by decide +kernel
theorem dX6_belongs_73 : decode cX6_belongs 73 = .ok (.iaload, 1) := by decide +kernel
theorem dX6_belongs_74 : decode cX6_belongs 74 = .ok (.iconst 4, 1) := by decide +kernel
theorem dX6_belongs_75 : decode cX6_belongs 75 = .ok (.idiv, 1) := by decide +kernel
theorem dX6_belongs_76 : decode cX6_belongs 76 = .ok (.aload_n 0, 1) := by decide +kernel
theorem dX6_belongs_77 : decode cX6_belongs 77 = .ok (.getfield 87, 3) := by decide +kernel
theorem dX6_belongs_80 : decode cX6_belongs 80 = .ok (.iload_n 1, 1) := by decide +kernel
theorem dX6_belongs_81 : decode cX6_belongs 81 = .ok (.iaload, 1) := by decide +kernel
theorem dX6_belongs_82 : decode cX6_belongs 82 = .ok (.if_icmp .ne 7, 3) := by decide +kernel
theorem dX6_belongs_85 : decode cX6_belongs 85 = .ok (.iconst 1, 1) := by decide +kernel
theorem dX6_belongs_86 : decode cX6_belongs 86 = .ok (.goto 4, 3) := by decide +kernel
theorem dX6_belongs_89 : decode cX6_belongs 89 = .ok (.iconst 0, 1) := by decide +kernel
theorem dX6_belongs_90 : decode cX6_belongs 90 = .ok (.ireturn, 1) := by decide +kernel
set_option maxRecDepth 20000 in
theorem ggX6_tidings_X6_belongs : GoodIn wsX6_tidings wsX6_belongs := goodIn_r _ [7, 8, 9, 2, 10, 11, 12, 13, 6, 14, 15, 16, 17, 18, 19, 20, 21, 22, 23, 24, 25, 26, 27, 28, 29, 30, 31, 32, 33, 34, 35, 36, 37, 38, 39, 40, 41, 42, 43, 44, 45, 46, 47, 48, 49, 50, 51, 52, 53, 54, 55, 56, 57] (by decide +kernel) (by decide +kernel)
set_option maxRecDepth 20000 in
theorem gX6_tidings_X6_belongs : GoodIn wsX6_tidings (wsV RX6 195 RX6 yX6_belongs wsX6_belongs) := goodIn_app (goodIn_of _ (by decide +kernel)) ggX6_tidings_X6_belongs
theorem dX6_tidings_0 : decode cX6_tidings 0 = .ok (.aload_n 0, 1) := by decide +kernel
theorem dX6_tidings_1 : decode cX6_tidings 1 = .ok (.getfield 90, 3) := by decide +kernel
theorem dX6_tidings_4 : decode cX6_tidings 4 = .ok (.bipush 24, 2) := by decide +kernel
theorem dX6_tidings_6 : decode cX6_tidings 6 = .ok (.iload_n 1, 1) := by decide +kernel
theorem dX6_tidings_7 : decode cX6_tidings 7 = .ok (.imul, 1) := by decide +kernel
theorem dX6_tidings_8 : decode cX6_tidings 8 = .ok (.iload_n 2, 1) := by decide +kernel
theorem dX6_tidings_9 : decode cX6_tidings 9 = .ok (.iadd, 1) := by decide +kernel
theorem dX6_tidings_10 : decode cX6_tidings 10 = .ok (.iaload, 1) := by decide +kernel
theorem dX6_tidings_11 : decode cX6_tidings 11 = .ok (.istore_n 3, 1) := by decide +kernel
theorem dX6_tidings_12 : decode cX6_tidings 12 = .ok (.aload_n 0, 1) := by decide +kernel
theorem dX6_tidings_13 : decode cX6_tidings 13 = .ok (.iload_n 1, 1) := by decide +kernel
theorem dX6_tidings_14 : decode cX6_tidings 14 = .ok (.iload_n 2, 1) := by decide +kernel
theorem dX6_tidings_15 : decode cX6_tidings 15 = .ok (.invokevirtual 195, 3) := by decide +kernel
theorem dX6_tidings_18 : decode cX6_tidings 18 = .ok (.ifCond .ne 20, 3) := by decide +kernel
theorem dX6_tidings_21 : decode cX6_tidings 21 = .ok (.iload_n 3, 1) := by decide +kernel
theorem dX6_tidings_22 : decode cX6_tidings 22 = .ok (.iconst (-1), 1) := by decide +kernel
theorem dX6_tidings_23 : decode cX6_tidings 23 = .ok (.if_icmp .ne 7, 3) := by decide +kernel
theorem dX6_tidings_26 : decode cX6_tidings 26 = .ok (.iconst 0, 1) := by decide +kernel
theorem dX6_tidings_27 : decode cX6_tidings 27 = .ok (.goto 10, 3) := by decide +kernel
theorem dX6_tidings_30 : decode cX6_tidings 30 = .ok (.sipush 1000, 3) := by decide +kernel
theorem dX6_tidings_33 : decode cX6_tidings 33 = .ok (.iload_n 2, 1) := by decide +kernel
theorem dX6_tidings_34 : decode cX6_tidings 34 = .ok (.imul, 1) := by decide +kernel
theorem dX6_tidings_35 : decode cX6_tidings 35 = .ok (.iconst 2, 1) := by decide +kernel
theorem dX6_tidings_36 : decode cX6_tidings 36 = .ok (.iadd, 1) := by decide +kernel
theorem dX6_tidings_37 : decode cX6_tidings 37 = .ok (.ireturn, 1) := by decide +kernel
theorem dX6_tidings_38 : decode cX6_tidings 38 = .ok (.iload_n 3, 1) := by decide +kernel
theorem dX6_tidings_39 : decode cX6_tidings 39 = .ok (.aload_n 0, 1) := by decide +kernel
theorem dX6_tidings_40 : decode cX6_tidings 40 = .ok (.getfield 56, 3) := by decide +kernel
theorem dX6_tidings_43 : decode cX6_tidings 43 = .ok (.iload_n 2, 1) := by decide +kernel
theorem dX6_tidings_44 : decode cX6_tidings 44 = .ok (.iaload, 1) := by decide +kernel
theorem dX6_tidings_45 : decode cX6_tidings 45 = .ok (.if_icmp .ne 7, 3) := by decide +kernel
theorem dX6_tidings_48 : decode cX6_tidings 48 = .ok (.iconst 0, 1) := by decide +kernel
theorem dX6_tidings_49 : decode cX6_tidings 49 = .ok (.goto 29, 3) := by decide +kernel
theorem dX6_tidings_52 : decode cX6_tidings 52 = .ok (.sipush 1000, 3) := by decide +kernel
theorem dX6_tidings_55 : decode cX6_tidings 55 = .ok (.iload_n 2, 1) := by decide +kernel
theorem dX6_tidings_56 : decode cX6_tidings 56 = .ok (.imul, 1) := by decide +kernel
theorem dX6_tidings_57 : decode cX6_tidings 57 = .ok (.bipush 10, 2) := by decide +kernel
theorem dX6_tidings_59 : decode cX6_tidings 59 = .ok (.aload_n 0, 1) := by decide +kernel
theorem dX6_tidings_60 : decode cX6_tidings 60 = .ok (.getfield 56, 3) := by decide +kernel
theorem dX6_tidings_63 : decode cX6_tidings 63 = .ok (.iload_n 2, 1) := by decide +kernel
theorem dX6_tidings_64 : decode cX6_tidings 64 = .ok (.iaload, 1) := by decide +kernel
theorem dX6_tidings_65 : decode cX6_tidings 65 = .ok (.imul, 1) := by decide +kernel
theorem dX6_tidings_66 : decode cX6_tidings 66 = .ok (.iadd, 1) := by decide +kernel
theorem dX6_tidings_67 : decode cX6_tidings 67 = .ok (.iload_n 3, 1) := by decide +kernel
theorem dX6_tidings_68 : decode cX6_tidings 68 = .ok (.iconst (-1), 1) := by decide +kernel
theorem dX6_tidings_69 : decode cX6_tidings 69 = .ok (.if_icmp .ne 7, 3) := by decide +kernel
theorem dX6_tidings_72 : decode cX6_tidings 72 = .ok (.iconst 1, 1) := by decide +kernel
theorem dX6_tidings_73 : decode cX6_tidings 73 = .ok (.goto 4, 3) := by decide +kernel
theorem dX6_tidings_76 : decode cX6_tidings 76 = .ok (.iconst 3, 1) := by decide +kernel
theorem dX6_tidings_77 : decode cX6_tidings 77 = .ok (.iadd, 1) := by decide +kernel
theorem dX6_tidings_78 : decode cX6_tidings 78 = .ok (.ireturn, 1) := by decide +kernel
set_option maxRecDepth 20000 in
theorem ggX6_send_X6_goThrough : GoodIn wsX6_send wsX6_goThrough := goodIn_r _ [12, 13, 14, 7, 15, 16, 17, 18, 19, 20, 21, 22, 23, 24, 25, 26, 27, 2, 28, 29, 30, 11, 31, 32, 33, 34, 35, 36, 37, 38, 39, 40, 41, 42, 43, 44, 45, 46, 47, 48, 49, 50, 51, 69, 70, 71, 72, 73, 74, 75, 76, 77, 78, 79, 80, 81, 82, 83, 84, 85, 86, 87, 88, 89, 90, 91, 92, 93, 94, 95, 96, 97, 98, 99, 100, 101, 102, 103, 104, 105, 106] (by decide +kernel) (by decide +kernel)
set_option maxRecDepth 20000 in
theorem gX6_send_X6_goThrough : GoodIn wsX6_send (wsV RX6 173 RX6 yX6_goThrough wsX6_goThrough) := goodIn_app (goodIn_of _ (by decide +kernel)) ggX6_send_X6_goThrough
set_option maxRecDepth 20000 in
theorem ggX6_send_X6_tidings : GoodIn wsX6_send wsX6_tidings := goodIn_r _ [55, 6, 7, 56, 57, 58, 11, 59, 1, 60, 61, 62, 63, 64, 65, 14, 18, 66, 67, 68, 69, 70, 71, 72, 73, 74, 75, 76, 77, 78, 79, 80, 81, 82, 83, 84, 85, 86, 87, 88, 89, 90, 91, 92, 93, 94, 95, 96, 97, 98, 99, 100, 101, 102, 103, 104, 105, 106] (by decide +kernel) (by decide +kernel)
set_option maxRecDepth 20000 in
theorem gX6_send_X6_tidings : GoodIn wsX6_send (wsV RX6 198 RX6 yX6_tidings wsX6_tidings) := goodIn_app (goodIn_of _ (by decide +kernel)) ggX6_send_X6_tidings
theorem dX6_send_0 : decode cX6_send 0 = .ok (.aload_n 0, 1) := by decide +kernel
theorem dX6_send_1 : decode cX6_send 1 = .ok (.aload_n 0, 1) := by decide +kernel
theorem dX6_send_2 : decode cX6_send 2 = .ok (.getfield 7, 3) := by decide +kernel
theorem dX6_send_5 : decode cX6_send 5 = .ok (.aload_n 0, 1) := by decide +kernel
theorem dX6_send_6 : decode cX6_send 6 = .ok (.getfield 7, 3) := by decide +kernel
theorem dX6_send_9 : decode cX6_send 9 = .ok (.invokevirtual 173, 3) := by decide +kernel
theorem dX6_send_12 : decode cX6_send 12 = .ok (.iconst 0, 1) := by decide +kernel
theorem dX6_send_13 : decode cX6_send 13 = .ok (.istore_n 3, 1) := by decide +kernel
theorem dX6_send_14 : decode cX6_send 14 = .ok (.iconst 0, 1) := by decide +kernel
theorem dX6_send_15 : decode cX6_send 15 = .ok (.istore 4, 2) := by decide +kernel
theorem dX6_send_17 : decode cX6_send 17 = .ok (.iload 4, 2) := by decide +kernel
theorem dX6_send_19 : decode cX6_send 19 = .ok (.aload_n 0, 1) := by decide +kernel
theorem dX6_send_20 : decode cX6_send 20 = .ok (.getfield 108, 3) := by decide +kernel
theorem dX6_send_23 : decode cX6_send 23 = .ok (.if_icmp .ge 103, 3) := by decide +kernel
theorem dX6_send_26 : decode cX6_send 26 = .ok (.aload_n 0, 1) := by decide +kernel
theorem dX6_send_27 : decode cX6_send 27 = .ok (.iload_n 1, 1) := by decide +kernel
theorem dX6_send_28 : decode cX6_send 28 = .ok (.iload 4, 2) := by decide +kernel
theorem dX6_send_30 : decode cX6_send 30 = .ok (.invokevirtual 198, 3) := by decide +kernel
theorem dX6_send_33 : decode cX6_send 33 = .ok (.istore 5, 2) := by decide +kernel
theorem dX6_send_35 : decode cX6_send 35 = .ok (.iload_n 3, 1) := by decide +kernel
theorem dX6_send_36 : decode cX6_send 36 = .ok (.iload 5, 2) := by decide +kernel
theorem dX6_send_38 : decode cX6_send 38 = .ok (.ifCond .ne 7, 3) := by decide +kernel
theorem dX6_send_41 : decode cX6_send 41 = .ok (.iconst 0, 1) := by decide +kernel
theorem dX6_send_42 : decode cX6_send 42 = .ok (.goto 4, 3) := by decide +kernel
theorem dX6_send_45 : decode cX6_send 45 = .ok (.iconst 1, 1) := by decide +kernel
theorem dX6_send_46 : decode cX6_send 46 = .ok (.iadd, 1) := by decide +kernel
theorem dX6_send_47 : decode cX6_send 47 = .ok (.istore_n 3, 1) := by decide +kernel
theorem dX6_send_48 : decode cX6_send 48 = .ok (.iload 5, 2) := by decide +kernel
theorem dX6_send_50 : decode cX6_send 50 = .ok (.ifCond .eq 70, 3) := by decide +kernel
theorem dX6_send_53 : decode cX6_send 53 = .ok (.iload_n 2, 1) := by decide +kernel
theorem dX6_send_54 : decode cX6_send 54 = .ok (.ifCond .eq 66, 3) := by decide +kernel
theorem dX6_send_57 : decode cX6_send 57 = .ok (.aload_n 0, 1) := by decide +kernel
theorem dX6_send_58 : decode cX6_send 58 = .ok (.getfield 96, 3) := by decide +kernel
theorem dX6_send_61 : decode cX6_send 61 = .ok (.aload_n 0, 1) := by decide +kernel
theorem dX6_send_62 : decode cX6_send 62 = .ok (.getfield 201, 3) := by decide +kernel
theorem dX6_send_65 : decode cX6_send 65 = .ok (.iload 5, 2) := by decide +kernel
theorem dX6_send_67 : decode cX6_send 67 = .ok (.iastore, 1) := by decide +kernel
theorem dX6_send_68 : decode cX6_send 68 = .ok (.aload_n 0, 1) := by decide +kernel
theorem dX6_send_69 : decode cX6_send 69 = .ok (.getfield 93, 3) := by decide +kernel
theorem dX6_send_72 : decode cX6_send 72 = .ok (.aload_n 0, 1) := by decide +kernel
theorem dX6_send_73 : decode cX6_send 73 = .ok (.getfield 201, 3) := by decide +kernel
theorem dX6_send_76 : decode cX6_send 76 = .ok (.iload_n 1, 1) := by decide +kernel
theorem dX6_send_77 : decode cX6_send 77 = .ok (.iastore, 1) := by decide +kernel
theorem dX6_send_78 : decode cX6_send 78 = .ok (.aload_n 0, 1) := by decide +kernel
theorem dX6_send_79 : decode cX6_send 79 = .ok (.dup, 1) := by decide +kernel
theorem dX6_send_80 : decode cX6_send 80 = .ok (.getfield 201, 3) := by decide +kernel
theorem dX6_send_83 : decode cX6_send 83 = .ok (.iconst 1, 1) := by decide +kernel
theorem dX6_send_84 : decode cX6_send 84 = .ok (.iadd, 1) := by decide +kernel
theorem dX6_send_85 : decode cX6_send 85 = .ok (.putfield 201, 3) := by decide +kernel
theorem dX6_send_88 : decode cX6_send 88 = .ok (.aload_n 0, 1) := by decide +kernel
theorem dX6_send_89 : decode cX6_send 89 = .ok (.getfield 90, 3) := by decide +kernel
theorem dX6_send_92 : decode cX6_send 92 = .ok (.bipush 24, 2) := by decide +kernel
theorem dX6_send_94 : decode cX6_send 94 = .ok (.iload_n 1, 1) := by decide +kernel
theorem dX6_send_95 : decode cX6_send 95 = .ok (.imul, 1) := by decide +kernel
theorem dX6_send_96 : decode cX6_send 96 = .ok (.iload 4, 2) := by decide +kernel
theorem dX6_send_98 : decode cX6_send 98 = .ok (.iadd, 1) := by decide +kernel
theorem dX6_send_99 : decode cX6_send 99 = .ok (.iload 5, 2) := by decide +kernel
theorem dX6_send_101 : decode cX6_send 101 = .ok (.bipush 10, 2) := by decide +kernel
theorem dX6_send_103 : decode cX6_send 103 = .ok (.irem, 1) := by decide +kernel
theorem dX6_send_104 : decode cX6_send 104 = .ok (.iconst 2, 1) := by decide +kernel
theorem dX6_send_105 : decode cX6_send 105 = .ok (.if_icmp .ne 7, 3) := by decide +kernel
theorem dX6_send_108 : decode cX6_send 108 = .ok (.iconst (-1), 1) := by decide +kernel
theorem dX6_send_109 : decode cX6_send 109 = .ok (.goto 10, 3) := by decide +kernel
theorem dX6_send_112 : decode cX6_send 112 = .ok (.aload_n 0, 1) := by decide +kernel
theorem dX6_send_113 : decode cX6_send 113 = .ok (.getfield 56, 3) := by decide +kernel
theorem dX6_send_116 : decode cX6_send 116 = .ok (.iload 4, 2) := by decide +kernel
theorem dX6_send_118 : decode cX6_send 118 = .ok (.iaload, 1) := by decide +kernel
theorem dX6_send_119 : decode cX6_send 119 = .ok (.iastore, 1) := by decide +kernel
theorem dX6_send_120 : decode cX6_send 120 = .ok (.iinc 4 1, 3) := by decide +kernel
theorem dX6_send_123 : decode cX6_send 123 = .ok (.goto (-106), 3) := by decide +kernel
theorem dX6_send_126 : decode cX6_send 126 = .ok (.iload_n 3, 1) := by decide +kernel
theorem dX6_send_127 : decode cX6_send 127 = .ok (.ireturn, 1) := by decide +kernel
set_option maxRecDepth 20000 in
theorem ggX6_deliver_X6_isRoll : GoodIn wsX6_deliver wsX6_isRoll := goodIn_r _ [5, 6, 7, 8, 4, 9, 83, 84, 85, 86, 87, 88, 89, 90, 91, 92, 93, 94, 95, 96, 97, 98, 99, 100, 101, 102, 103, 104, 105, 106, 107, 108, 109, 110, 111, 112, 113, 114, 115, 116, 117, 118, 119, 120] (by decide +kernel) (by decide +kernel)
set_option maxRecDepth 20000 in
theorem gX6_deliver_X6_isRoll : GoodIn wsX6_deliver (wsV RX6 204 RX6 yX6_isRoll wsX6_isRoll) := goodIn_app (goodIn_of _ (by decide +kernel)) ggX6_deliver_X6_isRoll
set_option maxRecDepth 20000 in
theorem ggX6_deliver_X6_refused : GoodIn wsX6_deliver wsX6_refused := goodIn_r _ [13, 14, 83, 84, 85, 86, 87, 88, 89, 90, 91, 92, 93, 94, 95, 96, 97, 98, 99, 100, 101, 102, 103, 104, 105, 106, 107, 108, 109, 110, 111, 112, 113, 114, 115, 116, 117, 118, 119, 120] (by decide +kernel) (by decide +kernel)
set_option maxRecDepth 20000 in
theorem gX6_deliver_X6_refused : GoodIn wsX6_deliver (wsV RX6 115 RX6 yX6_refused wsX6_refused) := goodIn_app (goodIn_of _ (by decide +kernel)) ggX6_deliver_X6_refused
set_option maxRecDepth 20000 in
theorem ggX6_deliver_X6_send : GoodIn wsX6_deliver wsX6_send := goodIn_r _ [18, 19, 20, 21, 22, 23, 24, 25, 26, 27, 28, 4, 29, 30, 31, 32, 33, 34, 35, 36, 37, 38, 39, 40, 41, 42, 43, 44, 45, 46, 47, 48, 49, 50, 51, 52, 53, 54, 55, 56, 57, 58, 59, 60, 61, 62, 63, 64, 65, 66, 67, 68, 69, 70, 71, 72, 73, 74, 75, 76, 77, 78, 79, 80, 81, 82, 7, 8, 9, 83, 84, 85, 86, 87, 88, 89, 90, 91, 92, 93, 94, 95, 96, 97, 98, 99, 100, 101, 102, 103, 104, 105, 106, 107, 108, 109, 110, 111, 112, 113, 114, 115, 116, 117, 118, 119, 120] (by decide +kernel) (by decide +kernel)
set_option maxRecDepth 20000 in
theorem gX6_deliver_X6_send : GoodIn wsX6_deliver (wsV RX6 207 RX6 yX6_send wsX6_send) := goodIn_app (goodIn_of _ (by decide +kernel)) ggX6_deliver_X6_send
theorem dX6_deliver_0 : decode cX6_deliver 0 = .ok (.aload_n 0, 1) := by decide +kernel
theorem dX6_deliver_1 : decode cX6_deliver 1 = .ok (.aload_n 0, 1) := by decide +kernel
theorem dX6_deliver_2 : decode cX6_deliver 2 = .ok (.iload_n 1, 1) := by decide +kernel
theorem dX6_deliver_3 : decode cX6_deliver 3 = .ok (.invokevirtual 204, 3) := by decide +kernel
theorem dX6_deliver_6 : decode cX6_deliver 6 = .ok (.ifCond .eq 7, 3) := by decide +kernel
theorem dX6_deliver_9 : decode cX6_deliver 9 = .ok (.iconst 0, 1) := by decide +kernel
theorem dX6_deliver_10 : decode cX6_deliver 10 = .ok (.goto 4, 3) := by decide +kernel
theorem dX6_deliver_13 : decode cX6_deliver 13 = .ok (.iconst 1, 1) := by decide +kernel
theorem dX6_deliver_14 : decode cX6_deliver 14 = .ok (.invokevirtual 115, 3) := by decide +kernel
theorem dX6_deliver_17 : decode cX6_deliver 17 = .ok (.ifCond .eq 7, 3) := by decide +kernel
theorem dX6_deliver_20 : decode cX6_deliver 20 = .ok (.iconst 0, 1) := by decide +kernel
theorem dX6_deliver_21 : decode cX6_deliver 21 = .ok (.goto 9, 3) := by decide +kernel
theorem dX6_deliver_24 : decode cX6_deliver 24 = .ok (.aload_n 0, 1) := by decide +kernel
theorem dX6_deliver_25 : decode cX6_deliver 25 = .ok (.iload_n 1, 1) := by decide +kernel
theorem dX6_deliver_26 : decode cX6_deliver 26 = .ok (.iconst 1, 1) := by decide +kernel
theorem dX6_deliver_27 : decode cX6_deliver 27 = .ok (.invokevirtual 207, 3) := by decide +kernel
theorem dX6_deliver_30 : decode cX6_deliver 30 = .ok (.ireturn, 1) := by decide +kernel
set_option maxRecDepth 20000 in
theorem ggX6_owes_X6_isRoll : GoodIn wsX6_owes wsX6_isRoll := goodIn_r _ [5, 6, 7, 8, 4, 9, 83, 84, 85, 86, 87, 88, 89, 90, 91, 92, 93, 94, 95, 96, 97, 98, 99, 100, 101, 102, 103, 104, 105, 106, 107, 108, 109, 110, 111, 112, 113, 114, 115, 116, 117, 118, 119, 120] (by decide +kernel) (by decide +kernel)
set_option maxRecDepth 20000 in
theorem gX6_owes_X6_isRoll : GoodIn wsX6_owes (wsV RX6 204 RX6 yX6_isRoll wsX6_isRoll) := goodIn_app (goodIn_of _ (by decide +kernel)) ggX6_owes_X6_isRoll
set_option maxRecDepth 20000 in
theorem ggX6_owes_X6_refused : GoodIn wsX6_owes wsX6_refused := goodIn_r _ [13, 14, 83, 84, 85, 86, 87, 88, 89, 90, 91, 92, 93, 94, 95, 96, 97, 98, 99, 100, 101, 102, 103, 104, 105, 106, 107, 108, 109, 110, 111, 112, 113, 114, 115, 116, 117, 118, 119, 120] (by decide +kernel) (by decide +kernel)
set_option maxRecDepth 20000 in
theorem gX6_owes_X6_refused : GoodIn wsX6_owes (wsV RX6 115 RX6 yX6_refused wsX6_refused) := goodIn_app (goodIn_of _ (by decide +kernel)) ggX6_owes_X6_refused
set_option maxRecDepth 20000 in
theorem ggX6_owes_X6_send : GoodIn wsX6_owes wsX6_send := goodIn_r _ [18, 19, 20, 21, 22, 23, 24, 25, 26, 27, 28, 4, 29, 30, 31, 32, 33, 34, 35, 36, 37, 38, 39, 40, 41, 42, 43, 44, 45, 46, 47, 48, 49, 50, 51, 52, 53, 54, 55, 56, 57, 58, 59, 60, 61, 62, 63, 64, 65, 66, 67, 68, 69, 70, 71, 72, 73, 74, 75, 76, 77, 78, 79, 80, 81, 82, 7, 8, 9, 83, 84, 85, 86, 87, 88, 89, 90, 91, 92, 93, 94, 95, 96, 97, 98, 99, 100, 101, 102, 103, 104, 105, 106, 107, 108, 109, 110, 111, 112, 113, 114, 115, 116, 117, 118, 119, 120] (by decide +kernel) (by decide +kernel)
set_option maxRecDepth 20000 in
theorem gX6_owes_X6_send : GoodIn wsX6_owes (wsV RX6 207 RX6 yX6_send wsX6_send) := goodIn_app (goodIn_of _ (by decide +kernel)) ggX6_owes_X6_send
theorem dX6_owes_0 : decode cX6_owes 0 = .ok (.aload_n 0, 1) := by decide +kernel
theorem dX6_owes_1 : decode cX6_owes 1 = .ok (.aload_n 0, 1) := by decide +kernel
theorem dX6_owes_2 : decode cX6_owes 2 = .ok (.iload_n 1, 1) := by decide +kernel
theorem dX6_owes_3 : decode cX6_owes 3 = .ok (.invokevirtual 204, 3) := by decide +kernel
theorem dX6_owes_6 : decode cX6_owes 6 = .ok (.ifCond .eq 7, 3) := by decide +kernel
theorem dX6_owes_9 : decode cX6_owes 9 = .ok (.iconst 0, 1) := by decide +kernel
theorem dX6_owes_10 : decode cX6_owes 10 = .ok (.goto 4, 3) := by decide +kernel
theorem dX6_owes_13 : decode cX6_owes 13 = .ok (.iconst 1, 1) := by decide +kernel
theorem dX6_owes_14 : decode cX6_owes 14 = .ok (.invokevirtual 115, 3) := by decide +kernel
theorem dX6_owes_17 : decode cX6_owes 17 = .ok (.ifCond .eq 7, 3) := by decide +kernel
theorem dX6_owes_20 : decode cX6_owes 20 = .ok (.iconst 0, 1) := by decide +kernel
theorem dX6_owes_21 : decode cX6_owes 21 = .ok (.goto 9, 3) := by decide +kernel
theorem dX6_owes_24 : decode cX6_owes 24 = .ok (.aload_n 0, 1) := by decide +kernel
theorem dX6_owes_25 : decode cX6_owes 25 = .ok (.iload_n 1, 1) := by decide +kernel
theorem dX6_owes_26 : decode cX6_owes 26 = .ok (.iconst 0, 1) := by decide +kernel
theorem dX6_owes_27 : decode cX6_owes 27 = .ok (.invokevirtual 207, 3) := by decide +kernel
theorem dX6_owes_30 : decode cX6_owes 30 = .ok (.ireturn, 1) := by decide +kernel
set_option maxRecDepth 20000 in
theorem ggX6_message_X6_isRoll : GoodIn wsX6_message wsX6_isRoll := goodIn_r _ [8, 9, 10, 11, 7, 12, 18, 19, 20, 21, 22, 23, 24, 25, 26, 27, 28, 29, 30, 31, 32, 33, 34, 35, 36, 37, 38, 39, 40, 41, 42, 43, 44, 45, 46, 47, 48, 49, 50, 51, 52, 53, 54, 55] (by decide +kernel) (by decide +kernel)
set_option maxRecDepth 20000 in
theorem gX6_message_X6_isRoll : GoodIn wsX6_message (wsV RX6 204 RX6 yX6_isRoll wsX6_isRoll) := goodIn_app (goodIn_of _ (by decide +kernel)) ggX6_message_X6_isRoll
set_option maxRecDepth 20000 in
theorem ggX6_message_X6_refused : GoodIn wsX6_message wsX6_refused := goodIn_r _ [16, 17, 18, 19, 20, 21, 22, 23, 24, 25, 26, 27, 28, 29, 30, 31, 32, 33, 34, 35, 36, 37, 38, 39, 40, 41, 42, 43, 44, 45, 46, 47, 48, 49, 50, 51, 52, 53, 54, 55] (by decide +kernel) (by decide +kernel)
set_option maxRecDepth 20000 in
theorem gX6_message_X6_refused : GoodIn wsX6_message (wsV RX6 115 RX6 yX6_refused wsX6_refused) := goodIn_app (goodIn_of _ (by decide +kernel)) ggX6_message_X6_refused
theorem dX6_message_0 : decode cX6_message 0 = .ok (.iload_n 2, 1) := by decide +kernel
theorem dX6_message_1 : decode cX6_message 1 = .ok (.istore_n 3, 1) := by decide +kernel
theorem dX6_message_2 : decode cX6_message 2 = .ok (.iconst (-1), 1) := by decide +kernel
theorem dX6_message_3 : decode cX6_message 3 = .ok (.istore 4, 2) := by decide +kernel
theorem dX6_message_5 : decode cX6_message 5 = .ok (.iconst 0, 1) := by decide +kernel
theorem dX6_message_6 : decode cX6_message 6 = .ok (.istore 5, 2) := by decide +kernel
theorem dX6_message_8 : decode cX6_message 8 = .ok (.iload 5, 2) := by decide +kernel
theorem dX6_message_10 : decode cX6_message 10 = .ok (.aload_n 0, 1) := by decide +kernel
theorem dX6_message_11 : decode cX6_message 11 = .ok (.getfield 201, 3) := by decide +kernel
theorem dX6_message_14 : decode cX6_message 14 = .ok (.if_icmp .ge 75, 3) := by decide +kernel
theorem dX6_message_17 : decode cX6_message 17 = .ok (.aload_n 0, 1) := by decide +kernel
theorem dX6_message_18 : decode cX6_message 18 = .ok (.iload_n 1, 1) := by decide +kernel
theorem dX6_message_19 : decode cX6_message 19 = .ok (.invokevirtual 204, 3) := by decide +kernel
theorem dX6_message_22 : decode cX6_message 22 = .ok (.ifCond .eq 67, 3) := by decide +kernel
theorem dX6_message_25 : decode cX6_message 25 = .ok (.iload_n 2, 1) := by decide +kernel
theorem dX6_message_26 : decode cX6_message 26 = .ok (.ifCond .lt 63, 3) := by decide +kernel
theorem dX6_message_29 : decode cX6_message 29 = .ok (.iload 4, 2) := by decide +kernel
theorem dX6_message_31 : decode cX6_message 31 = .ok (.iconst (-1), 1) := by decide +kernel
theorem dX6_message_32 : decode cX6_message 32 = .ok (.if_icmp .ne 57, 3) := by decide +kernel
theorem dX6_message_35 : decode cX6_message 35 = .ok (.aload_n 0, 1) := by decide +kernel
theorem dX6_message_36 : decode cX6_message 36 = .ok (.getfield 93, 3) := by decide +kernel
theorem dX6_message_39 : decode cX6_message 39 = .ok (.iload 5, 2) := by decide +kernel
theorem dX6_message_41 : decode cX6_message 41 = .ok (.iaload, 1) := by decide +kernel
theorem dX6_message_42 : decode cX6_message 42 = .ok (.iload_n 1, 1) := by decide +kernel
theorem dX6_message_43 : decode cX6_message 43 = .ok (.if_icmp .ne 7, 3) := by decide +kernel
theorem dX6_message_46 : decode cX6_message 46 = .ok (.iconst 1, 1) := by decide +kernel
theorem dX6_message_47 : decode cX6_message 47 = .ok (.goto 4, 3) := by decide +kernel
theorem dX6_message_50 : decode cX6_message 50 = .ok (.iconst 0, 1) := by decide +kernel
theorem dX6_message_51 : decode cX6_message 51 = .ok (.istore 6, 2) := by decide +kernel
theorem dX6_message_53 : decode cX6_message 53 = .ok (.iload 6, 2) := by decide +kernel
theorem dX6_message_55 : decode cX6_message 55 = .ok (.ifCond .eq 12, 3) := by decide +kernel
theorem dX6_message_58 : decode cX6_message 58 = .ok (.iload_n 3, 1) := by decide +kernel
theorem dX6_message_59 : decode cX6_message 59 = .ok (.ifCond .ne 8, 3) := by decide +kernel
theorem dX6_message_62 : decode cX6_message 62 = .ok (.iload 5, 2) := by decide +kernel
theorem dX6_message_64 : decode cX6_message 64 = .ok (.goto 4, 3) := by decide +kernel
theorem dX6_message_67 : decode cX6_message 67 = .ok (.iconst (-1), 1) := by decide +kernel
theorem dX6_message_68 : decode cX6_message 68 = .ok (.istore 4, 2) := by decide +kernel
theorem dX6_message_70 : decode cX6_message 70 = .ok (.iload_n 3, 1) := by decide +kernel
theorem dX6_message_71 : decode cX6_message 71 = .ok (.iload 6, 2) := by decide +kernel
theorem dX6_message_73 : decode cX6_message 73 = .ok (.ifCond .eq 7, 3) := by decide +kernel
theorem dX6_message_76 : decode cX6_message 76 = .ok (.iconst 1, 1) := by decide +kernel
theorem dX6_message_77 : decode cX6_message 77 = .ok (.goto 4, 3) := by decide +kernel
theorem dX6_message_80 : decode cX6_message 80 = .ok (.iconst 0, 1) := by decide +kernel
theorem dX6_message_81 : decode cX6_message 81 = .ok (.isub, 1) := by decide +kernel
theorem dX6_message_82 : decode cX6_message 82 = .ok (.istore_n 3, 1) := by decide +kernel
theorem dX6_message_83 : decode cX6_message 83 = .ok (.iinc 5 1, 3) := by decide +kernel
theorem dX6_message_86 : decode cX6_message 86 = .ok (.goto (-78), 3) := by decide +kernel
theorem dX6_message_89 : decode cX6_message 89 = .ok (.aload_n 0, 1) := by decide +kernel
theorem dX6_message_90 : decode cX6_message 90 = .ok (.iload 4, 2) := by decide +kernel
theorem dX6_message_92 : decode cX6_message 92 = .ok (.iconst (-1), 1) := by decide +kernel
theorem dX6_message_93 : decode cX6_message 93 = .ok (.if_icmp .ne 7, 3) := by decide +kernel
theorem dX6_message_96 : decode cX6_message 96 = .ok (.iconst 1, 1) := by decide +kernel
theorem dX6_message_97 : decode cX6_message 97 = .ok (.goto 4, 3) := by decide +kernel
theorem dX6_message_100 : decode cX6_message 100 = .ok (.iconst 0, 1) := by decide +kernel
theorem dX6_message_101 : decode cX6_message 101 = .ok (.invokevirtual 115, 3) := by decide +kernel
theorem dX6_message_104 : decode cX6_message 104 = .ok (.ifCond .eq 7, 3) := by decide +kernel
theorem dX6_message_107 : decode cX6_message 107 = .ok (.iconst 0, 1) := by decide +kernel
theorem dX6_message_108 : decode cX6_message 108 = .ok (.goto 10, 3) := by decide +kernel
theorem dX6_message_111 : decode cX6_message 111 = .ok (.aload_n 0, 1) := by decide +kernel
theorem dX6_message_112 : decode cX6_message 112 = .ok (.getfield 96, 3) := by decide +kernel
theorem dX6_message_115 : decode cX6_message 115 = .ok (.iload 4, 2) := by decide +kernel
theorem dX6_message_117 : decode cX6_message 117 = .ok (.iaload, 1) := by decide +kernel
theorem dX6_message_118 : decode cX6_message 118 = .ok (.ireturn, 1) := by decide +kernel
set_option maxRecDepth 20000 in
theorem ggX6_holds_X6_isRoll : GoodIn wsX6_holds wsX6_isRoll := goodIn_r _ [6, 7, 8, 9, 5, 10, 21, 22, 23, 24, 25, 26, 27, 28, 29, 30, 31, 32, 33, 34, 35, 36, 37, 38, 39, 40, 41, 42, 43, 44, 45, 46, 47, 48, 49, 50, 51, 52, 53, 54, 55, 56, 57, 58] (by decide +kernel) (by decide +kernel)
set_option maxRecDepth 20000 in
theorem gX6_holds_X6_isRoll : GoodIn wsX6_holds (wsV RX6 204 RX6 yX6_isRoll wsX6_isRoll) := goodIn_app (goodIn_of _ (by decide +kernel)) ggX6_holds_X6_isRoll
set_option maxRecDepth 20000 in
theorem ggX6_holds_X6_isPerson : GoodIn wsX6_holds wsX6_isPerson := goodIn_r _ [14, 15, 8, 9, 5, 10, 21, 22, 23, 24, 25, 26, 27, 28, 29, 30, 31, 32, 33, 34, 35, 36, 37, 38, 39, 40, 41, 42, 43, 44, 45, 46, 47, 48, 49, 50, 51, 52, 53, 54, 55, 56, 57, 58] (by decide +kernel) (by decide +kernel)
set_option maxRecDepth 20000 in
theorem gX6_holds_X6_isPerson : GoodIn wsX6_holds (wsV RX6 132 RX6 yX6_isPerson wsX6_isPerson) := goodIn_app (goodIn_of _ (by decide +kernel)) ggX6_holds_X6_isPerson
set_option maxRecDepth 20000 in
theorem ggX6_holds_X6_refused : GoodIn wsX6_holds wsX6_refused := goodIn_r _ [19, 20, 21, 22, 23, 24, 25, 26, 27, 28, 29, 30, 31, 32, 33, 34, 35, 36, 37, 38, 39, 40, 41, 42, 43, 44, 45, 46, 47, 48, 49, 50, 51, 52, 53, 54, 55, 56, 57, 58] (by decide +kernel) (by decide +kernel)
set_option maxRecDepth 20000 in
theorem gX6_holds_X6_refused : GoodIn wsX6_holds (wsV RX6 115 RX6 yX6_refused wsX6_refused) := goodIn_app (goodIn_of _ (by decide +kernel)) ggX6_holds_X6_refused
theorem dX6_holds_0 : decode cX6_holds 0 = .ok (.aload_n 0, 1) := by decide +kernel
theorem dX6_holds_1 : decode cX6_holds 1 = .ok (.iload_n 1, 1) := by decide +kernel
theorem dX6_holds_2 : decode cX6_holds 2 = .ok (.invokevirtual 204, 3) := by decide +kernel
theorem dX6_holds_5 : decode cX6_holds 5 = .ok (.ifCond .eq 15, 3) := by decide +kernel
theorem dX6_holds_8 : decode cX6_holds 8 = .ok (.aload_n 0, 1) := by decide +kernel
theorem dX6_holds_9 : decode cX6_holds 9 = .ok (.iload_n 2, 1) := by decide +kernel
theorem dX6_holds_10 : decode cX6_holds 10 = .ok (.invokevirtual 132, 3) := by decide +kernel
theorem dX6_holds_13 : decode cX6_holds 13 = .ok (.ifCond .eq 7, 3) := by decide +kernel
theorem dX6_holds_16 : decode cX6_holds 16 = .ok (.iconst 1, 1) := by decide +kernel
theorem dX6_holds_17 : decode cX6_holds 17 = .ok (.goto 4, 3) := by decide +kernel
theorem dX6_holds_20 : decode cX6_holds 20 = .ok (.iconst 0, 1) := by decide +kernel
theorem dX6_holds_21 : decode cX6_holds 21 = .ok (.istore_n 3, 1) := by decide +kernel
theorem dX6_holds_22 : decode cX6_holds 22 = .ok (.aload_n 0, 1) := by decide +kernel
theorem dX6_holds_23 : decode cX6_holds 23 = .ok (.iload_n 3, 1) := by decide +kernel
theorem dX6_holds_24 : decode cX6_holds 24 = .ok (.ifCond .eq 7, 3) := by decide +kernel
theorem dX6_holds_27 : decode cX6_holds 27 = .ok (.iconst 0, 1) := by decide +kernel
theorem dX6_holds_28 : decode cX6_holds 28 = .ok (.goto 4, 3) := by decide +kernel
theorem dX6_holds_31 : decode cX6_holds 31 = .ok (.iconst 1, 1) := by decide +kernel
theorem dX6_holds_32 : decode cX6_holds 32 = .ok (.invokevirtual 115, 3) := by decide +kernel
theorem dX6_holds_35 : decode cX6_holds 35 = .ok (.ifCond .eq 7, 3) := by decide +kernel
theorem dX6_holds_38 : decode cX6_holds 38 = .ok (.iconst 0, 1) := by decide +kernel
theorem dX6_holds_39 : decode cX6_holds 39 = .ok (.goto 14, 3) := by decide +kernel
theorem dX6_holds_42 : decode cX6_holds 42 = .ok (.aload_n 0, 1) := by decide +kernel
theorem dX6_holds_43 : decode cX6_holds 43 = .ok (.getfield 90, 3) := by decide +kernel
theorem dX6_holds_46 : decode cX6_holds 46 = .ok (.bipush 24, 2) := by decide +kernel
theorem dX6_holds_48 : decode cX6_holds 48 = .ok (.iload_n 1, 1) := by decide +kernel
theorem dX6_holds_49 : decode cX6_holds 49 = .ok (.imul, 1) := by decide +kernel
theorem dX6_holds_50 : decode cX6_holds 50 = .ok (.iload_n 2, 1) := by decide +kernel
theorem dX6_holds_51 : decode cX6_holds 51 = .ok (.iadd, 1) := by decide +kernel
theorem dX6_holds_52 : decode cX6_holds 52 = .ok (.iaload, 1) := by decide +kernel
theorem dX6_holds_53 : decode cX6_holds 53 = .ok (.ireturn, 1) := by decide +kernel
set_option maxRecDepth 20000 in
theorem ggX6_holdsAnew_X6_holds : GoodIn wsX6_holdsAnew wsX6_holds := goodIn_r _ [5, 6, 7, 8, 9, 4, 10, 11, 12, 13, 14, 15, 16, 17, 18, 19, 20, 21, 22, 23, 24, 25, 26, 27, 28, 29, 30, 31, 32, 33, 34, 35, 36, 37, 38, 39, 40, 41, 42, 43, 44, 45, 46, 47, 48, 49, 50, 51, 52, 53, 54, 55, 56, 57, 58, 59, 60, 61, 62] (by decide +kernel) (by decide +kernel)
set_option maxRecDepth 20000 in
theorem gX6_holdsAnew_X6_holds : GoodIn wsX6_holdsAnew (wsV RX6 211 RX6 yX6_holds wsX6_holds) := goodIn_app (goodIn_of _ (by decide +kernel)) ggX6_holdsAnew_X6_holds
theorem dX6_holdsAnew_0 : decode cX6_holdsAnew 0 = .ok (.aload_n 0, 1) := by decide +kernel
theorem dX6_holdsAnew_1 : decode cX6_holdsAnew 1 = .ok (.iload_n 1, 1) := by decide +kernel
theorem dX6_holdsAnew_2 : decode cX6_holdsAnew 2 = .ok (.iload_n 2, 1) := by decide +kernel
theorem dX6_holdsAnew_3 : decode cX6_holdsAnew 3 = .ok (.invokevirtual 211, 3) := by decide +kernel
theorem dX6_holdsAnew_6 : decode cX6_holdsAnew 6 = .ok (.ireturn, 1) := by decide +kernel
set_option maxRecDepth 20000 in
theorem ggX6_bar_X6_isPerson : GoodIn wsX6_bar wsX6_isPerson := goodIn_r _ [6, 7, 8, 9, 5, 10, 16, 17, 18, 19, 20, 21, 22, 23, 24, 25, 26, 27, 28, 29, 30, 31, 32, 33, 34, 35, 36, 37, 38, 39, 40, 41, 42, 43, 44, 45, 46, 47, 48, 49, 50, 51, 52, 53] (by decide +kernel) (by decide +kernel)
set_option maxRecDepth 20000 in
theorem gX6_bar_X6_isPerson : GoodIn wsX6_bar (wsV RX6 132 RX6 yX6_isPerson wsX6_isPerson) := goodIn_app (goodIn_of _ (by decide +kernel)) ggX6_bar_X6_isPerson
set_option maxRecDepth 20000 in
theorem ggX6_bar_X6_refused : GoodIn wsX6_bar wsX6_refused := goodIn_r _ [14, 15, 16, 17, 18, 19, 20, 21, 22, 23, 24, 25, 26, 27, 28, 29, 30, 31, 32, 33, 34, 35, 36, 37, 38, 39, 40, 41, 42, 43, 44, 45, 46, 47, 48, 49, 50, 51, 52, 53] (by decide +kernel) (by decide +kernel)
set_option maxRecDepth 20000 in
theorem gX6_bar_X6_refused : GoodIn wsX6_bar (wsV RX6 115 RX6 yX6_refused wsX6_refused) := goodIn_app (goodIn_of _ (by decide +kernel)) ggX6_bar_X6_refused
theorem dX6_bar_0 : decode cX6_bar 0 = .ok (.aload_n 0, 1) := by decide +kernel
theorem dX6_bar_1 : decode cX6_bar 1 = .ok (.aload_n 0, 1) := by decide +kernel
theorem dX6_bar_2 : decode cX6_bar 2 = .ok (.iload_n 1, 1) := by decide +kernel
theorem dX6_bar_3 : decode cX6_bar 3 = .ok (.invokevirtual 132, 3) := by decide +kernel
theorem dX6_bar_6 : decode cX6_bar 6 = .ok (.ifCond .eq 7, 3) := by decide +kernel
theorem dX6_bar_9 : decode cX6_bar 9 = .ok (.iconst 0, 1) := by decide +kernel
theorem dX6_bar_10 : decode cX6_bar 10 = .ok (.goto 4, 3) := by decide +kernel
theorem dX6_bar_13 : decode cX6_bar 13 = .ok (.iconst 1, 1) := by decide +kernel
theorem dX6_bar_14 : decode cX6_bar 14 = .ok (.invokevirtual 115, 3) := by decide +kernel
theorem dX6_bar_17 : decode cX6_bar 17 = .ok (.ifCond .eq 5, 3) := by decide +kernel
theorem dX6_bar_20 : decode cX6_bar 20 = .ok (.iconst 0, 1) := by decide +kernel
theorem dX6_bar_21 : decode cX6_bar 21 = .ok (.ireturn, 1) := by decide +kernel
theorem dX6_bar_22 : decode cX6_bar 22 = .ok (.aload_n 0, 1) := by decide +kernel
theorem dX6_bar_23 : decode cX6_bar 23 = .ok (.getfield 99, 3) := by decide +kernel
theorem dX6_bar_26 : decode cX6_bar 26 = .ok (.iload_n 1, 1) := by decide +kernel
theorem dX6_bar_27 : decode cX6_bar 27 = .ok (.baload, 1) := by decide +kernel
theorem dX6_bar_28 : decode cX6_bar 28 = .ok (.istore_n 3, 1) := by decide +kernel
theorem dX6_bar_29 : decode cX6_bar 29 = .ok (.aload_n 0, 1) := by decide +kernel
theorem dX6_bar_30 : decode cX6_bar 30 = .ok (.getfield 99, 3) := by decide +kernel
theorem dX6_bar_33 : decode cX6_bar 33 = .ok (.iload_n 1, 1) := by decide +kernel
theorem dX6_bar_34 : decode cX6_bar 34 = .ok (.iload_n 2, 1) := by decide +kernel
theorem dX6_bar_35 : decode cX6_bar 35 = .ok (.bastore, 1) := by decide +kernel
theorem dX6_bar_36 : decode cX6_bar 36 = .ok (.iload_n 3, 1) := by decide +kernel
theorem dX6_bar_37 : decode cX6_bar 37 = .ok (.ireturn, 1) := by decide +kernel
set_option maxRecDepth 20000 in
theorem ggX6_look_X6_isPerson : GoodIn wsX6_look wsX6_isPerson := goodIn_r _ [9, 10, 11, 12, 8, 13, 62, 63, 64, 65, 66, 67, 68, 69, 70, 71, 72, 73, 74, 75, 76, 77, 78, 79, 80, 81, 82, 83, 84, 85, 86, 87, 88, 89, 90, 91, 92, 93, 94, 95, 96, 97, 98, 99] (by decide +kernel) (by decide +kernel)
set_option maxRecDepth 20000 in
theorem gX6_look_X6_isPerson : GoodIn wsX6_look (wsV RX6 132 RX6 yX6_isPerson wsX6_isPerson) := goodIn_app (goodIn_of _ (by decide +kernel)) ggX6_look_X6_isPerson
set_option maxRecDepth 20000 in
theorem ggX6_look_X6_within : GoodIn wsX6_look wsX6_within := goodIn_r _ [13] (by decide +kernel) (by decide +kernel)
set_option maxRecDepth 20000 in
theorem gX6_look_X6_within : GoodIn wsX6_look (va_wsS RX6 111 yX6_within wsX6_within) := goodIn_app (goodIn_of _ (by decide +kernel)) ggX6_look_X6_within
set_option maxRecDepth 20000 in
theorem ggX6_look_X6_refused : GoodIn wsX6_look wsX6_refused := goodIn_r _ [17, 18, 62, 63, 64, 65, 66, 67, 68, 69, 70, 71, 72, 73, 74, 75, 76, 77, 78, 79, 80, 81, 82, 83, 84, 85, 86, 87, 88, 89, 90, 91, 92, 93, 94, 95, 96, 97, 98, 99] (by decide +kernel) (by decide +kernel)
set_option maxRecDepth 20000 in
theorem gX6_look_X6_refused : GoodIn wsX6_look (wsV RX6 115 RX6 yX6_refused wsX6_refused) := goodIn_app (goodIn_of _ (by decide +kernel)) ggX6_look_X6_refused
set_option maxRecDepth 20000 in
theorem ggX6_look_X6_goThrough : GoodIn wsX6_look wsX6_goThrough := goodIn_r _ [22, 23, 24, 4, 25, 26, 27, 28, 29, 30, 31, 32, 33, 34, 35, 36, 37, 10, 38, 39, 40, 8, 41, 42, 43, 44, 45, 46, 47, 48, 49, 50, 51, 52, 53, 54, 55, 56, 57, 58, 59, 60, 61, 62, 63, 64, 65, 66, 67, 68, 69, 70, 71, 72, 73, 74, 75, 76, 77, 78, 79, 80, 81, 82, 83, 84, 85, 86, 87, 88, 89, 90, 91, 92, 93, 94, 95, 96, 97, 98, 99] (by decide +kernel) (by decide +kernel)
set_option maxRecDepth 20000 in
theorem gX6_look_X6_goThrough : GoodIn wsX6_look (wsV RX6 173 RX6 yX6_goThrough wsX6_goThrough) := goodIn_app (goodIn_of _ (by decide +kernel)) ggX6_look_X6_goThrough
theorem dX6_look_0 : decode cX6_look 0 = .ok (.aload_n 0, 1) := by decide +kernel
theorem dX6_look_1 : decode cX6_look 1 = .ok (.aload_n 0, 1) := by decide +kernel
theorem dX6_look_2 : decode cX6_look 2 = .ok (.iload_n 2, 1) := by decide +kernel
theorem dX6_look_3 : decode cX6_look 3 = .ok (.invokevirtual 132, 3) := by decide +kernel
theorem dX6_look_6 : decode cX6_look 6 = .ok (.ifCond .ne 7, 3) := by decide +kernel
theorem dX6_look_9 : decode cX6_look 9 = .ok (.iconst 1, 1) := by decide +kernel
theorem dX6_look_10 : decode cX6_look 10 = .ok (.goto 17, 3) := by decide +kernel
theorem dX6_look_13 : decode cX6_look 13 = .ok (.iload_n 1, 1) := by decide +kernel
theorem dX6_look_14 : decode cX6_look 14 = .ok (.iconst 0, 1) := by decide +kernel
theorem dX6_look_15 : decode cX6_look 15 = .ok (.iconst 3, 1) := by decide +kernel
theorem dX6_look_16 : decode cX6_look 16 = .ok (.invokestatic 111, 3) := by decide +kernel
theorem dX6_look_19 : decode cX6_look 19 = .ok (.ifCond .ne 7, 3) := by decide +kernel
theorem dX6_look_22 : decode cX6_look 22 = .ok (.iconst 2, 1) := by decide +kernel
theorem dX6_look_23 : decode cX6_look 23 = .ok (.goto 4, 3) := by decide +kernel
theorem dX6_look_26 : decode cX6_look 26 = .ok (.iconst 0, 1) := by decide +kernel
theorem dX6_look_27 : decode cX6_look 27 = .ok (.invokevirtual 115, 3) := by decide +kernel
theorem dX6_look_30 : decode cX6_look 30 = .ok (.ifCond .eq 5, 3) := by decide +kernel
theorem dX6_look_33 : decode cX6_look 33 = .ok (.iconst 0, 1) := by decide +kernel
theorem dX6_look_34 : decode cX6_look 34 = .ok (.ireturn, 1) := by decide +kernel
theorem dX6_look_35 : decode cX6_look 35 = .ok (.aload_n 0, 1) := by decide +kernel
theorem dX6_look_36 : decode cX6_look 36 = .ok (.getfield 102, 3) := by decide +kernel
theorem dX6_look_39 : decode cX6_look 39 = .ok (.iload_n 2, 1) := by decide +kernel
theorem dX6_look_40 : decode cX6_look 40 = .ok (.dup2, 1) := by decide +kernel
theorem dX6_look_41 : decode cX6_look 41 = .ok (.iaload, 1) := by decide +kernel
theorem dX6_look_42 : decode cX6_look 42 = .ok (.iconst 1, 1) := by decide +kernel
theorem dX6_look_43 : decode cX6_look 43 = .ok (.iadd, 1) := by decide +kernel
theorem dX6_look_44 : decode cX6_look 44 = .ok (.iastore, 1) := by decide +kernel
theorem dX6_look_45 : decode cX6_look 45 = .ok (.aload_n 0, 1) := by decide +kernel
theorem dX6_look_46 : decode cX6_look 46 = .ok (.aload_n 0, 1) := by decide +kernel
theorem dX6_look_47 : decode cX6_look 47 = .ok (.getfield 7, 3) := by decide +kernel
theorem dX6_look_50 : decode cX6_look 50 = .ok (.aload_n 0, 1) := by decide +kernel
theorem dX6_look_51 : decode cX6_look 51 = .ok (.getfield 7, 3) := by decide +kernel
theorem dX6_look_54 : decode cX6_look 54 = .ok (.invokevirtual 173, 3) := by decide +kernel
theorem dX6_look_57 : decode cX6_look 57 = .ok (.aload_n 0, 1) := by decide +kernel
theorem dX6_look_58 : decode cX6_look 58 = .ok (.getfield 99, 3) := by decide +kernel
theorem dX6_look_61 : decode cX6_look 61 = .ok (.iload_n 2, 1) := by decide +kernel
theorem dX6_look_62 : decode cX6_look 62 = .ok (.baload, 1) := by decide +kernel
theorem dX6_look_63 : decode cX6_look 63 = .ok (.ifCond .eq 12, 3) := by decide +kernel
theorem dX6_look_66 : decode cX6_look 66 = .ok (.iload_n 1, 1) := by decide +kernel
theorem dX6_look_67 : decode cX6_look 67 = .ok (.ifCond .eq 8, 3) := by decide +kernel
theorem dX6_look_70 : decode cX6_look 70 = .ok (.bipush (-2), 2) := by decide +kernel
theorem dX6_look_72 : decode cX6_look 72 = .ok (.goto 9, 3) := by decide +kernel
theorem dX6_look_75 : decode cX6_look 75 = .ok (.aload_n 0, 1) := by decide +kernel
theorem dX6_look_76 : decode cX6_look 76 = .ok (.getfield 56, 3) := by decide +kernel
theorem dX6_look_79 : decode cX6_look 79 = .ok (.iload_n 2, 1) := by decide +kernel
theorem dX6_look_80 : decode cX6_look 80 = .ok (.iaload, 1) := by decide +kernel
theorem dX6_look_81 : decode cX6_look 81 = .ok (.ireturn, 1) := by decide +kernel
set_option maxRecDepth 20000 in
theorem ggX6_looks_X6_isPerson : GoodIn wsX6_looks wsX6_isPerson := goodIn_r _ [6, 7, 8, 9, 5, 10, 16, 17, 18, 19, 20, 21, 22, 23, 24, 25, 26, 27, 28, 29, 30, 31, 32, 33, 34, 35, 36, 37, 38, 39, 40, 41, 42, 43, 44, 45, 46, 47, 48, 49, 50, 51, 52, 53] (by decide +kernel) (by decide +kernel)
set_option maxRecDepth 20000 in
theorem gX6_looks_X6_isPerson : GoodIn wsX6_looks (wsV RX6 132 RX6 yX6_isPerson wsX6_isPerson) := goodIn_app (goodIn_of _ (by decide +kernel)) ggX6_looks_X6_isPerson
set_option maxRecDepth 20000 in
theorem ggX6_looks_X6_refused : GoodIn wsX6_looks wsX6_refused := goodIn_r _ [14, 15, 16, 17, 18, 19, 20, 21, 22, 23, 24, 25, 26, 27, 28, 29, 30, 31, 32, 33, 34, 35, 36, 37, 38, 39, 40, 41, 42, 43, 44, 45, 46, 47, 48, 49, 50, 51, 52, 53] (by decide +kernel) (by decide +kernel)
set_option maxRecDepth 20000 in
theorem gX6_looks_X6_refused : GoodIn wsX6_looks (wsV RX6 115 RX6 yX6_refused wsX6_refused) := goodIn_app (goodIn_of _ (by decide +kernel)) ggX6_looks_X6_refused
theorem dX6_looks_0 : decode cX6_looks 0 = .ok (.aload_n 0, 1) := by decide +kernel
theorem dX6_looks_1 : decode cX6_looks 1 = .ok (.aload_n 0, 1) := by decide +kernel
theorem dX6_looks_2 : decode cX6_looks 2 = .ok (.iload_n 1, 1) := by decide +kernel
theorem dX6_looks_3 : decode cX6_looks 3 = .ok (.invokevirtual 132, 3) := by decide +kernel
theorem dX6_looks_6 : decode cX6_looks 6 = .ok (.ifCond .eq 7, 3) := by decide +kernel
theorem dX6_looks_9 : decode cX6_looks 9 = .ok (.iconst 0, 1) := by decide +kernel
theorem dX6_looks_10 : decode cX6_looks 10 = .ok (.goto 4, 3) := by decide +kernel
theorem dX6_looks_13 : decode cX6_looks 13 = .ok (.iconst 1, 1) := by decide +kernel
theorem dX6_looks_14 : decode cX6_looks 14 = .ok (.invokevirtual 115, 3) := by decide +kernel
theorem dX6_looks_17 : decode cX6_looks 17 = .ok (.ifCond .eq 7, 3) := by decide +kernel
theorem dX6_looks_20 : decode cX6_looks 20 = .ok (.iconst 0, 1) := by decide +kernel
theorem dX6_looks_21 : decode cX6_looks 21 = .ok (.goto 9, 3) := by decide +kernel
theorem dX6_looks_24 : decode cX6_looks 24 = .ok (.aload_n 0, 1) := by decide +kernel
theorem dX6_looks_25 : decode cX6_looks 25 = .ok (.getfield 102, 3) := by decide +kernel
theorem dX6_looks_28 : decode cX6_looks 28 = .ok (.iload_n 1, 1) := by decide +kernel
theorem dX6_looks_29 : decode cX6_looks 29 = .ok (.iaload, 1) := by decide +kernel
theorem dX6_looks_30 : decode cX6_looks 30 = .ok (.ireturn, 1) := by decide +kernel
