section LLc
set_option maxHeartbeats 8000000 in
set_option maxRecDepth 100000 in
theorem lw_birth1 {p : Program} {l : Launch} {e : Env} {s : State} {m : MethodId} {args : Array Value} {below : List Frame} {meth : Method} {c : Code} {G : va_G} {cI cZ cQ cU cJ : ClassId} {A : Nat → Prop} {Qf : Unit → State → Prop} {cells slots b : Nat} {ox t n P d g kd kc kx vx vy sd : Nat} {I : OI} {R : RI} {M : va_W} (CX : CxX p l s m args meth c cL_law 23 wsL_law RL G vwCl (tys cI cZ cQ cU cJ) nws strs A) (hN : NC s) (hS : LSt cI cZ cQ cU t n P d g kd kc ox I R M) (bx : vx < 2147483648) (bv : vy < 2147483648) (hn60 : n < 60) (hg60 : g < 60) (hPn : P ≤ n) (hd0 : 10000 ≤ d) (hsd : sd ≤ d) (hR : cells + 300 ≤ room_1.cells ∧ slots + 3000 ≤ room_1.slots) {mo : Int32} (hmo : PN P mo) (kk : ∀ (M' : va_W) (I' : OI) (R' : RI) (t' n' P' d' g' : Nat), LSt cI cZ cQ cU t' n' P' d' g' kd (kc + 1) ox I' R' M' → t' ≤ t + 3 → n ≤ n' → n' ≤ n + 1 → P ≤ P' → P' ≤ n' → d ≤ d' → g' ≤ g + 1 → (P' = P + 1 ∨ 3 ≤ P') → VJ p l e room_1 s m args below meth c 23 G vwCl A Qf (cells + 300) (slots + 3000) (some ()) M' 1050 [(0, .ref b), (1, .ref ox), (2, .int (nI P')), (3, .int (nI n')), (4, .int (nI g')), (5, .int (nI 1)), (6, .int (nI kx)), (7, .int (nI vx)), (8, .int (nI vy))] []) : VJ p l e room_1 s m args below meth c 23 G vwCl A Qf cells slots (some ()) M 179 [(0, .ref b), (1, .ref ox), (2, .int (nI P)), (3, .int (nI n)), (4, .int (nI g)), (5, .int (nI 1)), (6, .int (nI kx)), (7, .int (nI vx)), (8, .int (nI vy)), (9, .int (nI d)), (10, .int (nI sd))] [.int mo, .int (nI sd), .ref ox] := by
  have C := CX.1
  have hM0 := hS.lw
  obtain ⟨bn, bP, bd, bg, e2, e4, e1, e5⟩ := hM0.iv
  have hR1 := hR.1
  have hR2 := hR.2
  by_cases hP : P < 24
  · refine VJ.iload C 8 dL_law_179 rfl ?_
    refine VJ.sipush (v := nI 128) C dL_law_181 (by decide) ?_
    refine VJ.idiv C dL_law_184 (nz (by omega) (by omega)) ?_
    refine VJ.iv (y := nI (vy / 128)) (nI_div (by omega) (by omega)) ?_
    refine VJ.bipush (v := nI 16) C dL_law_185 (by decide) ?_
    refine VJ.irem C dL_law_187 (nz (by omega) (by omega)) ?_
    refine VJ.iv (y := nI ((vy / 128) % 16)) (nI_mod (by omega) (by omega)) ?_
    refine VJ.iload C 8 dL_law_188 rfl ?_
    refine VJ.sipush (v := nI 2048) C dL_law_190 (by decide) ?_
    refine VJ.idiv C dL_law_193 (nz (by omega) (by omega)) ?_
    refine VJ.iv (y := nI (vy / 2048)) (nI_div (by omega) (by omega)) ?_
    refine VJ.iconst (v := nI 5) C dL_law_194 (by decide) ?_
    refine VJ.irem C dL_law_195 (nz (by omega) (by omega)) ?_
    refine VJ.iv (y := nI ((vy / 2048) % 5)) (nI_mod (by omega) (by omega)) ?_
    refine VJ.a_birth CX hN hM0 (by omega) hP hg60 hsd hmo (by omega) (by omega) (vx_cwSW 5 C.1.2.2.2.2 gL_law_L_birth rfl rfl rfl hy_L_birth ⟨Nat.le_of_ble_eq_true rfl, Nat.le_of_ble_eq_true rfl⟩) (Nat.le_of_ble_eq_true rfl) dL_law_196 ⟨by omega, by omega⟩ (fun M1 I1 R1 hM1 i7 rc r9 r10 => ?_)
    have hS1 := hS.told hM1 i7 (R0 := R) (fun _ _ => rfl) rc (fun _ => ⟨vy / 2048 % 5, by omega, rfl⟩)
    refine VJ.lstore C [(12, .long ((nI P).toInt64)), (0, .ref b), (1, .ref ox), (2, .int (nI P)), (3, .int (nI n)), (4, .int (nI g)), (5, .int (nI 1)), (6, .int (nI kx)), (7, .int (nI vx)), (8, .int (nI vy)), (9, .int (nI d)), (10, .int (nI sd))] dL_law_199 (Nat.le_of_ble_eq_true rfl) rfl ?_
    refine VJ.iload_n C 3 dL_law_201 rfl ?_
    refine VJ.bipush (v := nI 24) C dL_law_202 (by decide) ?_
    refine VJ.xicmp_ge_f C 211 (fun z => by have := (n_le (a := 24) (by omega) (by omega)).mp z; omega) dL_law_204 (by decide) ?_
    refine VJ.iconst (v := nI 1) C dL_law_207 (by decide) ?_
    refine VJ.goto C 212 dL_law_208 (by decide) ?_
    refine VJ.istore C [(14, .int (nI 1)), (12, .long ((nI P).toInt64)), (0, .ref b), (1, .ref ox), (2, .int (nI P)), (3, .int (nI n)), (4, .int (nI g)), (5, .int (nI 1)), (6, .int (nI kx)), (7, .int (nI vx)), (8, .int (nI vy)), (9, .int (nI d)), (10, .int (nI sd))] dL_law_212 (Nat.le_of_ble_eq_true rfl) rfl ?_
    refine VJ.lload C 1 dL_law_214 rfl ?_
    refine VJ.iload C 0 dL_law_216 rfl ?_
    refine VJ.xif_eq_f C 226 (by decide) dL_law_218 (by decide) ?_
    refine VJ.iload_n C 4 dL_law_221 rfl ?_
    refine VJ.i2l C dL_law_222 ?_
    refine VJ.goto C 229 dL_law_223 (by decide) ?_
    refine VJ.lce C (rfl) dL_law_229 ?_
    refine VJ.xif_ne_f C 237 (by decide) dL_law_230 (by decide) ?_
    refine VJ.iconst (v := nI 1) C dL_law_233 (by decide) ?_
    refine VJ.goto C 238 dL_law_234 (by decide) ?_
    refine VJ.istore C [(5, .int (nI 1)), (14, .int (nI 1)), (12, .long ((nI P).toInt64)), (0, .ref b), (1, .ref ox), (2, .int (nI P)), (3, .int (nI n)), (4, .int (nI g)), (6, .int (nI kx)), (7, .int (nI vx)), (8, .int (nI vy)), (9, .int (nI d)), (10, .int (nI sd))] dL_law_238 (Nat.le_of_ble_eq_true rfl) rfl ?_
    refine VJ.iload C 1 dL_law_240 rfl ?_
    refine VJ.xif_eq_f C 322 (by decide) dL_law_242 (by decide) ?_
    refine VJ.aload_n C 4 dL_law_245 rfl ?_
    refine VJ.iload_n C 5 dL_law_246 rfl ?_
    refine VJ.a_number CX hN hM1 (show P < P + 1 by omega) (show g < g + 1 by omega) (by rw [r10, upd_same]) (by rw [r9, upd_same]) (fun i z1 z2 => by omega) (vx_cwSW 2 C.1.2.2.2.2 gL_law_L_number rfl rfl rfl hy_L_number ⟨Nat.le_of_ble_eq_true rfl, Nat.le_of_ble_eq_true rfl⟩) (Nat.le_of_ble_eq_true rfl) dL_law_247 ⟨by omega, by omega⟩ (fun M2 hM2 => ?_)
    refine VJ.lstore C [(15, .long ((nI (numv g)).toInt64)), (5, .int (nI 1)), (14, .int (nI 1)), (12, .long ((nI P).toInt64)), (0, .ref b), (1, .ref ox), (2, .int (nI P)), (3, .int (nI n)), (4, .int (nI g)), (6, .int (nI kx)), (7, .int (nI vx)), (8, .int (nI vy)), (9, .int (nI d)), (10, .int (nI sd))] dL_law_250 (Nat.le_of_ble_eq_true rfl) rfl ?_
    refine VJ.iload C 1 dL_law_252 rfl ?_
    refine VJ.xif_eq_f C 310 (by decide) dL_law_254 (by decide) ?_
    refine VJ.aload_n C 5 dL_law_257 rfl ?_
    refine VJ.lload C 0 dL_law_258 rfl ?_
    refine VJ.l2i C dL_law_260 (li _) ?_
    refine VJ.a_bearer (q := P) CX hN hM2 (show g < g + 1 by omega) (by rw [r10, upd_same]) (vx_cwSW 2 C.1.2.2.2.2 gL_law_L_bearer rfl rfl rfl hy_L_bearer ⟨Nat.le_of_ble_eq_true rfl, Nat.le_of_ble_eq_true rfl⟩) (Nat.le_of_ble_eq_true rfl) dL_law_261 ⟨by omega, by omega⟩ (fun M3 hM3 => ?_)
    refine VJ.iload_n C 6 dL_law_264 rfl ?_
    refine VJ.i2l C dL_law_265 ?_
    refine VJ.lce C (rfl) dL_law_266 ?_
    refine VJ.xif_ne_f C 310 (by decide) dL_law_267 (by decide) ?_
    refine VJ.aload_n C 5 dL_law_270 rfl ?_
    refine VJ.iload_n C 7 dL_law_271 rfl ?_
    refine VJ.iconst (v := nI 0) C dL_law_272 (by decide) ?_
    refine VJ.a_actk CX hN hM3 (show n < n + 1 by omega) (vx_cwSW 3 C.1.2.2.2.2 gL_law_L_actOf rfl rfl rfl hy_L_actOf ⟨Nat.le_of_ble_eq_true rfl, Nat.le_of_ble_eq_true rfl⟩) (Nat.le_of_ble_eq_true rfl) dL_law_273 ⟨by omega, by omega⟩ (fun M4 hM4 => ?_)
    refine VJ.lnv (y := (nI 0).toInt64) (by rw [rc 0 (by omega) (by omega) (by omega), tR0, if_pos rfl]; decide) ?_
    refine VJ.lconst (v := (nI 0).toInt64) C dL_law_276 (by decide) ?_
    refine VJ.lce C (by decide) dL_law_277 ?_
    refine VJ.xif_ne_f C 310 (by decide) dL_law_278 (by decide) ?_
    refine VJ.aload_n C 5 dL_law_281 rfl ?_
    refine VJ.iload_n C 7 dL_law_282 rfl ?_
    refine VJ.iconst (v := nI 2) C dL_law_283 (by decide) ?_
    refine VJ.a_acts CX hN hM4 (show n < n + 1 by omega) (vx_cwSW 3 C.1.2.2.2.2 gL_law_L_actOf rfl rfl rfl hy_L_actOf ⟨Nat.le_of_ble_eq_true rfl, Nat.le_of_ble_eq_true rfl⟩) (Nat.le_of_ble_eq_true rfl) dL_law_284 ⟨by omega, by omega⟩ (fun M5 hM5 => ?_)
    refine VJ.lnv (y := (nI sd).toInt64) (by rw [rc 2 (by omega) (by omega) (by omega), tR2, if_pos rfl]) ?_
    refine VJ.iload C 13 dL_law_287 rfl ?_
    refine VJ.i2l C dL_law_289 ?_
    refine VJ.lce C (rfl) dL_law_290 ?_
    refine VJ.xif_ne_f C 310 (by decide) dL_law_291 (by decide) ?_
    refine VJ.aload_n C 5 dL_law_294 rfl ?_
    refine VJ.iload_n C 7 dL_law_295 rfl ?_
    refine VJ.iconst (v := nI 3) C dL_law_296 (by decide) ?_
    refine VJ.a_actp CX hN hM5 (show n < n + 1 by omega) (vx_cwSW 3 C.1.2.2.2.2 gL_law_L_actOf rfl rfl rfl hy_L_actOf ⟨Nat.le_of_ble_eq_true rfl, Nat.le_of_ble_eq_true rfl⟩) (Nat.le_of_ble_eq_true rfl) dL_law_297 ⟨by omega, by omega⟩ (fun M6 hM6 => ?_)
    refine VJ.lnv (y := (nI P).toInt64) (by rw [rc 3 (by omega) (by omega) (by omega), tR3, if_pos rfl]) ?_
    refine VJ.iload_n C 6 dL_law_300 rfl ?_
    refine VJ.i2l C dL_law_301 ?_
    refine VJ.lce C (rfl) dL_law_302 ?_
    refine VJ.xif_ne_f C 310 (by decide) dL_law_303 (by decide) ?_
    refine VJ.iconst (v := nI 1) C dL_law_306 (by decide) ?_
    refine VJ.goto C 311 dL_law_307 (by decide) ?_
    refine VJ.istore C [(5, .int (nI 1)), (15, .long ((nI (numv g)).toInt64)), (14, .int (nI 1)), (12, .long ((nI P).toInt64)), (0, .ref b), (1, .ref ox), (2, .int (nI P)), (3, .int (nI n)), (4, .int (nI g)), (6, .int (nI kx)), (7, .int (nI vx)), (8, .int (nI vy)), (9, .int (nI d)), (10, .int (nI sd))] dL_law_311 (Nat.le_of_ble_eq_true rfl) rfl ?_
    refine VJ.iinc C 6 (nI (P + 1)) [(2, .int (nI (P + 1))), (5, .int (nI 1)), (15, .long ((nI (numv g)).toInt64)), (14, .int (nI 1)), (12, .long ((nI P).toInt64)), (0, .ref b), (1, .ref ox), (3, .int (nI n)), (4, .int (nI g)), (6, .int (nI kx)), (7, .int (nI vx)), (8, .int (nI vy)), (9, .int (nI d)), (10, .int (nI sd))] dL_law_313 rfl nI_s9 (Nat.le_of_ble_eq_true rfl) rfl ?_
    refine VJ.iinc C 7 (nI (n + 1)) [(3, .int (nI (n + 1))), (2, .int (nI (P + 1))), (5, .int (nI 1)), (15, .long ((nI (numv g)).toInt64)), (14, .int (nI 1)), (12, .long ((nI P).toInt64)), (0, .ref b), (1, .ref ox), (4, .int (nI g)), (6, .int (nI kx)), (7, .int (nI vx)), (8, .int (nI vy)), (9, .int (nI d)), (10, .int (nI sd))] dL_law_316 rfl nI_s9 (Nat.le_of_ble_eq_true rfl) rfl ?_
    refine VJ.iinc C 8 (nI (g + 1)) [(4, .int (nI (g + 1))), (3, .int (nI (n + 1))), (2, .int (nI (P + 1))), (5, .int (nI 1)), (15, .long ((nI (numv g)).toInt64)), (14, .int (nI 1)), (12, .long ((nI P).toInt64)), (0, .ref b), (1, .ref ox), (6, .int (nI kx)), (7, .int (nI vx)), (8, .int (nI vy)), (9, .int (nI d)), (10, .int (nI sd))] dL_law_319 rfl nI_s9 (Nat.le_of_ble_eq_true rfl) rfl ?_
    refine VJ.goto C 1050 dL_law_322 (by decide) ?_
    refine VJ.sub [7, 8, 2, 1, 0, 3, 9, 10, 11] rfl ?_
    exact VJ.widen (by omega) (by omega) (kk _ _ _ _ _ _ _ _ ((hS1.with hM6).up (by omega)) (by omega) (by omega) (by omega) (by omega) (by omega) (by omega) (by omega) (by omega))
  · refine VJ.iload C 8 dL_law_179 rfl ?_
    refine VJ.sipush (v := nI 128) C dL_law_181 (by decide) ?_
    refine VJ.idiv C dL_law_184 (nz (by omega) (by omega)) ?_
    refine VJ.iv (y := nI (vy / 128)) (nI_div (by omega) (by omega)) ?_
    refine VJ.bipush (v := nI 16) C dL_law_185 (by decide) ?_
    refine VJ.irem C dL_law_187 (nz (by omega) (by omega)) ?_
    refine VJ.iv (y := nI ((vy / 128) % 16)) (nI_mod (by omega) (by omega)) ?_
    refine VJ.iload C 8 dL_law_188 rfl ?_
    refine VJ.sipush (v := nI 2048) C dL_law_190 (by decide) ?_
    refine VJ.idiv C dL_law_193 (nz (by omega) (by omega)) ?_
    refine VJ.iv (y := nI (vy / 2048)) (nI_div (by omega) (by omega)) ?_
    refine VJ.iconst (v := nI 5) C dL_law_194 (by decide) ?_
    refine VJ.irem C dL_law_195 (nz (by omega) (by omega)) ?_
    refine VJ.iv (y := nI ((vy / 2048) % 5)) (nI_mod (by omega) (by omega)) ?_
    refine VJ.a_birth_no CX hN hM0 (by omega) hsd hmo (by omega) (by omega) (vx_cwSW 5 C.1.2.2.2.2 gL_law_L_birth rfl rfl rfl hy_L_birth ⟨Nat.le_of_ble_eq_true rfl, Nat.le_of_ble_eq_true rfl⟩) (Nat.le_of_ble_eq_true rfl) dL_law_196 ⟨by omega, by omega⟩ (fun M1 hM1 => ?_)
    refine VJ.lstore C [(12, .long (kode 3)), (0, .ref b), (1, .ref ox), (2, .int (nI P)), (3, .int (nI n)), (4, .int (nI g)), (5, .int (nI 1)), (6, .int (nI kx)), (7, .int (nI vx)), (8, .int (nI vy)), (9, .int (nI d)), (10, .int (nI sd))] dL_law_199 (Nat.le_of_ble_eq_true rfl) rfl ?_
    refine VJ.iload_n C 3 dL_law_201 rfl ?_
    refine VJ.bipush (v := nI 24) C dL_law_202 (by decide) ?_
    refine VJ.xicmp_ge_t C 211 ((n_le (a := 24) (by omega) (by omega)).mpr (by omega)) dL_law_204 (by decide) ?_
    refine VJ.iconst (v := nI 0) C dL_law_211 (by decide) ?_
    refine VJ.istore C [(14, .int (nI 0)), (12, .long (kode 3)), (0, .ref b), (1, .ref ox), (2, .int (nI P)), (3, .int (nI n)), (4, .int (nI g)), (5, .int (nI 1)), (6, .int (nI kx)), (7, .int (nI vx)), (8, .int (nI vy)), (9, .int (nI d)), (10, .int (nI sd))] dL_law_212 (Nat.le_of_ble_eq_true rfl) rfl ?_
    refine VJ.lload C 1 dL_law_214 rfl ?_
    refine VJ.iload C 0 dL_law_216 rfl ?_
    refine VJ.xif_eq_t C 226 (by decide) dL_law_218 (by decide) ?_
    refine VJ.ldc2 (v := -9000000000000000003) C (C.1.2.2.2.2 _ lwk_21) dL_law_226 ?_
    refine VJ.lnv (y := kode 3) (by decide) ?_
    refine VJ.lce C (by decide) dL_law_229 ?_
    refine VJ.xif_ne_f C 237 (by decide) dL_law_230 (by decide) ?_
    refine VJ.iconst (v := nI 1) C dL_law_233 (by decide) ?_
    refine VJ.goto C 238 dL_law_234 (by decide) ?_
    refine VJ.istore C [(5, .int (nI 1)), (14, .int (nI 0)), (12, .long (kode 3)), (0, .ref b), (1, .ref ox), (2, .int (nI P)), (3, .int (nI n)), (4, .int (nI g)), (6, .int (nI kx)), (7, .int (nI vx)), (8, .int (nI vy)), (9, .int (nI d)), (10, .int (nI sd))] dL_law_238 (Nat.le_of_ble_eq_true rfl) rfl ?_
    refine VJ.iload C 1 dL_law_240 rfl ?_
    refine VJ.xif_eq_t C 322 (by decide) dL_law_242 (by decide) ?_
    refine VJ.goto C 1050 dL_law_322 (by decide) ?_
    refine VJ.sub [3, 4, 5, 6, 7, 0, 8, 9, 10] rfl ?_
    exact VJ.widen (by omega) (by omega) (kk _ _ _ _ _ _ _ _ ((hS.with hM1).up (by omega)) (by omega) (by omega) (by omega) (by omega) (by omega) (by omega) (by omega) (by omega))
set_option maxHeartbeats 8000000 in
set_option maxRecDepth 100000 in
theorem lw_birth {p : Program} {l : Launch} {e : Env} {s : State} {m : MethodId} {args : Array Value} {below : List Frame} {meth : Method} {c : Code} {G : va_G} {cI cZ cQ cU cJ : ClassId} {A : Nat → Prop} {Qf : Unit → State → Prop} {cells slots b : Nat} {ox t n P d g kd kc kx vx vy sd : Nat} {I : OI} {R : RI} {M : va_W} (CX : CxX p l s m args meth c cL_law 23 wsL_law RL G vwCl (tys cI cZ cQ cU cJ) nws strs A) (hN : NC s) (hS : LSt cI cZ cQ cU t n P d g kd kc ox I R M) (bx : vx < 2147483648) (bv : vy < 2147483648) (hn60 : n < 60) (hg60 : g < 60) (hPn : P ≤ n) (hd0 : 10000 ≤ d) (hsd : sd ≤ d) (hR : cells + 300 ≤ room_1.cells ∧ slots + 3000 ≤ room_1.slots)  (kk : ∀ (M' : va_W) (I' : OI) (R' : RI) (t' n' P' d' g' : Nat), LSt cI cZ cQ cU t' n' P' d' g' kd (kc + 1) ox I' R' M' → t' ≤ t + 3 → n ≤ n' → n' ≤ n + 1 → P ≤ P' → P' ≤ n' → d ≤ d' → g' ≤ g + 1 → (P' = P + 1 ∨ 3 ≤ P') → VJ p l e room_1 s m args below meth c 23 G vwCl A Qf (cells + 300) (slots + 3000) (some ()) M' 1050 [(0, .ref b), (1, .ref ox), (2, .int (nI P')), (3, .int (nI n')), (4, .int (nI g')), (5, .int (nI 1)), (6, .int (nI kx)), (7, .int (nI vx)), (8, .int (nI vy))] []) : VJ p l e room_1 s m args below meth c 23 G vwCl A Qf cells slots (some ()) M 155 [(0, .ref b), (1, .ref ox), (2, .int (nI P)), (3, .int (nI n)), (4, .int (nI g)), (5, .int (nI 1)), (6, .int (nI kx)), (7, .int (nI vx)), (8, .int (nI vy)), (9, .int (nI d)), (10, .int (nI sd))] [] := by
  have C := CX.1
  have hM0 := hS.lw
  obtain ⟨bn, bP, bd, bg, e2, e4, e1, e5⟩ := hM0.iv
  have hR1 := hR.1
  have hR2 := hR.2
  by_cases h0 : P = 0
  · refine VJ.aload_n C 1 dL_law_155 rfl ?_
    refine VJ.iload C 10 dL_law_156 rfl ?_
    refine VJ.iload_n C 2 dL_law_158 rfl ?_
    refine VJ.xif_eq_t C 169 (by rw [h0]; decide) dL_law_159 (by decide) ?_
    refine VJ.iconst (v := (-1)) C dL_law_169 (by decide) ?_
    refine VJ.goto C 179 dL_law_170 (by decide) ?_
    exact lw_birth1 CX hN hS bx bv hn60 hg60 hPn hd0 hsd hR (Or.inl rfl) kk
  · by_cases h3 : vy % 3 = 0
    · refine VJ.aload_n C 1 dL_law_155 rfl ?_
      refine VJ.iload C 10 dL_law_156 rfl ?_
      refine VJ.iload_n C 2 dL_law_158 rfl ?_
      refine VJ.xif_eq_f C 169 (nz (by omega) (by omega)) dL_law_159 (by decide) ?_
      refine VJ.iload C 8 dL_law_162 rfl ?_
      refine VJ.iconst (v := nI 3) C dL_law_164 (by decide) ?_
      refine VJ.irem C dL_law_165 (nz (by omega) (by omega)) ?_
      refine VJ.iv (y := nI (vy % 3)) (nI_mod (by omega) (by omega)) ?_
      refine VJ.xif_ne_f C 173 (by rw [h3]; decide) dL_law_166 (by decide) ?_
      refine VJ.iconst (v := (-1)) C dL_law_169 (by decide) ?_
      refine VJ.goto C 179 dL_law_170 (by decide) ?_
      exact lw_birth1 CX hN hS bx bv hn60 hg60 hPn hd0 hsd hR (Or.inl rfl) kk
    · refine VJ.aload_n C 1 dL_law_155 rfl ?_
      refine VJ.iload C 10 dL_law_156 rfl ?_
      refine VJ.iload_n C 2 dL_law_158 rfl ?_
      refine VJ.xif_eq_f C 169 (nz (by omega) (by omega)) dL_law_159 (by decide) ?_
      refine VJ.iload C 8 dL_law_162 rfl ?_
      refine VJ.iconst (v := nI 3) C dL_law_164 (by decide) ?_
      refine VJ.irem C dL_law_165 (nz (by omega) (by omega)) ?_
      refine VJ.iv (y := nI (vy % 3)) (nI_mod (by omega) (by omega)) ?_
      refine VJ.xif_ne_t C 173 (nz (by omega) (by omega)) dL_law_166 (by decide) ?_
      refine VJ.iload C 8 dL_law_173 rfl ?_
      refine VJ.iconst (v := nI 4) C dL_law_175 (by decide) ?_
      refine VJ.idiv C dL_law_176 (nz (by omega) (by omega)) ?_
      refine VJ.iv (y := nI (vy / 4)) (nI_div (by omega) (by omega)) ?_
      refine VJ.iload_n C 2 dL_law_177 rfl ?_
      refine VJ.irem C dL_law_178 (nz (by omega) (by omega)) ?_
      refine VJ.iv (y := nI ((vy / 4) % P)) (nI_mod (by omega) (by omega)) ?_
      exact lw_birth1 CX hN hS bx bv hn60 hg60 hPn hd0 hsd hR (Or.inr ⟨_, Nat.mod_lt _ (by omega), rfl⟩) kk
set_option maxHeartbeats 8000000 in
set_option maxRecDepth 100000 in
theorem lw_move {p : Program} {l : Launch} {e : Env} {s : State} {m : MethodId} {args : Array Value} {below : List Frame} {meth : Method} {c : Code} {G : va_G} {cI cZ cQ cU cJ : ClassId} {A : Nat → Prop} {Qf : Unit → State → Prop} {cells slots b : Nat} {ox t n P d g kd kc kx vx vy sd : Nat} {I : OI} {R : RI} {M : va_W} (CX : CxX p l s m args meth c cL_law 23 wsL_law RL G vwCl (tys cI cZ cQ cU cJ) nws strs A) (hN : NC s) (hS : LSt cI cZ cQ cU t n P d g kd kc ox I R M) (bx : vx < 2147483648) (bv : vy < 2147483648) (hn60 : n < 60) (hg60 : g < 60) (hPn : P ≤ n) (hd0 : 10000 ≤ d) (hsd : sd ≤ d) (hR : cells + 300 ≤ room_1.cells ∧ slots + 3000 ≤ room_1.slots) (h3 : 3 ≤ P) (kk : ∀ (M' : va_W) (I' : OI) (R' : RI) (t' n' P' d' g' : Nat), LSt cI cZ cQ cU t' n' P' d' g' kd (kc + 1) ox I' R' M' → t' ≤ t + 3 → n ≤ n' → n' ≤ n + 1 → P ≤ P' → P' ≤ n' → d ≤ d' → g' ≤ g + 1 → (P' = P + 1 ∨ 3 ≤ P') → VJ p l e room_1 s m args below meth c 23 G vwCl A Qf (cells + 300) (slots + 3000) (some ()) M' 1050 [(0, .ref b), (1, .ref ox), (2, .int (nI P')), (3, .int (nI n')), (4, .int (nI g')), (5, .int (nI 1)), (6, .int (nI kx)), (7, .int (nI vx)), (8, .int (nI vy))] []) : VJ p l e room_1 s m args below meth c 23 G vwCl A Qf cells slots (some ()) M 331 [(0, .ref b), (1, .ref ox), (2, .int (nI P)), (3, .int (nI n)), (4, .int (nI g)), (5, .int (nI 1)), (6, .int (nI kx)), (7, .int (nI vx)), (8, .int (nI vy)), (9, .int (nI d)), (10, .int (nI sd))] [] := by
  have C := CX.1
  have hM0 := hS.lw
  obtain ⟨bn, bP, bd, bg, e2, e4, e1, e5⟩ := hM0.iv
  have hR1 := hR.1
  have hR2 := hR.2
  have hq : vy % P < P := Nat.mod_lt _ (by omega)
  refine VJ.aload_n C 1 dL_law_331 rfl ?_
  refine VJ.iload C 8 dL_law_332 rfl ?_
  refine VJ.iload_n C 2 dL_law_334 rfl ?_
  refine VJ.irem C dL_law_335 (nz (by omega) (by omega)) ?_
  refine VJ.iv (y := nI (vy % P)) (nI_mod (by omega) (by omega)) ?_
  refine VJ.iload C 10 dL_law_336 rfl ?_
  refine VJ.iload C 8 dL_law_338 rfl ?_
  refine VJ.bipush (v := nI 32) C dL_law_340 (by decide) ?_
  refine VJ.idiv C dL_law_342 (nz (by omega) (by omega)) ?_
  refine VJ.iv (y := nI (vy / 32)) (nI_div (by omega) (by omega)) ?_
  refine VJ.bipush (v := nI 16) C dL_law_343 (by decide) ?_
  refine VJ.irem C dL_law_345 (nz (by omega) (by omega)) ?_
  refine VJ.iv (y := nI ((vy / 32) % 16)) (nI_mod (by omega) (by omega)) ?_
  refine VJ.a_move CX hN hM0 (by omega) hq hsd (by omega) (vx_cwSW 4 C.1.2.2.2.2 gL_law_L_move rfl rfl rfl hy_L_move ⟨Nat.le_of_ble_eq_true rfl, Nat.le_of_ble_eq_true rfl⟩) (Nat.le_of_ble_eq_true rfl) dL_law_346 ⟨by omega, by omega⟩ (fun M1 I1 R1 hM1 ic rc => ?_)
  have hS1 := hS.told hM1 (ic 7 (by omega) (by omega) (by omega)) (fun _ _ => rfl) (fun c c8 _ _ => rc c c8) (fun z => absurd z (by decide))
  refine VJ.iload_n C 3 dL_law_349 rfl ?_
  refine VJ.i2l C dL_law_350 ?_
  refine VJ.lce C (rfl) dL_law_351 ?_
  refine VJ.xif_ne_f C 359 (by decide) dL_law_352 (by decide) ?_
  refine VJ.iconst (v := nI 1) C dL_law_355 (by decide) ?_
  refine VJ.goto C 360 dL_law_356 (by decide) ?_
  refine VJ.istore C [(5, .int (nI 1)), (0, .ref b), (1, .ref ox), (2, .int (nI P)), (3, .int (nI n)), (4, .int (nI g)), (6, .int (nI kx)), (7, .int (nI vx)), (8, .int (nI vy)), (9, .int (nI d)), (10, .int (nI sd))] dL_law_360 (Nat.le_of_ble_eq_true rfl) rfl ?_
  refine VJ.iinc C 4 (nI (n + 1)) [(3, .int (nI (n + 1))), (5, .int (nI 1)), (0, .ref b), (1, .ref ox), (2, .int (nI P)), (4, .int (nI g)), (6, .int (nI kx)), (7, .int (nI vx)), (8, .int (nI vy)), (9, .int (nI d)), (10, .int (nI sd))] dL_law_362 rfl nI_s9 (Nat.le_of_ble_eq_true rfl) rfl ?_
  refine VJ.goto C 1050 dL_law_365 (by decide) ?_
  refine VJ.sub [2, 3, 4, 0, 5, 1, 6, 7, 8] rfl ?_
  exact VJ.widen (by omega) (by omega) (kk _ _ _ _ _ _ _ _ ((hS1.with hM1).up (by omega)) (by omega) (by omega) (by omega) (by omega) (by omega) (by omega) (by omega) (by omega))
set_option maxHeartbeats 8000000 in
set_option maxRecDepth 100000 in
theorem lw_naming {p : Program} {l : Launch} {e : Env} {s : State} {m : MethodId} {args : Array Value} {below : List Frame} {meth : Method} {c : Code} {G : va_G} {cI cZ cQ cU cJ : ClassId} {A : Nat → Prop} {Qf : Unit → State → Prop} {cells slots b : Nat} {ox t n P d g kd kc kx vx vy sd : Nat} {I : OI} {R : RI} {M : va_W} (CX : CxX p l s m args meth c cL_law 23 wsL_law RL G vwCl (tys cI cZ cQ cU cJ) nws strs A) (hN : NC s) (hS : LSt cI cZ cQ cU t n P d g kd kc ox I R M) (bx : vx < 2147483648) (bv : vy < 2147483648) (hn60 : n < 60) (hg60 : g < 60) (hPn : P ≤ n) (hd0 : 10000 ≤ d) (hsd : sd ≤ d) (hR : cells + 300 ≤ room_1.cells ∧ slots + 3000 ≤ room_1.slots) (h3 : 3 ≤ P) (kk : ∀ (M' : va_W) (I' : OI) (R' : RI) (t' n' P' d' g' : Nat), LSt cI cZ cQ cU t' n' P' d' g' kd (kc + 1) ox I' R' M' → t' ≤ t + 3 → n ≤ n' → n' ≤ n + 1 → P ≤ P' → P' ≤ n' → d ≤ d' → g' ≤ g + 1 → (P' = P + 1 ∨ 3 ≤ P') → VJ p l e room_1 s m args below meth c 23 G vwCl A Qf (cells + 300) (slots + 3000) (some ()) M' 1050 [(0, .ref b), (1, .ref ox), (2, .int (nI P')), (3, .int (nI n')), (4, .int (nI g')), (5, .int (nI 1)), (6, .int (nI kx)), (7, .int (nI vx)), (8, .int (nI vy))] []) : VJ p l e room_1 s m args below meth c 23 G vwCl A Qf cells slots (some ()) M 374 [(0, .ref b), (1, .ref ox), (2, .int (nI P)), (3, .int (nI n)), (4, .int (nI g)), (5, .int (nI 1)), (6, .int (nI kx)), (7, .int (nI vx)), (8, .int (nI vy)), (9, .int (nI d)), (10, .int (nI sd))] [] := by
  have C := CX.1
  have hM0 := hS.lw
  obtain ⟨bn, bP, bd, bg, e2, e4, e1, e5⟩ := hM0.iv
  have hR1 := hR.1
  have hR2 := hR.2
  have hq : vy % P < P := Nat.mod_lt _ (by omega)
  refine VJ.aload_n C 1 dL_law_374 rfl ?_
  refine VJ.iload C 8 dL_law_375 rfl ?_
  refine VJ.iload_n C 2 dL_law_377 rfl ?_
  refine VJ.irem C dL_law_378 (nz (by omega) (by omega)) ?_
  refine VJ.iv (y := nI (vy % P)) (nI_mod (by omega) (by omega)) ?_
  refine VJ.iload C 10 dL_law_379 rfl ?_
  refine VJ.iload C 8 dL_law_381 rfl ?_
  refine VJ.bipush (v := nI 32) C dL_law_383 (by decide) ?_
  refine VJ.idiv C dL_law_385 (nz (by omega) (by omega)) ?_
  refine VJ.iv (y := nI (vy / 32)) (nI_div (by omega) (by omega)) ?_
  refine VJ.iconst (v := nI 5) C dL_law_386 (by decide) ?_
  refine VJ.irem C dL_law_387 (nz (by omega) (by omega)) ?_
  refine VJ.iv (y := nI ((vy / 32) % 5)) (nI_mod (by omega) (by omega)) ?_
  refine VJ.a_naming CX hN hM0 (by omega) hq hsd (by omega) (vx_cwSW 4 C.1.2.2.2.2 gL_law_L_naming rfl rfl rfl hy_L_naming ⟨Nat.le_of_ble_eq_true rfl, Nat.le_of_ble_eq_true rfl⟩) (Nat.le_of_ble_eq_true rfl) dL_law_388 ⟨by omega, by omega⟩ (fun M1 I1 R1 hM1 ic rc => ?_)
  have hS1 := hS.told hM1 (ic 7 (by omega) (by omega) (by omega)) (fun _ _ => rfl) (fun c c8 _ _ => rc c c8) (fun _ => ⟨vy / 32 % 5, by omega, rfl⟩)
  refine VJ.iload_n C 3 dL_law_391 rfl ?_
  refine VJ.i2l C dL_law_392 ?_
  refine VJ.lce C (rfl) dL_law_393 ?_
  refine VJ.xif_ne_f C 401 (by decide) dL_law_394 (by decide) ?_
  refine VJ.iconst (v := nI 1) C dL_law_397 (by decide) ?_
  refine VJ.goto C 402 dL_law_398 (by decide) ?_
  refine VJ.istore C [(5, .int (nI 1)), (0, .ref b), (1, .ref ox), (2, .int (nI P)), (3, .int (nI n)), (4, .int (nI g)), (6, .int (nI kx)), (7, .int (nI vx)), (8, .int (nI vy)), (9, .int (nI d)), (10, .int (nI sd))] dL_law_402 (Nat.le_of_ble_eq_true rfl) rfl ?_
  refine VJ.iinc C 4 (nI (n + 1)) [(3, .int (nI (n + 1))), (5, .int (nI 1)), (0, .ref b), (1, .ref ox), (2, .int (nI P)), (4, .int (nI g)), (6, .int (nI kx)), (7, .int (nI vx)), (8, .int (nI vy)), (9, .int (nI d)), (10, .int (nI sd))] dL_law_404 rfl nI_s9 (Nat.le_of_ble_eq_true rfl) rfl ?_
  refine VJ.goto C 1050 dL_law_407 (by decide) ?_
  refine VJ.sub [2, 3, 4, 0, 5, 1, 6, 7, 8] rfl ?_
  exact VJ.widen (by omega) (by omega) (kk _ _ _ _ _ _ _ _ ((hS1.with hM1).up (by omega)) (by omega) (by omega) (by omega) (by omega) (by omega) (by omega) (by omega) (by omega))
set_option maxHeartbeats 8000000 in
set_option maxRecDepth 100000 in
theorem lw_death {p : Program} {l : Launch} {e : Env} {s : State} {m : MethodId} {args : Array Value} {below : List Frame} {meth : Method} {c : Code} {G : va_G} {cI cZ cQ cU cJ : ClassId} {A : Nat → Prop} {Qf : Unit → State → Prop} {cells slots b : Nat} {ox t n P d g kd kc kx vx vy sd : Nat} {I : OI} {R : RI} {M : va_W} (CX : CxX p l s m args meth c cL_law 23 wsL_law RL G vwCl (tys cI cZ cQ cU cJ) nws strs A) (hN : NC s) (hS : LSt cI cZ cQ cU t n P d g kd kc ox I R M) (bx : vx < 2147483648) (bv : vy < 2147483648) (hn60 : n < 60) (hg60 : g < 60) (hPn : P ≤ n) (hd0 : 10000 ≤ d) (hsd : sd ≤ d) (hR : cells + 300 ≤ room_1.cells ∧ slots + 3000 ≤ room_1.slots) (h3 : 3 ≤ P) (kk : ∀ (M' : va_W) (I' : OI) (R' : RI) (t' n' P' d' g' : Nat), LSt cI cZ cQ cU t' n' P' d' g' kd (kc + 1) ox I' R' M' → t' ≤ t + 3 → n ≤ n' → n' ≤ n + 1 → P ≤ P' → P' ≤ n' → d ≤ d' → g' ≤ g + 1 → (P' = P + 1 ∨ 3 ≤ P') → VJ p l e room_1 s m args below meth c 23 G vwCl A Qf (cells + 300) (slots + 3000) (some ()) M' 1050 [(0, .ref b), (1, .ref ox), (2, .int (nI P')), (3, .int (nI n')), (4, .int (nI g')), (5, .int (nI 1)), (6, .int (nI kx)), (7, .int (nI vx)), (8, .int (nI vy))] []) : VJ p l e room_1 s m args below meth c 23 G vwCl A Qf cells slots (some ()) M 530 [(0, .ref b), (1, .ref ox), (2, .int (nI P)), (3, .int (nI n)), (4, .int (nI g)), (5, .int (nI 1)), (6, .int (nI kx)), (7, .int (nI vx)), (8, .int (nI vy)), (9, .int (nI d)), (10, .int (nI sd))] [] := by
  have C := CX.1
  have hM0 := hS.lw
  obtain ⟨bn, bP, bd, bg, e2, e4, e1, e5⟩ := hM0.iv
  have hR1 := hR.1
  have hR2 := hR.2
  have hq : vy % P < P := Nat.mod_lt _ (by omega)
  refine VJ.aload_n C 1 dL_law_530 rfl ?_
  refine VJ.iload C 8 dL_law_531 rfl ?_
  refine VJ.iload_n C 2 dL_law_533 rfl ?_
  refine VJ.irem C dL_law_534 (nz (by omega) (by omega)) ?_
  refine VJ.iv (y := nI (vy % P)) (nI_mod (by omega) (by omega)) ?_
  refine VJ.iload C 10 dL_law_535 rfl ?_
  refine VJ.a_death CX hN hM0 (by omega) hq hsd (vx_cwSW 3 C.1.2.2.2.2 gL_law_L_death rfl rfl rfl hy_L_death ⟨Nat.le_of_ble_eq_true rfl, Nat.le_of_ble_eq_true rfl⟩) (Nat.le_of_ble_eq_true rfl) dL_law_537 ⟨by omega, by omega⟩ (fun M1 I1 R1 hM1 ic rc => ?_)
  have hS1 := hS.told hM1 (ic 7 (by omega) (by omega) (by omega)) (fun _ _ => rfl) (fun c c8 _ _ => rc c c8) (fun z => absurd z (by decide))
  refine VJ.iload_n C 3 dL_law_540 rfl ?_
  refine VJ.i2l C dL_law_541 ?_
  refine VJ.lce C (rfl) dL_law_542 ?_
  refine VJ.xif_ne_f C 550 (by decide) dL_law_543 (by decide) ?_
  refine VJ.iconst (v := nI 1) C dL_law_546 (by decide) ?_
  refine VJ.goto C 551 dL_law_547 (by decide) ?_
  refine VJ.istore C [(5, .int (nI 1)), (0, .ref b), (1, .ref ox), (2, .int (nI P)), (3, .int (nI n)), (4, .int (nI g)), (6, .int (nI kx)), (7, .int (nI vx)), (8, .int (nI vy)), (9, .int (nI d)), (10, .int (nI sd))] dL_law_551 (Nat.le_of_ble_eq_true rfl) rfl ?_
  refine VJ.iinc C 4 (nI (n + 1)) [(3, .int (nI (n + 1))), (5, .int (nI 1)), (0, .ref b), (1, .ref ox), (2, .int (nI P)), (4, .int (nI g)), (6, .int (nI kx)), (7, .int (nI vx)), (8, .int (nI vy)), (9, .int (nI d)), (10, .int (nI sd))] dL_law_553 rfl nI_s9 (Nat.le_of_ble_eq_true rfl) rfl ?_
  refine VJ.goto C 1050 dL_law_556 (by decide) ?_
  refine VJ.sub [2, 3, 4, 0, 5, 1, 6, 7, 8] rfl ?_
  exact VJ.widen (by omega) (by omega) (kk _ _ _ _ _ _ _ _ ((hS1.with hM1).up (by omega)) (by omega) (by omega) (by omega) (by omega) (by omega) (by omega) (by omega) (by omega))
set_option maxHeartbeats 8000000 in
set_option maxRecDepth 100000 in
theorem lw_tie5 {p : Program} {l : Launch} {e : Env} {s : State} {m : MethodId} {args : Array Value} {below : List Frame} {meth : Method} {c : Code} {G : va_G} {cI cZ cQ cU cJ : ClassId} {A : Nat → Prop} {Qf : Unit → State → Prop} {cells slots b : Nat} {ox t n P d g kd kc kx vx vy sd : Nat} {I : OI} {R : RI} {M : va_W} (CX : CxX p l s m args meth c cL_law 23 wsL_law RL G vwCl (tys cI cZ cQ cU cJ) nws strs A) (hN : NC s) (hS : LSt cI cZ cQ cU t n P d g kd kc ox I R M) (bx : vx < 2147483648) (bv : vy < 2147483648) (hn60 : n < 60) (hg60 : g < 60) (hPn : P ≤ n) (hd0 : 10000 ≤ d) (hsd : sd ≤ d) (hR : cells + 300 ≤ room_1.cells ∧ slots + 3000 ≤ room_1.slots) (h3 : 3 ≤ P) (kk : ∀ (M' : va_W) (I' : OI) (R' : RI) (t' n' P' d' g' : Nat), LSt cI cZ cQ cU t' n' P' d' g' kd (kc + 1) ox I' R' M' → t' ≤ t + 3 → n ≤ n' → n' ≤ n + 1 → P ≤ P' → P' ≤ n' → d ≤ d' → g' ≤ g + 1 → (P' = P + 1 ∨ 3 ≤ P') → VJ p l e room_1 s m args below meth c 23 G vwCl A Qf (cells + 300) (slots + 3000) (some ()) M' 1050 [(0, .ref b), (1, .ref ox), (2, .int (nI P')), (3, .int (nI n')), (4, .int (nI g')), (5, .int (nI 1)), (6, .int (nI kx)), (7, .int (nI vx)), (8, .int (nI vy))] []) : VJ p l e room_1 s m args below meth c 23 G vwCl A Qf cells slots (some ()) M 417 [(0, .ref b), (1, .ref ox), (2, .int (nI P)), (3, .int (nI n)), (4, .int (nI g)), (5, .int (nI 1)), (6, .int (nI kx)), (7, .int (nI vx)), (8, .int (nI vy)), (9, .int (nI d)), (10, .int (nI sd)), (11, .int (nI 5))] [] := by
  have C := CX.1
  have hM0 := hS.lw
  obtain ⟨bn, bP, bd, bg, e2, e4, e1, e5⟩ := hM0.iv
  have hR1 := hR.1
  have hR2 := hR.2
  have hq1 : vy % P < P := Nat.mod_lt _ (by omega)
  have hr1 : vy / 32 % (P - 1) < P - 1 := Nat.mod_lt _ (by omega)
  obtain ⟨hne, hq2⟩ := tie_ne hq1 hr1
  refine VJ.iload C 8 dL_law_417 rfl ?_
  refine VJ.iload_n C 2 dL_law_419 rfl ?_
  refine VJ.irem C dL_law_420 (nz (by omega) (by omega)) ?_
  refine VJ.iv (y := nI (vy % P)) (nI_mod (by omega) (by omega)) ?_
  refine VJ.istore C [(14, .int (nI (vy % P))), (0, .ref b), (1, .ref ox), (2, .int (nI P)), (3, .int (nI n)), (4, .int (nI g)), (5, .int (nI 1)), (6, .int (nI kx)), (7, .int (nI vx)), (8, .int (nI vy)), (9, .int (nI d)), (10, .int (nI sd)), (11, .int (nI 5))] dL_law_421 (Nat.le_of_ble_eq_true rfl) rfl ?_
  refine VJ.iload C 0 dL_law_423 rfl ?_
  refine VJ.iconst (v := nI 1) C dL_law_425 (by decide) ?_
  refine VJ.iadd C dL_law_426 ?_
  refine VJ.iv (y := nI ((vy % P) + 1)) nI_ad ?_
  refine VJ.iload C 9 dL_law_427 rfl ?_
  refine VJ.bipush (v := nI 32) C dL_law_429 (by decide) ?_
  refine VJ.idiv C dL_law_431 (nz (by omega) (by omega)) ?_
  refine VJ.iv (y := nI (vy / 32)) (nI_div (by omega) (by omega)) ?_
  refine VJ.iload_n C 3 dL_law_432 rfl ?_
  refine VJ.iconst (v := nI 1) C dL_law_433 (by decide) ?_
  refine VJ.isub C dL_law_434 ?_
  refine VJ.iv (y := nI (P - 1)) (nI_sb (by omega)) ?_
  refine VJ.irem C dL_law_435 (nz (by omega) (by omega)) ?_
  refine VJ.iv (y := nI ((vy / 32) % (P - 1))) (nI_mod (by omega) (by omega)) ?_
  refine VJ.iadd C dL_law_436 ?_
  refine VJ.iv (y := nI (((vy % P) + 1) + ((vy / 32) % (P - 1)))) nI_ad ?_
  refine VJ.iload_n C 3 dL_law_437 rfl ?_
  refine VJ.irem C dL_law_438 (nz (by omega) (by omega)) ?_
  refine VJ.iv (y := nI ((((vy % P) + 1) + ((vy / 32) % (P - 1))) % P)) (nI_mod (by omega) (by omega)) ?_
  refine VJ.istore C [(15, .int (nI ((((vy % P) + 1) + ((vy / 32) % (P - 1))) % P))), (14, .int (nI (vy % P))), (0, .ref b), (1, .ref ox), (2, .int (nI P)), (3, .int (nI n)), (4, .int (nI g)), (5, .int (nI 1)), (6, .int (nI kx)), (7, .int (nI vx)), (8, .int (nI vy)), (9, .int (nI d)), (10, .int (nI sd)), (11, .int (nI 5))] dL_law_439 (Nat.le_of_ble_eq_true rfl) rfl ?_
  refine VJ.iload C 13 dL_law_441 rfl ?_
  refine VJ.iconst (v := nI 5) C dL_law_443 (by decide) ?_
  refine VJ.xicmp_ne_f C 451 (by decide) dL_law_444 (by decide) ?_
  refine VJ.iconst (v := nI 3) C dL_law_447 (by decide) ?_
  refine VJ.goto C 464 dL_law_448 (by decide) ?_
  refine VJ.istore C [(16, .int (nI 3)), (15, .int (nI ((((vy % P) + 1) + ((vy / 32) % (P - 1))) % P))), (14, .int (nI (vy % P))), (0, .ref b), (1, .ref ox), (2, .int (nI P)), (3, .int (nI n)), (4, .int (nI g)), (5, .int (nI 1)), (6, .int (nI kx)), (7, .int (nI vx)), (8, .int (nI vy)), (9, .int (nI d)), (10, .int (nI sd)), (11, .int (nI 5))] dL_law_464 (Nat.le_of_ble_eq_true rfl) rfl ?_
  refine VJ.aload_n C 4 dL_law_466 rfl ?_
  refine VJ.iload C 0 dL_law_467 rfl ?_
  refine VJ.iload C 2 dL_law_469 rfl ?_
  refine VJ.iload C 1 dL_law_471 rfl ?_
  refine VJ.iload C 13 dL_law_473 rfl ?_
  refine VJ.a_tie CX hN hM0 (by omega) (kd := nI 3) (Or.inl rfl) hq1 hq2 hne hsd (vx_cwSW 5 C.1.2.2.2.2 gL_law_L_tie rfl rfl rfl hy_L_tie ⟨Nat.le_of_ble_eq_true rfl, Nat.le_of_ble_eq_true rfl⟩) (Nat.le_of_ble_eq_true rfl) dL_law_475 ⟨by omega, by omega⟩ (fun M1 I1 R1 hM1 ic rc => ?_)
  have hS1 := hS.told hM1 (ic 7 (by omega) (by omega) (by omega)) (fun _ _ => rfl) (fun c c8 _ _ => rc c c8) (fun z => absurd z (by decide))
  refine VJ.iload_n C 6 dL_law_478 rfl ?_
  refine VJ.i2l C dL_law_479 ?_
  refine VJ.lce C (rfl) dL_law_480 ?_
  refine VJ.xif_ne_f C 514 (by decide) dL_law_481 (by decide) ?_
  refine VJ.aload_n C 4 dL_law_484 rfl ?_
  refine VJ.iload_n C 6 dL_law_485 rfl ?_
  refine VJ.iconst (v := nI 0) C dL_law_486 (by decide) ?_
  refine VJ.a_actk CX hN hM1 (show n < n + 1 by omega) (vx_cwSW 3 C.1.2.2.2.2 gL_law_L_actOf rfl rfl rfl hy_L_actOf ⟨Nat.le_of_ble_eq_true rfl, Nat.le_of_ble_eq_true rfl⟩) (Nat.le_of_ble_eq_true rfl) dL_law_487 ⟨by omega, by omega⟩ (fun M2 hM2 => ?_)
  refine VJ.lnv (y := (nI 3).toInt64) (by rw [rc 0 (by omega), tR0, if_pos rfl]) ?_
  refine VJ.iload C 0 dL_law_490 rfl ?_
  refine VJ.i2l C dL_law_492 ?_
  refine VJ.lce C (by decide) dL_law_493 ?_
  refine VJ.xif_ne_f C 514 (by decide) dL_law_494 (by decide) ?_
  refine VJ.aload_n C 4 dL_law_497 rfl ?_
  refine VJ.iload_n C 6 dL_law_498 rfl ?_
  refine VJ.iconst (v := nI 1) C dL_law_499 (by decide) ?_
  refine VJ.a_actt CX hN hM2 (show n < n + 1 by omega) (vx_cwSW 3 C.1.2.2.2.2 gL_law_L_actOf rfl rfl rfl hy_L_actOf ⟨Nat.le_of_ble_eq_true rfl, Nat.le_of_ble_eq_true rfl⟩) (Nat.le_of_ble_eq_true rfl) dL_law_500 ⟨by omega, by omega⟩ (fun M3 hM3 => ?_)
  refine VJ.lnv (y := (nI d).toInt64) (by rw [rc 1 (by omega), tR1, if_pos rfl]) ?_
  refine VJ.iload C 12 dL_law_503 rfl ?_
  refine VJ.i2l C dL_law_505 ?_
  refine VJ.lce C (rfl) dL_law_506 ?_
  refine VJ.xif_ne_f C 514 (by decide) dL_law_507 (by decide) ?_
  refine VJ.iconst (v := nI 1) C dL_law_510 (by decide) ?_
  refine VJ.goto C 515 dL_law_511 (by decide) ?_
  refine VJ.istore C [(5, .int (nI 1)), (16, .int (nI 3)), (15, .int (nI ((((vy % P) + 1) + ((vy / 32) % (P - 1))) % P))), (14, .int (nI (vy % P))), (0, .ref b), (1, .ref ox), (2, .int (nI P)), (3, .int (nI n)), (4, .int (nI g)), (6, .int (nI kx)), (7, .int (nI vx)), (8, .int (nI vy)), (9, .int (nI d)), (10, .int (nI sd)), (11, .int (nI 5))] dL_law_515 (Nat.le_of_ble_eq_true rfl) rfl ?_
  refine VJ.iinc C 7 (nI (n + 1)) [(3, .int (nI (n + 1))), (5, .int (nI 1)), (16, .int (nI 3)), (15, .int (nI ((((vy % P) + 1) + ((vy / 32) % (P - 1))) % P))), (14, .int (nI (vy % P))), (0, .ref b), (1, .ref ox), (2, .int (nI P)), (4, .int (nI g)), (6, .int (nI kx)), (7, .int (nI vx)), (8, .int (nI vy)), (9, .int (nI d)), (10, .int (nI sd)), (11, .int (nI 5))] dL_law_517 rfl nI_s9 (Nat.le_of_ble_eq_true rfl) rfl ?_
  refine VJ.goto C 1050 dL_law_520 (by decide) ?_
  refine VJ.sub [5, 6, 7, 0, 8, 1, 9, 10, 11] rfl ?_
  exact VJ.widen (by omega) (by omega) (kk _ _ _ _ _ _ _ _ ((hS1.with hM3).up (by omega)) (by omega) (by omega) (by omega) (by omega) (by omega) (by omega) (by omega) (by omega))
set_option maxHeartbeats 8000000 in
set_option maxRecDepth 100000 in
theorem lw_tie6 {p : Program} {l : Launch} {e : Env} {s : State} {m : MethodId} {args : Array Value} {below : List Frame} {meth : Method} {c : Code} {G : va_G} {cI cZ cQ cU cJ : ClassId} {A : Nat → Prop} {Qf : Unit → State → Prop} {cells slots b : Nat} {ox t n P d g kd kc kx vx vy sd : Nat} {I : OI} {R : RI} {M : va_W} (CX : CxX p l s m args meth c cL_law 23 wsL_law RL G vwCl (tys cI cZ cQ cU cJ) nws strs A) (hN : NC s) (hS : LSt cI cZ cQ cU t n P d g kd kc ox I R M) (bx : vx < 2147483648) (bv : vy < 2147483648) (hn60 : n < 60) (hg60 : g < 60) (hPn : P ≤ n) (hd0 : 10000 ≤ d) (hsd : sd ≤ d) (hR : cells + 300 ≤ room_1.cells ∧ slots + 3000 ≤ room_1.slots) (h3 : 3 ≤ P) (kk : ∀ (M' : va_W) (I' : OI) (R' : RI) (t' n' P' d' g' : Nat), LSt cI cZ cQ cU t' n' P' d' g' kd (kc + 1) ox I' R' M' → t' ≤ t + 3 → n ≤ n' → n' ≤ n + 1 → P ≤ P' → P' ≤ n' → d ≤ d' → g' ≤ g + 1 → (P' = P + 1 ∨ 3 ≤ P') → VJ p l e room_1 s m args below meth c 23 G vwCl A Qf (cells + 300) (slots + 3000) (some ()) M' 1050 [(0, .ref b), (1, .ref ox), (2, .int (nI P')), (3, .int (nI n')), (4, .int (nI g')), (5, .int (nI 1)), (6, .int (nI kx)), (7, .int (nI vx)), (8, .int (nI vy))] []) : VJ p l e room_1 s m args below meth c 23 G vwCl A Qf cells slots (some ()) M 417 [(0, .ref b), (1, .ref ox), (2, .int (nI P)), (3, .int (nI n)), (4, .int (nI g)), (5, .int (nI 1)), (6, .int (nI kx)), (7, .int (nI vx)), (8, .int (nI vy)), (9, .int (nI d)), (10, .int (nI sd)), (11, .int (nI 6))] [] := by
  have C := CX.1
  have hM0 := hS.lw
  obtain ⟨bn, bP, bd, bg, e2, e4, e1, e5⟩ := hM0.iv
  have hR1 := hR.1
  have hR2 := hR.2
  have hq1 : vy % P < P := Nat.mod_lt _ (by omega)
  have hr1 : vy / 32 % (P - 1) < P - 1 := Nat.mod_lt _ (by omega)
  obtain ⟨hne, hq2⟩ := tie_ne hq1 hr1
  refine VJ.iload C 8 dL_law_417 rfl ?_
  refine VJ.iload_n C 2 dL_law_419 rfl ?_
  refine VJ.irem C dL_law_420 (nz (by omega) (by omega)) ?_
  refine VJ.iv (y := nI (vy % P)) (nI_mod (by omega) (by omega)) ?_
  refine VJ.istore C [(14, .int (nI (vy % P))), (0, .ref b), (1, .ref ox), (2, .int (nI P)), (3, .int (nI n)), (4, .int (nI g)), (5, .int (nI 1)), (6, .int (nI kx)), (7, .int (nI vx)), (8, .int (nI vy)), (9, .int (nI d)), (10, .int (nI sd)), (11, .int (nI 6))] dL_law_421 (Nat.le_of_ble_eq_true rfl) rfl ?_
  refine VJ.iload C 0 dL_law_423 rfl ?_
  refine VJ.iconst (v := nI 1) C dL_law_425 (by decide) ?_
  refine VJ.iadd C dL_law_426 ?_
  refine VJ.iv (y := nI ((vy % P) + 1)) nI_ad ?_
  refine VJ.iload C 9 dL_law_427 rfl ?_
  refine VJ.bipush (v := nI 32) C dL_law_429 (by decide) ?_
  refine VJ.idiv C dL_law_431 (nz (by omega) (by omega)) ?_
  refine VJ.iv (y := nI (vy / 32)) (nI_div (by omega) (by omega)) ?_
  refine VJ.iload_n C 3 dL_law_432 rfl ?_
  refine VJ.iconst (v := nI 1) C dL_law_433 (by decide) ?_
  refine VJ.isub C dL_law_434 ?_
  refine VJ.iv (y := nI (P - 1)) (nI_sb (by omega)) ?_
  refine VJ.irem C dL_law_435 (nz (by omega) (by omega)) ?_
  refine VJ.iv (y := nI ((vy / 32) % (P - 1))) (nI_mod (by omega) (by omega)) ?_
  refine VJ.iadd C dL_law_436 ?_
  refine VJ.iv (y := nI (((vy % P) + 1) + ((vy / 32) % (P - 1)))) nI_ad ?_
  refine VJ.iload_n C 3 dL_law_437 rfl ?_
  refine VJ.irem C dL_law_438 (nz (by omega) (by omega)) ?_
  refine VJ.iv (y := nI ((((vy % P) + 1) + ((vy / 32) % (P - 1))) % P)) (nI_mod (by omega) (by omega)) ?_
  refine VJ.istore C [(15, .int (nI ((((vy % P) + 1) + ((vy / 32) % (P - 1))) % P))), (14, .int (nI (vy % P))), (0, .ref b), (1, .ref ox), (2, .int (nI P)), (3, .int (nI n)), (4, .int (nI g)), (5, .int (nI 1)), (6, .int (nI kx)), (7, .int (nI vx)), (8, .int (nI vy)), (9, .int (nI d)), (10, .int (nI sd)), (11, .int (nI 6))] dL_law_439 (Nat.le_of_ble_eq_true rfl) rfl ?_
  refine VJ.iload C 13 dL_law_441 rfl ?_
  refine VJ.iconst (v := nI 5) C dL_law_443 (by decide) ?_
  refine VJ.xicmp_ne_t C 451 (by decide) dL_law_444 (by decide) ?_
  refine VJ.iload C 13 dL_law_451 rfl ?_
  refine VJ.bipush (v := nI 6) C dL_law_453 (by decide) ?_
  refine VJ.xicmp_ne_f C 462 (by decide) dL_law_455 (by decide) ?_
  refine VJ.iconst (v := nI 4) C dL_law_458 (by decide) ?_
  refine VJ.goto C 464 dL_law_459 (by decide) ?_
  refine VJ.istore C [(16, .int (nI 4)), (15, .int (nI ((((vy % P) + 1) + ((vy / 32) % (P - 1))) % P))), (14, .int (nI (vy % P))), (0, .ref b), (1, .ref ox), (2, .int (nI P)), (3, .int (nI n)), (4, .int (nI g)), (5, .int (nI 1)), (6, .int (nI kx)), (7, .int (nI vx)), (8, .int (nI vy)), (9, .int (nI d)), (10, .int (nI sd)), (11, .int (nI 6))] dL_law_464 (Nat.le_of_ble_eq_true rfl) rfl ?_
  refine VJ.aload_n C 4 dL_law_466 rfl ?_
  refine VJ.iload C 0 dL_law_467 rfl ?_
  refine VJ.iload C 2 dL_law_469 rfl ?_
  refine VJ.iload C 1 dL_law_471 rfl ?_
  refine VJ.iload C 13 dL_law_473 rfl ?_
  refine VJ.a_tie CX hN hM0 (by omega) (kd := nI 4) (Or.inr (Or.inl rfl)) hq1 hq2 hne hsd (vx_cwSW 5 C.1.2.2.2.2 gL_law_L_tie rfl rfl rfl hy_L_tie ⟨Nat.le_of_ble_eq_true rfl, Nat.le_of_ble_eq_true rfl⟩) (Nat.le_of_ble_eq_true rfl) dL_law_475 ⟨by omega, by omega⟩ (fun M1 I1 R1 hM1 ic rc => ?_)
  have hS1 := hS.told hM1 (ic 7 (by omega) (by omega) (by omega)) (fun _ _ => rfl) (fun c c8 _ _ => rc c c8) (fun z => absurd z (by decide))
  refine VJ.iload_n C 6 dL_law_478 rfl ?_
  refine VJ.i2l C dL_law_479 ?_
  refine VJ.lce C (rfl) dL_law_480 ?_
  refine VJ.xif_ne_f C 514 (by decide) dL_law_481 (by decide) ?_
  refine VJ.aload_n C 4 dL_law_484 rfl ?_
  refine VJ.iload_n C 6 dL_law_485 rfl ?_
  refine VJ.iconst (v := nI 0) C dL_law_486 (by decide) ?_
  refine VJ.a_actk CX hN hM1 (show n < n + 1 by omega) (vx_cwSW 3 C.1.2.2.2.2 gL_law_L_actOf rfl rfl rfl hy_L_actOf ⟨Nat.le_of_ble_eq_true rfl, Nat.le_of_ble_eq_true rfl⟩) (Nat.le_of_ble_eq_true rfl) dL_law_487 ⟨by omega, by omega⟩ (fun M2 hM2 => ?_)
  refine VJ.lnv (y := (nI 4).toInt64) (by rw [rc 0 (by omega), tR0, if_pos rfl]) ?_
  refine VJ.iload C 0 dL_law_490 rfl ?_
  refine VJ.i2l C dL_law_492 ?_
  refine VJ.lce C (by decide) dL_law_493 ?_
  refine VJ.xif_ne_f C 514 (by decide) dL_law_494 (by decide) ?_
  refine VJ.aload_n C 4 dL_law_497 rfl ?_
  refine VJ.iload_n C 6 dL_law_498 rfl ?_
  refine VJ.iconst (v := nI 1) C dL_law_499 (by decide) ?_
  refine VJ.a_actt CX hN hM2 (show n < n + 1 by omega) (vx_cwSW 3 C.1.2.2.2.2 gL_law_L_actOf rfl rfl rfl hy_L_actOf ⟨Nat.le_of_ble_eq_true rfl, Nat.le_of_ble_eq_true rfl⟩) (Nat.le_of_ble_eq_true rfl) dL_law_500 ⟨by omega, by omega⟩ (fun M3 hM3 => ?_)
  refine VJ.lnv (y := (nI d).toInt64) (by rw [rc 1 (by omega), tR1, if_pos rfl]) ?_
  refine VJ.iload C 12 dL_law_503 rfl ?_
  refine VJ.i2l C dL_law_505 ?_
  refine VJ.lce C (rfl) dL_law_506 ?_
  refine VJ.xif_ne_f C 514 (by decide) dL_law_507 (by decide) ?_
  refine VJ.iconst (v := nI 1) C dL_law_510 (by decide) ?_
  refine VJ.goto C 515 dL_law_511 (by decide) ?_
  refine VJ.istore C [(5, .int (nI 1)), (16, .int (nI 4)), (15, .int (nI ((((vy % P) + 1) + ((vy / 32) % (P - 1))) % P))), (14, .int (nI (vy % P))), (0, .ref b), (1, .ref ox), (2, .int (nI P)), (3, .int (nI n)), (4, .int (nI g)), (6, .int (nI kx)), (7, .int (nI vx)), (8, .int (nI vy)), (9, .int (nI d)), (10, .int (nI sd)), (11, .int (nI 6))] dL_law_515 (Nat.le_of_ble_eq_true rfl) rfl ?_
  refine VJ.iinc C 7 (nI (n + 1)) [(3, .int (nI (n + 1))), (5, .int (nI 1)), (16, .int (nI 4)), (15, .int (nI ((((vy % P) + 1) + ((vy / 32) % (P - 1))) % P))), (14, .int (nI (vy % P))), (0, .ref b), (1, .ref ox), (2, .int (nI P)), (4, .int (nI g)), (6, .int (nI kx)), (7, .int (nI vx)), (8, .int (nI vy)), (9, .int (nI d)), (10, .int (nI sd)), (11, .int (nI 6))] dL_law_517 rfl nI_s9 (Nat.le_of_ble_eq_true rfl) rfl ?_
  refine VJ.goto C 1050 dL_law_520 (by decide) ?_
  refine VJ.sub [5, 6, 7, 0, 8, 1, 9, 10, 11] rfl ?_
  exact VJ.widen (by omega) (by omega) (kk _ _ _ _ _ _ _ _ ((hS1.with hM3).up (by omega)) (by omega) (by omega) (by omega) (by omega) (by omega) (by omega) (by omega) (by omega))
set_option maxHeartbeats 8000000 in
set_option maxRecDepth 100000 in
theorem lw_tie7 {p : Program} {l : Launch} {e : Env} {s : State} {m : MethodId} {args : Array Value} {below : List Frame} {meth : Method} {c : Code} {G : va_G} {cI cZ cQ cU cJ : ClassId} {A : Nat → Prop} {Qf : Unit → State → Prop} {cells slots b : Nat} {ox t n P d g kd kc kx vx vy sd : Nat} {I : OI} {R : RI} {M : va_W} (CX : CxX p l s m args meth c cL_law 23 wsL_law RL G vwCl (tys cI cZ cQ cU cJ) nws strs A) (hN : NC s) (hS : LSt cI cZ cQ cU t n P d g kd kc ox I R M) (bx : vx < 2147483648) (bv : vy < 2147483648) (hn60 : n < 60) (hg60 : g < 60) (hPn : P ≤ n) (hd0 : 10000 ≤ d) (hsd : sd ≤ d) (hR : cells + 300 ≤ room_1.cells ∧ slots + 3000 ≤ room_1.slots) (h3 : 3 ≤ P) (kk : ∀ (M' : va_W) (I' : OI) (R' : RI) (t' n' P' d' g' : Nat), LSt cI cZ cQ cU t' n' P' d' g' kd (kc + 1) ox I' R' M' → t' ≤ t + 3 → n ≤ n' → n' ≤ n + 1 → P ≤ P' → P' ≤ n' → d ≤ d' → g' ≤ g + 1 → (P' = P + 1 ∨ 3 ≤ P') → VJ p l e room_1 s m args below meth c 23 G vwCl A Qf (cells + 300) (slots + 3000) (some ()) M' 1050 [(0, .ref b), (1, .ref ox), (2, .int (nI P')), (3, .int (nI n')), (4, .int (nI g')), (5, .int (nI 1)), (6, .int (nI kx)), (7, .int (nI vx)), (8, .int (nI vy))] []) : VJ p l e room_1 s m args below meth c 23 G vwCl A Qf cells slots (some ()) M 417 [(0, .ref b), (1, .ref ox), (2, .int (nI P)), (3, .int (nI n)), (4, .int (nI g)), (5, .int (nI 1)), (6, .int (nI kx)), (7, .int (nI vx)), (8, .int (nI vy)), (9, .int (nI d)), (10, .int (nI sd)), (11, .int (nI 7))] [] := by
  have C := CX.1
  have hM0 := hS.lw
  obtain ⟨bn, bP, bd, bg, e2, e4, e1, e5⟩ := hM0.iv
  have hR1 := hR.1
  have hR2 := hR.2
  have hq1 : vy % P < P := Nat.mod_lt _ (by omega)
  have hr1 : vy / 32 % (P - 1) < P - 1 := Nat.mod_lt _ (by omega)
  obtain ⟨hne, hq2⟩ := tie_ne hq1 hr1
  refine VJ.iload C 8 dL_law_417 rfl ?_
  refine VJ.iload_n C 2 dL_law_419 rfl ?_
  refine VJ.irem C dL_law_420 (nz (by omega) (by omega)) ?_
  refine VJ.iv (y := nI (vy % P)) (nI_mod (by omega) (by omega)) ?_
  refine VJ.istore C [(14, .int (nI (vy % P))), (0, .ref b), (1, .ref ox), (2, .int (nI P)), (3, .int (nI n)), (4, .int (nI g)), (5, .int (nI 1)), (6, .int (nI kx)), (7, .int (nI vx)), (8, .int (nI vy)), (9, .int (nI d)), (10, .int (nI sd)), (11, .int (nI 7))] dL_law_421 (Nat.le_of_ble_eq_true rfl) rfl ?_
  refine VJ.iload C 0 dL_law_423 rfl ?_
  refine VJ.iconst (v := nI 1) C dL_law_425 (by decide) ?_
  refine VJ.iadd C dL_law_426 ?_
  refine VJ.iv (y := nI ((vy % P) + 1)) nI_ad ?_
  refine VJ.iload C 9 dL_law_427 rfl ?_
  refine VJ.bipush (v := nI 32) C dL_law_429 (by decide) ?_
  refine VJ.idiv C dL_law_431 (nz (by omega) (by omega)) ?_
  refine VJ.iv (y := nI (vy / 32)) (nI_div (by omega) (by omega)) ?_
  refine VJ.iload_n C 3 dL_law_432 rfl ?_
  refine VJ.iconst (v := nI 1) C dL_law_433 (by decide) ?_
  refine VJ.isub C dL_law_434 ?_
  refine VJ.iv (y := nI (P - 1)) (nI_sb (by omega)) ?_
  refine VJ.irem C dL_law_435 (nz (by omega) (by omega)) ?_
  refine VJ.iv (y := nI ((vy / 32) % (P - 1))) (nI_mod (by omega) (by omega)) ?_
  refine VJ.iadd C dL_law_436 ?_
  refine VJ.iv (y := nI (((vy % P) + 1) + ((vy / 32) % (P - 1)))) nI_ad ?_
  refine VJ.iload_n C 3 dL_law_437 rfl ?_
  refine VJ.irem C dL_law_438 (nz (by omega) (by omega)) ?_
  refine VJ.iv (y := nI ((((vy % P) + 1) + ((vy / 32) % (P - 1))) % P)) (nI_mod (by omega) (by omega)) ?_
  refine VJ.istore C [(15, .int (nI ((((vy % P) + 1) + ((vy / 32) % (P - 1))) % P))), (14, .int (nI (vy % P))), (0, .ref b), (1, .ref ox), (2, .int (nI P)), (3, .int (nI n)), (4, .int (nI g)), (5, .int (nI 1)), (6, .int (nI kx)), (7, .int (nI vx)), (8, .int (nI vy)), (9, .int (nI d)), (10, .int (nI sd)), (11, .int (nI 7))] dL_law_439 (Nat.le_of_ble_eq_true rfl) rfl ?_
  refine VJ.iload C 13 dL_law_441 rfl ?_
  refine VJ.iconst (v := nI 5) C dL_law_443 (by decide) ?_
  refine VJ.xicmp_ne_t C 451 (by decide) dL_law_444 (by decide) ?_
  refine VJ.iload C 13 dL_law_451 rfl ?_
  refine VJ.bipush (v := nI 6) C dL_law_453 (by decide) ?_
  refine VJ.xicmp_ne_t C 462 (by decide) dL_law_455 (by decide) ?_
  refine VJ.bipush (v := nI 6) C dL_law_462 (by decide) ?_
  refine VJ.istore C [(16, .int (nI 6)), (15, .int (nI ((((vy % P) + 1) + ((vy / 32) % (P - 1))) % P))), (14, .int (nI (vy % P))), (0, .ref b), (1, .ref ox), (2, .int (nI P)), (3, .int (nI n)), (4, .int (nI g)), (5, .int (nI 1)), (6, .int (nI kx)), (7, .int (nI vx)), (8, .int (nI vy)), (9, .int (nI d)), (10, .int (nI sd)), (11, .int (nI 7))] dL_law_464 (Nat.le_of_ble_eq_true rfl) rfl ?_
  refine VJ.aload_n C 4 dL_law_466 rfl ?_
  refine VJ.iload C 0 dL_law_467 rfl ?_
  refine VJ.iload C 2 dL_law_469 rfl ?_
  refine VJ.iload C 1 dL_law_471 rfl ?_
  refine VJ.iload C 13 dL_law_473 rfl ?_
  refine VJ.a_tie CX hN hM0 (by omega) (kd := nI 6) (Or.inr (Or.inr rfl)) hq1 hq2 hne hsd (vx_cwSW 5 C.1.2.2.2.2 gL_law_L_tie rfl rfl rfl hy_L_tie ⟨Nat.le_of_ble_eq_true rfl, Nat.le_of_ble_eq_true rfl⟩) (Nat.le_of_ble_eq_true rfl) dL_law_475 ⟨by omega, by omega⟩ (fun M1 I1 R1 hM1 ic rc => ?_)
  have hS1 := hS.told hM1 (ic 7 (by omega) (by omega) (by omega)) (fun _ _ => rfl) (fun c c8 _ _ => rc c c8) (fun z => absurd z (by decide))
  refine VJ.iload_n C 6 dL_law_478 rfl ?_
  refine VJ.i2l C dL_law_479 ?_
  refine VJ.lce C (rfl) dL_law_480 ?_
  refine VJ.xif_ne_f C 514 (by decide) dL_law_481 (by decide) ?_
  refine VJ.aload_n C 4 dL_law_484 rfl ?_
  refine VJ.iload_n C 6 dL_law_485 rfl ?_
  refine VJ.iconst (v := nI 0) C dL_law_486 (by decide) ?_
  refine VJ.a_actk CX hN hM1 (show n < n + 1 by omega) (vx_cwSW 3 C.1.2.2.2.2 gL_law_L_actOf rfl rfl rfl hy_L_actOf ⟨Nat.le_of_ble_eq_true rfl, Nat.le_of_ble_eq_true rfl⟩) (Nat.le_of_ble_eq_true rfl) dL_law_487 ⟨by omega, by omega⟩ (fun M2 hM2 => ?_)
  refine VJ.lnv (y := (nI 6).toInt64) (by rw [rc 0 (by omega), tR0, if_pos rfl]) ?_
  refine VJ.iload C 0 dL_law_490 rfl ?_
  refine VJ.i2l C dL_law_492 ?_
  refine VJ.lce C (by decide) dL_law_493 ?_
  refine VJ.xif_ne_f C 514 (by decide) dL_law_494 (by decide) ?_
  refine VJ.aload_n C 4 dL_law_497 rfl ?_
  refine VJ.iload_n C 6 dL_law_498 rfl ?_
  refine VJ.iconst (v := nI 1) C dL_law_499 (by decide) ?_
  refine VJ.a_actt CX hN hM2 (show n < n + 1 by omega) (vx_cwSW 3 C.1.2.2.2.2 gL_law_L_actOf rfl rfl rfl hy_L_actOf ⟨Nat.le_of_ble_eq_true rfl, Nat.le_of_ble_eq_true rfl⟩) (Nat.le_of_ble_eq_true rfl) dL_law_500 ⟨by omega, by omega⟩ (fun M3 hM3 => ?_)
  refine VJ.lnv (y := (nI d).toInt64) (by rw [rc 1 (by omega), tR1, if_pos rfl]) ?_
  refine VJ.iload C 12 dL_law_503 rfl ?_
  refine VJ.i2l C dL_law_505 ?_
  refine VJ.lce C (rfl) dL_law_506 ?_
  refine VJ.xif_ne_f C 514 (by decide) dL_law_507 (by decide) ?_
  refine VJ.iconst (v := nI 1) C dL_law_510 (by decide) ?_
  refine VJ.goto C 515 dL_law_511 (by decide) ?_
  refine VJ.istore C [(5, .int (nI 1)), (16, .int (nI 6)), (15, .int (nI ((((vy % P) + 1) + ((vy / 32) % (P - 1))) % P))), (14, .int (nI (vy % P))), (0, .ref b), (1, .ref ox), (2, .int (nI P)), (3, .int (nI n)), (4, .int (nI g)), (6, .int (nI kx)), (7, .int (nI vx)), (8, .int (nI vy)), (9, .int (nI d)), (10, .int (nI sd)), (11, .int (nI 7))] dL_law_515 (Nat.le_of_ble_eq_true rfl) rfl ?_
  refine VJ.iinc C 7 (nI (n + 1)) [(3, .int (nI (n + 1))), (5, .int (nI 1)), (16, .int (nI 6)), (15, .int (nI ((((vy % P) + 1) + ((vy / 32) % (P - 1))) % P))), (14, .int (nI (vy % P))), (0, .ref b), (1, .ref ox), (2, .int (nI P)), (4, .int (nI g)), (6, .int (nI kx)), (7, .int (nI vx)), (8, .int (nI vy)), (9, .int (nI d)), (10, .int (nI sd)), (11, .int (nI 7))] dL_law_517 rfl nI_s9 (Nat.le_of_ble_eq_true rfl) rfl ?_
  refine VJ.goto C 1050 dL_law_520 (by decide) ?_
  refine VJ.sub [5, 6, 7, 0, 8, 1, 9, 10, 11] rfl ?_
  exact VJ.widen (by omega) (by omega) (kk _ _ _ _ _ _ _ _ ((hS1.with hM3).up (by omega)) (by omega) (by omega) (by omega) (by omega) (by omega) (by omega) (by omega) (by omega))
set_option maxHeartbeats 8000000 in
set_option maxRecDepth 100000 in
theorem lw_join {p : Program} {l : Launch} {e : Env} {s : State} {m : MethodId} {args : Array Value} {below : List Frame} {meth : Method} {c : Code} {G : va_G} {cI cZ cQ cU cJ : ClassId} {A : Nat → Prop} {Qf : Unit → State → Prop} {cells slots b : Nat} {ox t n P d g kd kc kx vx vy sd : Nat} {I : OI} {R : RI} {M : va_W} (CX : CxX p l s m args meth c cL_law 23 wsL_law RL G vwCl (tys cI cZ cQ cU cJ) nws strs A) (hN : NC s) (hS : LSt cI cZ cQ cU t n P d g kd kc ox I R M) (bx : vx < 2147483648) (bv : vy < 2147483648) (hn60 : n < 60) (hg60 : g < 60) (hPn : P ≤ n) (hd0 : 10000 ≤ d) (hsd : sd ≤ d) (hR : cells + 300 ≤ room_1.cells ∧ slots + 3000 ≤ room_1.slots) (h3 : 3 ≤ P) (kk : ∀ (M' : va_W) (I' : OI) (R' : RI) (t' n' P' d' g' : Nat), LSt cI cZ cQ cU t' n' P' d' g' kd (kc + 1) ox I' R' M' → t' ≤ t + 3 → n ≤ n' → n' ≤ n + 1 → P ≤ P' → P' ≤ n' → d ≤ d' → g' ≤ g + 1 → (P' = P + 1 ∨ 3 ≤ P') → VJ p l e room_1 s m args below meth c 23 G vwCl A Qf (cells + 300) (slots + 3000) (some ()) M' 1050 [(0, .ref b), (1, .ref ox), (2, .int (nI P')), (3, .int (nI n')), (4, .int (nI g')), (5, .int (nI 1)), (6, .int (nI kx)), (7, .int (nI vx)), (8, .int (nI vy))] []) : VJ p l e room_1 s m args below meth c 23 G vwCl A Qf cells slots (some ()) M 566 [(0, .ref b), (1, .ref ox), (2, .int (nI P)), (3, .int (nI n)), (4, .int (nI g)), (5, .int (nI 1)), (6, .int (nI kx)), (7, .int (nI vx)), (8, .int (nI vy)), (9, .int (nI d)), (10, .int (nI sd))] [] := by
  have C := CX.1
  have hM0 := hS.lw
  obtain ⟨bn, bP, bd, bg, e2, e4, e1, e5⟩ := hM0.iv
  have hR1 := hR.1
  have hR2 := hR.2
  have hq1 : vy % (P - 1) < P - 1 := Nat.mod_lt _ (by omega)
  have hr1 : vy / 32 % (P - 1 - vy % (P - 1)) < P - 1 - vy % (P - 1) := Nat.mod_lt _ (by omega)
  refine VJ.iload C 8 dL_law_566 rfl ?_
  refine VJ.iload_n C 2 dL_law_568 rfl ?_
  refine VJ.iconst (v := nI 1) C dL_law_569 (by decide) ?_
  refine VJ.isub C dL_law_570 ?_
  refine VJ.iv (y := nI (P - 1)) (nI_sb (by omega)) ?_
  refine VJ.irem C dL_law_571 (nz (by omega) (by omega)) ?_
  refine VJ.iv (y := nI (vy % (P - 1))) (nI_mod (by omega) (by omega)) ?_
  refine VJ.istore C [(14, .int (nI (vy % (P - 1)))), (0, .ref b), (1, .ref ox), (2, .int (nI P)), (3, .int (nI n)), (4, .int (nI g)), (5, .int (nI 1)), (6, .int (nI kx)), (7, .int (nI vx)), (8, .int (nI vy)), (9, .int (nI d)), (10, .int (nI sd))] dL_law_572 (Nat.le_of_ble_eq_true rfl) rfl ?_
  refine VJ.iload C 0 dL_law_574 rfl ?_
  refine VJ.iconst (v := nI 1) C dL_law_576 (by decide) ?_
  refine VJ.iadd C dL_law_577 ?_
  refine VJ.iv (y := nI ((vy % (P - 1)) + 1)) nI_ad ?_
  refine VJ.iload C 9 dL_law_578 rfl ?_
  refine VJ.bipush (v := nI 32) C dL_law_580 (by decide) ?_
  refine VJ.idiv C dL_law_582 (nz (by omega) (by omega)) ?_
  refine VJ.iv (y := nI (vy / 32)) (nI_div (by omega) (by omega)) ?_
  refine VJ.iload_n C 3 dL_law_583 rfl ?_
  refine VJ.iconst (v := nI 1) C dL_law_584 (by decide) ?_
  refine VJ.isub C dL_law_585 ?_
  refine VJ.iv (y := nI (P - 1)) (nI_sb (by omega)) ?_
  refine VJ.iload C 0 dL_law_586 rfl ?_
  refine VJ.isub C dL_law_588 ?_
  refine VJ.iv (y := nI ((P - 1) - (vy % (P - 1)))) (nI_sb (by omega)) ?_
  refine VJ.irem C dL_law_589 (nz (by omega) (by omega)) ?_
  refine VJ.iv (y := nI ((vy / 32) % ((P - 1) - (vy % (P - 1))))) (nI_mod (by omega) (by omega)) ?_
  refine VJ.iadd C dL_law_590 ?_
  refine VJ.iv (y := nI (((vy % (P - 1)) + 1) + ((vy / 32) % ((P - 1) - (vy % (P - 1)))))) nI_ad ?_
  refine VJ.istore C [(15, .int (nI (((vy % (P - 1)) + 1) + ((vy / 32) % ((P - 1) - (vy % (P - 1))))))), (14, .int (nI (vy % (P - 1)))), (0, .ref b), (1, .ref ox), (2, .int (nI P)), (3, .int (nI n)), (4, .int (nI g)), (5, .int (nI 1)), (6, .int (nI kx)), (7, .int (nI vx)), (8, .int (nI vy)), (9, .int (nI d)), (10, .int (nI sd))] dL_law_591 (Nat.le_of_ble_eq_true rfl) rfl ?_
  refine VJ.aload_n C 3 dL_law_593 rfl ?_
  refine VJ.iload C 1 dL_law_594 rfl ?_
  refine VJ.iload C 0 dL_law_596 rfl ?_
  refine VJ.a_join CX hN hM0 (by omega) (by omega) (by omega) (vx_cwSW 3 C.1.2.2.2.2 gL_law_L_join rfl rfl rfl hy_L_join ⟨Nat.le_of_ble_eq_true rfl, Nat.le_of_ble_eq_true rfl⟩) (Nat.le_of_ble_eq_true rfl) dL_law_598 ⟨by omega, by omega⟩ (fun M1 I1 R1 hM1 ic rc => ?_)
  have hS1 := hS.told hM1 (ic 7 (by omega) (by omega) (by omega)) (fun _ _ => rfl) (fun c c8 _ _ => rc c c8) (fun z => absurd z (by decide))
  obtain ⟨Rl, lo, L, hj3⟩ := hM1.land hS1.nx (s := d) (by omega) d
  have h33 : Rl 1 (vy % (P - 1) + 1 + vy / 32 % (P - 1 - vy % (P - 1))) = 3 := hj3 n _ (by omega) (by omega) (by rw [rc 0 (by omega), tR0, if_pos rfl]) ⟨by rw [rc 1 (by omega), tR1, if_pos rfl]; exact Int32.le_refl _, Or.inl (by rw [rc 7 (by omega), tR7, if_pos rfl])⟩ (by rw [rc 4 (by omega), tR4, if_pos rfl])
  have t0 : tv Rl d lo (vy % (P - 1) + 1 + vy / 32 % (P - 1 - vy % (P - 1))) 0 = nI 3 := h33
  have t1 : tv Rl d lo (vy % (P - 1) + 1 + vy / 32 % (P - 1 - vy % (P - 1))) 1 = -1 := by
    rcases L.cases bP (by omega) (show (vy % (P - 1) + 1 + vy / 32 % (P - 1 - vy % (P - 1))) < P by omega) with ⟨-, t1, -⟩ | ⟨t9, -⟩ | ⟨t9, -⟩
    · exact t1
    · exact absurd (t0.symm.trans t9) (by decide)
    · exact absurd (t0.symm.trans t9) (by decide)
  refine VJ.iload_n C 5 dL_law_601 rfl ?_
  refine VJ.i2l C dL_law_602 ?_
  refine VJ.lce C (rfl) dL_law_603 ?_
  refine VJ.xif_ne_f C 666 (by decide) dL_law_604 (by decide) ?_
  refine VJ.aload_n C 3 dL_law_607 rfl ?_
  refine VJ.iload C 0 dL_law_608 rfl ?_
  refine VJ.iconst (v := nI 0) C dL_law_610 (by decide) ?_
  refine VJ.a_now (w := 0) CX hN hM1 L (show (vy % (P - 1) + 1 + vy / 32 % (P - 1 - vy % (P - 1))) < P by omega) (by omega) (vx_cwSW 3 C.1.2.2.2.2 gL_law_L_now rfl rfl rfl hy_L_now ⟨Nat.le_of_ble_eq_true rfl, Nat.le_of_ble_eq_true rfl⟩) (Nat.le_of_ble_eq_true rfl) dL_law_611 ⟨by omega, by omega⟩ (fun M2 hM2 => ?_)
  refine VJ.lnv (y := (nI 3).toInt64) (congrArg Int32.toInt64 t0) ?_
  refine VJ.ldc2 (v := 3) C (C.1.2.2.2.2 _ lwk_120) dL_law_614 ?_
  refine VJ.lnv (y := (nI 3).toInt64) (by decide) ?_
  refine VJ.lce C (by decide) dL_law_617 ?_
  refine VJ.xif_ne_f C 666 (by decide) dL_law_618 (by decide) ?_
  refine VJ.aload_n C 3 dL_law_621 rfl ?_
  refine VJ.iload C 0 dL_law_622 rfl ?_
  refine VJ.iconst (v := nI 1) C dL_law_624 (by decide) ?_
  refine VJ.a_now (w := 1) CX hN hM2 L (show (vy % (P - 1) + 1 + vy / 32 % (P - 1 - vy % (P - 1))) < P by omega) (by omega) (vx_cwSW 3 C.1.2.2.2.2 gL_law_L_now rfl rfl rfl hy_L_now ⟨Nat.le_of_ble_eq_true rfl, Nat.le_of_ble_eq_true rfl⟩) (Nat.le_of_ble_eq_true rfl) dL_law_625 ⟨by omega, by omega⟩ (fun M3 hM3 => ?_)
  refine VJ.lnv (y := (-1 : Int32).toInt64) (congrArg Int32.toInt64 t1) ?_
  refine VJ.ldc2 (v := -1) C (C.1.2.2.2.2 _ lwk_124) dL_law_628 ?_
  refine VJ.lnv (y := (-1 : Int32).toInt64) (by decide) ?_
  refine VJ.lce C (by decide) dL_law_631 ?_
  refine VJ.xif_ne_f C 666 (by decide) dL_law_632 (by decide) ?_
  refine VJ.aload_n C 3 dL_law_635 rfl ?_
  refine VJ.iload C 1 dL_law_636 rfl ?_
  refine VJ.iload C 0 dL_law_638 rfl ?_
  refine VJ.a_likeness CX hN hM3 L (show vy % (P - 1) < P by omega) (show (vy % (P - 1) + 1 + vy / 32 % (P - 1 - vy % (P - 1))) < P by omega) (by omega) h33 (vx_cwSW 3 C.1.2.2.2.2 gL_law_L_likeness rfl rfl rfl hy_L_likeness ⟨Nat.le_of_ble_eq_true rfl, Nat.le_of_ble_eq_true rfl⟩) (Nat.le_of_ble_eq_true rfl) dL_law_640 ⟨by omega, by omega⟩ (fun M4 hM4 => ?_)
  refine VJ.lnv (y := (nI 0).toInt64) (by decide) ?_
  refine VJ.lconst (v := (nI 0).toInt64) C dL_law_643 (by decide) ?_
  refine VJ.lce C (by decide) dL_law_644 ?_
  refine VJ.xif_ne_f C 666 (by decide) dL_law_645 (by decide) ?_
  refine VJ.aload_n C 3 dL_law_648 rfl ?_
  refine VJ.iload C 0 dL_law_649 rfl ?_
  refine VJ.iconst (v := (-1)) C dL_law_651 (by decide) ?_
  refine VJ.a_origin CX hN hM4 L (show (vy % (P - 1) + 1 + vy / 32 % (P - 1 - vy % (P - 1))) < P by omega) h33 (vx_cwSW 3 C.1.2.2.2.2 gL_law_L_origin rfl rfl rfl hy_L_origin ⟨Nat.le_of_ble_eq_true rfl, Nat.le_of_ble_eq_true rfl⟩) (Nat.le_of_ble_eq_true rfl) dL_law_652 ⟨by omega, by omega⟩ (fun M5 hM5 => ?_)
  refine VJ.ldc2 (v := -1) C (C.1.2.2.2.2 _ lwk_124) dL_law_655 ?_
  refine VJ.lnv (y := (-1 : Int32).toInt64) (by decide) ?_
  refine VJ.lce C (by decide) dL_law_658 ?_
  refine VJ.xif_ne_f C 666 (by decide) dL_law_659 (by decide) ?_
  refine VJ.iconst (v := nI 1) C dL_law_662 (by decide) ?_
  refine VJ.goto C 667 dL_law_663 (by decide) ?_
  refine VJ.istore C [(5, .int (nI 1)), (15, .int (nI (((vy % (P - 1)) + 1) + ((vy / 32) % ((P - 1) - (vy % (P - 1))))))), (14, .int (nI (vy % (P - 1)))), (0, .ref b), (1, .ref ox), (2, .int (nI P)), (3, .int (nI n)), (4, .int (nI g)), (6, .int (nI kx)), (7, .int (nI vx)), (8, .int (nI vy)), (9, .int (nI d)), (10, .int (nI sd))] dL_law_667 (Nat.le_of_ble_eq_true rfl) rfl ?_
  refine VJ.iinc C 6 (nI (n + 1)) [(3, .int (nI (n + 1))), (5, .int (nI 1)), (15, .int (nI (((vy % (P - 1)) + 1) + ((vy / 32) % ((P - 1) - (vy % (P - 1))))))), (14, .int (nI (vy % (P - 1)))), (0, .ref b), (1, .ref ox), (2, .int (nI P)), (4, .int (nI g)), (6, .int (nI kx)), (7, .int (nI vx)), (8, .int (nI vy)), (9, .int (nI d)), (10, .int (nI sd))] dL_law_669 rfl nI_s9 (Nat.le_of_ble_eq_true rfl) rfl ?_
  refine VJ.goto C 1050 dL_law_672 (by decide) ?_
  refine VJ.sub [4, 5, 6, 0, 7, 1, 8, 9, 10] rfl ?_
  exact VJ.widen (by omega) (by omega) (kk _ _ _ _ _ _ _ _ ((hS1.with hM5).up (by omega)) (by omega) (by omega) (by omega) (by omega) (by omega) (by omega) (by omega) (by omega))
set_option maxHeartbeats 8000000 in
set_option maxRecDepth 100000 in
theorem lw_strike {p : Program} {l : Launch} {e : Env} {s : State} {m : MethodId} {args : Array Value} {below : List Frame} {meth : Method} {c : Code} {G : va_G} {cI cZ cQ cU cJ : ClassId} {A : Nat → Prop} {Qf : Unit → State → Prop} {cells slots b : Nat} {ox t n P d g kd kc kx vx vy sd : Nat} {I : OI} {R : RI} {M : va_W} (CX : CxX p l s m args meth c cL_law 23 wsL_law RL G vwCl (tys cI cZ cQ cU cJ) nws strs A) (hN : NC s) (hS : LSt cI cZ cQ cU t n P d g kd kc ox I R M) (bx : vx < 2147483648) (bv : vy < 2147483648) (hn60 : n < 60) (hg60 : g < 60) (hPn : P ≤ n) (hd0 : 10000 ≤ d) (hsd : sd ≤ d) (hR : cells + 300 ≤ room_1.cells ∧ slots + 3000 ≤ room_1.slots) (h3 : 3 ≤ P) (kk : ∀ (M' : va_W) (I' : OI) (R' : RI) (t' n' P' d' g' : Nat), LSt cI cZ cQ cU t' n' P' d' g' kd (kc + 1) ox I' R' M' → t' ≤ t + 3 → n ≤ n' → n' ≤ n + 1 → P ≤ P' → P' ≤ n' → d ≤ d' → g' ≤ g + 1 → (P' = P + 1 ∨ 3 ≤ P') → VJ p l e room_1 s m args below meth c 23 G vwCl A Qf (cells + 300) (slots + 3000) (some ()) M' 1050 [(0, .ref b), (1, .ref ox), (2, .int (nI P')), (3, .int (nI n')), (4, .int (nI g')), (5, .int (nI 1)), (6, .int (nI kx)), (7, .int (nI vx)), (8, .int (nI vy))] []) : VJ p l e room_1 s m args below meth c 23 G vwCl A Qf cells slots (some ()) M 682 [(0, .ref b), (1, .ref ox), (2, .int (nI P)), (3, .int (nI n)), (4, .int (nI g)), (5, .int (nI 1)), (6, .int (nI kx)), (7, .int (nI vx)), (8, .int (nI vy)), (9, .int (nI d)), (10, .int (nI sd))] [] := by
  have C := CX.1
  have hM0 := hS.lw
  obtain ⟨bn, bP, bd, bg, e2, e4, e1, e5⟩ := hM0.iv
  have hR1 := hR.1
  have hR2 := hR.2
  have hq : vy % n < n := Nat.mod_lt _ (by omega)
  by_cases h8 : R 0 (vy % n) = 8
  · refine VJ.iload C 8 dL_law_682 rfl ?_
    refine VJ.iload_n C 3 dL_law_684 rfl ?_
    refine VJ.irem C dL_law_685 (nz (by omega) (by omega)) ?_
    refine VJ.iv (y := nI (vy % n)) (nI_mod (by omega) (by omega)) ?_
    refine VJ.istore C [(14, .int (nI (vy % n))), (0, .ref b), (1, .ref ox), (2, .int (nI P)), (3, .int (nI n)), (4, .int (nI g)), (5, .int (nI 1)), (6, .int (nI kx)), (7, .int (nI vx)), (8, .int (nI vy)), (9, .int (nI d)), (10, .int (nI sd))] dL_law_686 (Nat.le_of_ble_eq_true rfl) rfl ?_
    refine VJ.aload_n C 2 dL_law_688 rfl ?_
    refine VJ.iload C 0 dL_law_689 rfl ?_
    refine VJ.iconst (v := nI 0) C dL_law_691 (by decide) ?_
    refine VJ.a_actk CX hN hM0 hq (vx_cwSW 3 C.1.2.2.2.2 gL_law_L_actOf rfl rfl rfl hy_L_actOf ⟨Nat.le_of_ble_eq_true rfl, Nat.le_of_ble_eq_true rfl⟩) (Nat.le_of_ble_eq_true rfl) dL_law_692 ⟨by omega, by omega⟩ (fun M1 hM1 => ?_)
    refine VJ.lnv (y := (nI 8).toInt64) (by rw [h8]; decide) ?_
    refine VJ.ldc2 (v := 8) C (C.1.2.2.2.2 _ lwk_203) dL_law_695 ?_
    refine VJ.lnv (y := (nI 8).toInt64) (by decide) ?_
    refine VJ.lce C (by decide) dL_law_698 ?_
    refine VJ.xif_eq_t C 720 (by decide) dL_law_699 (by decide) ?_
    refine VJ.iconst (v := nI 0) C dL_law_720 (by decide) ?_
    refine VJ.istore C [(15, .int (nI 0)), (14, .int (nI (vy % n))), (0, .ref b), (1, .ref ox), (2, .int (nI P)), (3, .int (nI n)), (4, .int (nI g)), (5, .int (nI 1)), (6, .int (nI kx)), (7, .int (nI vx)), (8, .int (nI vy)), (9, .int (nI d)), (10, .int (nI sd))] dL_law_721 (Nat.le_of_ble_eq_true rfl) rfl ?_
    refine VJ.aload_n C 3 dL_law_723 rfl ?_
    refine VJ.iload C 1 dL_law_724 rfl ?_
    refine VJ.a_strike_no CX hN hM1 hq (Or.inl h8) (vx_cwSW 2 C.1.2.2.2.2 gL_law_L_strike rfl rfl rfl hy_L_strike ⟨Nat.le_of_ble_eq_true rfl, Nat.le_of_ble_eq_true rfl⟩) (Nat.le_of_ble_eq_true rfl) dL_law_726 ⟨by omega, by omega⟩ (fun M2 hM2 => ?_)
    refine VJ.iload C 0 dL_law_729 rfl ?_
    refine VJ.xif_eq_t C 739 (by decide) dL_law_731 (by decide) ?_
    refine VJ.ldc2 (v := -9000000000000000003) C (C.1.2.2.2.2 _ lwk_21) dL_law_739 ?_
    refine VJ.lnv (y := kode 3) (by decide) ?_
    refine VJ.lce C (by decide) dL_law_742 ?_
    refine VJ.xif_ne_f C 768 (by decide) dL_law_743 (by decide) ?_
    refine VJ.iload C 0 dL_law_746 rfl ?_
    refine VJ.xif_eq_t C 764 (by decide) dL_law_748 (by decide) ?_
    refine VJ.iconst (v := nI 1) C dL_law_764 (by decide) ?_
    refine VJ.goto C 769 dL_law_765 (by decide) ?_
    refine VJ.istore C [(5, .int (nI 1)), (15, .int (nI 0)), (14, .int (nI (vy % n))), (0, .ref b), (1, .ref ox), (2, .int (nI P)), (3, .int (nI n)), (4, .int (nI g)), (6, .int (nI kx)), (7, .int (nI vx)), (8, .int (nI vy)), (9, .int (nI d)), (10, .int (nI sd))] dL_law_769 (Nat.le_of_ble_eq_true rfl) rfl ?_
    refine VJ.iload_n C 6 dL_law_771 rfl ?_
    refine VJ.iload C 1 dL_law_772 rfl ?_
    refine VJ.xif_eq_t C 781 (by decide) dL_law_774 (by decide) ?_
    refine VJ.iconst (v := nI 0) C dL_law_781 (by decide) ?_
    refine VJ.iadd C dL_law_782 ?_
    refine VJ.iv (y := nI (n + 0)) nI_ad ?_
    refine VJ.iv (y := nI n) rfl ?_
    refine VJ.istore_n C [(3, .int (nI n)), (5, .int (nI 1)), (15, .int (nI 0)), (14, .int (nI (vy % n))), (0, .ref b), (1, .ref ox), (2, .int (nI P)), (4, .int (nI g)), (6, .int (nI kx)), (7, .int (nI vx)), (8, .int (nI vy)), (9, .int (nI d)), (10, .int (nI sd))] dL_law_783 (Nat.le_of_ble_eq_true rfl) rfl ?_
    refine VJ.goto C 1050 dL_law_784 (by decide) ?_
    refine VJ.sub [4, 5, 6, 0, 7, 1, 8, 9, 10] rfl ?_
    exact VJ.widen (by omega) (by omega) (kk _ _ _ _ _ _ _ _ ((hS.with hM2).up (by omega)) (by omega) (by omega) (by omega) (by omega) (by omega) (by omega) (by omega) (by omega))
  · by_cases h7 : R 7 (vy % n) = -1
    · refine VJ.iload C 8 dL_law_682 rfl ?_
      refine VJ.iload_n C 3 dL_law_684 rfl ?_
      refine VJ.irem C dL_law_685 (nz (by omega) (by omega)) ?_
      refine VJ.iv (y := nI (vy % n)) (nI_mod (by omega) (by omega)) ?_
      refine VJ.istore C [(14, .int (nI (vy % n))), (0, .ref b), (1, .ref ox), (2, .int (nI P)), (3, .int (nI n)), (4, .int (nI g)), (5, .int (nI 1)), (6, .int (nI kx)), (7, .int (nI vx)), (8, .int (nI vy)), (9, .int (nI d)), (10, .int (nI sd))] dL_law_686 (Nat.le_of_ble_eq_true rfl) rfl ?_
      refine VJ.aload_n C 2 dL_law_688 rfl ?_
      refine VJ.iload C 0 dL_law_689 rfl ?_
      refine VJ.iconst (v := nI 0) C dL_law_691 (by decide) ?_
      refine VJ.a_actk CX hN hM0 hq (vx_cwSW 3 C.1.2.2.2.2 gL_law_L_actOf rfl rfl rfl hy_L_actOf ⟨Nat.le_of_ble_eq_true rfl, Nat.le_of_ble_eq_true rfl⟩) (Nat.le_of_ble_eq_true rfl) dL_law_692 ⟨by omega, by omega⟩ (fun M1 hM1 => ?_)
      refine VJ.ldc2 (v := 8) C (C.1.2.2.2.2 _ lwk_203) dL_law_695 ?_
      refine VJ.lnv (y := (nI 8).toInt64) (by decide) ?_
      refine VJ.lcmp C dL_law_698 ?_
      refine VJ.xif_eq_f C 720 (lc_ne h8) dL_law_699 (by decide) ?_
      refine VJ.aload_n C 2 dL_law_702 rfl ?_
      refine VJ.iload C 0 dL_law_703 rfl ?_
      refine VJ.iconst (v := nI 4) C dL_law_705 (by decide) ?_
      refine VJ.a_actx CX hN hM1 hq (vx_cwSW 3 C.1.2.2.2.2 gL_law_L_actOf rfl rfl rfl hy_L_actOf ⟨Nat.le_of_ble_eq_true rfl, Nat.le_of_ble_eq_true rfl⟩) (Nat.le_of_ble_eq_true rfl) dL_law_706 ⟨by omega, by omega⟩ (fun M2 hM2 => ?_)
      refine VJ.lnv (y := (-1 : Int32).toInt64) (by rw [h7]) ?_
      refine VJ.ldc2 (v := -1) C (C.1.2.2.2.2 _ lwk_124) dL_law_709 ?_
      refine VJ.lnv (y := (-1 : Int32).toInt64) (by decide) ?_
      refine VJ.lce C (by decide) dL_law_712 ?_
      refine VJ.xif_ne_f C 720 (by decide) dL_law_713 (by decide) ?_
      refine VJ.iconst (v := nI 1) C dL_law_716 (by decide) ?_
      refine VJ.goto C 721 dL_law_717 (by decide) ?_
      refine VJ.istore C [(15, .int (nI 1)), (14, .int (nI (vy % n))), (0, .ref b), (1, .ref ox), (2, .int (nI P)), (3, .int (nI n)), (4, .int (nI g)), (5, .int (nI 1)), (6, .int (nI kx)), (7, .int (nI vx)), (8, .int (nI vy)), (9, .int (nI d)), (10, .int (nI sd))] dL_law_721 (Nat.le_of_ble_eq_true rfl) rfl ?_
      refine VJ.aload_n C 3 dL_law_723 rfl ?_
      refine VJ.iload C 1 dL_law_724 rfl ?_
      refine VJ.a_strike CX hN hM2 (by omega) hq h8 h7 (vx_cwSW 2 C.1.2.2.2.2 gL_law_L_strike rfl rfl rfl hy_L_strike ⟨Nat.le_of_ble_eq_true rfl, Nat.le_of_ble_eq_true rfl⟩) (Nat.le_of_ble_eq_true rfl) dL_law_726 ⟨by omega, by omega⟩ (fun M3 I1 R1 hM3 ic rc => ?_)
      have hS1 := hS.told hM3 (ic 7 (by omega) (by omega) (by omega)) (fun c hc => up_ne hc) (fun c c8 _ _ => rc c c8) (fun z => absurd z (by decide))
      refine VJ.iload C 0 dL_law_729 rfl ?_
      refine VJ.xif_eq_f C 739 (by decide) dL_law_731 (by decide) ?_
      refine VJ.iload_n C 5 dL_law_734 rfl ?_
      refine VJ.i2l C dL_law_735 ?_
      refine VJ.goto C 742 dL_law_736 (by decide) ?_
      refine VJ.lce C (rfl) dL_law_742 ?_
      refine VJ.xif_ne_f C 768 (by decide) dL_law_743 (by decide) ?_
      refine VJ.iload C 0 dL_law_746 rfl ?_
      refine VJ.xif_eq_f C 764 (by decide) dL_law_748 (by decide) ?_
      refine VJ.aload_n C 3 dL_law_751 rfl ?_
      refine VJ.iload C 1 dL_law_752 rfl ?_
      refine VJ.iconst (v := nI 4) C dL_law_754 (by decide) ?_
      refine VJ.a_actx CX hN hM3 (show vy % n < n + 1 by omega) (vx_cwSW 3 C.1.2.2.2.2 gL_law_L_actOf rfl rfl rfl hy_L_actOf ⟨Nat.le_of_ble_eq_true rfl, Nat.le_of_ble_eq_true rfl⟩) (Nat.le_of_ble_eq_true rfl) dL_law_755 ⟨by omega, by omega⟩ (fun M4 hM4 => ?_)
      refine VJ.lnv (y := (nI n).toInt64) (by rw [rc 7 (by omega), tR7, if_neg (by omega), up_same, upd_same]) ?_
      refine VJ.iload_n C 5 dL_law_758 rfl ?_
      refine VJ.i2l C dL_law_759 ?_
      refine VJ.lce C (rfl) dL_law_760 ?_
      refine VJ.xif_ne_f C 768 (by decide) dL_law_761 (by decide) ?_
      refine VJ.iconst (v := nI 1) C dL_law_764 (by decide) ?_
      refine VJ.goto C 769 dL_law_765 (by decide) ?_
      refine VJ.istore C [(5, .int (nI 1)), (15, .int (nI 1)), (14, .int (nI (vy % n))), (0, .ref b), (1, .ref ox), (2, .int (nI P)), (3, .int (nI n)), (4, .int (nI g)), (6, .int (nI kx)), (7, .int (nI vx)), (8, .int (nI vy)), (9, .int (nI d)), (10, .int (nI sd))] dL_law_769 (Nat.le_of_ble_eq_true rfl) rfl ?_
      refine VJ.iload_n C 6 dL_law_771 rfl ?_
      refine VJ.iload C 1 dL_law_772 rfl ?_
      refine VJ.xif_eq_f C 781 (by decide) dL_law_774 (by decide) ?_
      refine VJ.iconst (v := nI 1) C dL_law_777 (by decide) ?_
      refine VJ.goto C 782 dL_law_778 (by decide) ?_
      refine VJ.iadd C dL_law_782 ?_
      refine VJ.iv (y := nI (n + 1)) nI_ad ?_
      refine VJ.istore_n C [(3, .int (nI (n + 1))), (5, .int (nI 1)), (15, .int (nI 1)), (14, .int (nI (vy % n))), (0, .ref b), (1, .ref ox), (2, .int (nI P)), (4, .int (nI g)), (6, .int (nI kx)), (7, .int (nI vx)), (8, .int (nI vy)), (9, .int (nI d)), (10, .int (nI sd))] dL_law_783 (Nat.le_of_ble_eq_true rfl) rfl ?_
      refine VJ.goto C 1050 dL_law_784 (by decide) ?_
      refine VJ.sub [4, 5, 6, 0, 7, 1, 8, 9, 10] rfl ?_
      exact VJ.widen (by omega) (by omega) (kk _ _ _ _ _ _ _ _ ((hS1.with hM4).up (by omega)) (by omega) (by omega) (by omega) (by omega) (by omega) (by omega) (by omega) (by omega))
    · refine VJ.iload C 8 dL_law_682 rfl ?_
      refine VJ.iload_n C 3 dL_law_684 rfl ?_
      refine VJ.irem C dL_law_685 (nz (by omega) (by omega)) ?_
      refine VJ.iv (y := nI (vy % n)) (nI_mod (by omega) (by omega)) ?_
      refine VJ.istore C [(14, .int (nI (vy % n))), (0, .ref b), (1, .ref ox), (2, .int (nI P)), (3, .int (nI n)), (4, .int (nI g)), (5, .int (nI 1)), (6, .int (nI kx)), (7, .int (nI vx)), (8, .int (nI vy)), (9, .int (nI d)), (10, .int (nI sd))] dL_law_686 (Nat.le_of_ble_eq_true rfl) rfl ?_
      refine VJ.aload_n C 2 dL_law_688 rfl ?_
      refine VJ.iload C 0 dL_law_689 rfl ?_
      refine VJ.iconst (v := nI 0) C dL_law_691 (by decide) ?_
      refine VJ.a_actk CX hN hM0 hq (vx_cwSW 3 C.1.2.2.2.2 gL_law_L_actOf rfl rfl rfl hy_L_actOf ⟨Nat.le_of_ble_eq_true rfl, Nat.le_of_ble_eq_true rfl⟩) (Nat.le_of_ble_eq_true rfl) dL_law_692 ⟨by omega, by omega⟩ (fun M1 hM1 => ?_)
      refine VJ.ldc2 (v := 8) C (C.1.2.2.2.2 _ lwk_203) dL_law_695 ?_
      refine VJ.lnv (y := (nI 8).toInt64) (by decide) ?_
      refine VJ.lcmp C dL_law_698 ?_
      refine VJ.xif_eq_f C 720 (lc_ne h8) dL_law_699 (by decide) ?_
      refine VJ.aload_n C 2 dL_law_702 rfl ?_
      refine VJ.iload C 0 dL_law_703 rfl ?_
      refine VJ.iconst (v := nI 4) C dL_law_705 (by decide) ?_
      refine VJ.a_actx CX hN hM1 hq (vx_cwSW 3 C.1.2.2.2.2 gL_law_L_actOf rfl rfl rfl hy_L_actOf ⟨Nat.le_of_ble_eq_true rfl, Nat.le_of_ble_eq_true rfl⟩) (Nat.le_of_ble_eq_true rfl) dL_law_706 ⟨by omega, by omega⟩ (fun M2 hM2 => ?_)
      refine VJ.ldc2 (v := -1) C (C.1.2.2.2.2 _ lwk_124) dL_law_709 ?_
      refine VJ.lnv (y := (-1 : Int32).toInt64) (by decide) ?_
      refine VJ.lcmp C dL_law_712 ?_
      refine VJ.xif_ne_t C 720 (lc_ne h7) dL_law_713 (by decide) ?_
      refine VJ.iconst (v := nI 0) C dL_law_720 (by decide) ?_
      refine VJ.istore C [(15, .int (nI 0)), (14, .int (nI (vy % n))), (0, .ref b), (1, .ref ox), (2, .int (nI P)), (3, .int (nI n)), (4, .int (nI g)), (5, .int (nI 1)), (6, .int (nI kx)), (7, .int (nI vx)), (8, .int (nI vy)), (9, .int (nI d)), (10, .int (nI sd))] dL_law_721 (Nat.le_of_ble_eq_true rfl) rfl ?_
      refine VJ.aload_n C 3 dL_law_723 rfl ?_
      refine VJ.iload C 1 dL_law_724 rfl ?_
      refine VJ.a_strike_no CX hN hM2 hq (Or.inr h7) (vx_cwSW 2 C.1.2.2.2.2 gL_law_L_strike rfl rfl rfl hy_L_strike ⟨Nat.le_of_ble_eq_true rfl, Nat.le_of_ble_eq_true rfl⟩) (Nat.le_of_ble_eq_true rfl) dL_law_726 ⟨by omega, by omega⟩ (fun M3 hM3 => ?_)
      refine VJ.iload C 0 dL_law_729 rfl ?_
      refine VJ.xif_eq_t C 739 (by decide) dL_law_731 (by decide) ?_
      refine VJ.ldc2 (v := -9000000000000000003) C (C.1.2.2.2.2 _ lwk_21) dL_law_739 ?_
      refine VJ.lnv (y := kode 3) (by decide) ?_
      refine VJ.lce C (by decide) dL_law_742 ?_
      refine VJ.xif_ne_f C 768 (by decide) dL_law_743 (by decide) ?_
      refine VJ.iload C 0 dL_law_746 rfl ?_
      refine VJ.xif_eq_t C 764 (by decide) dL_law_748 (by decide) ?_
      refine VJ.iconst (v := nI 1) C dL_law_764 (by decide) ?_
      refine VJ.goto C 769 dL_law_765 (by decide) ?_
      refine VJ.istore C [(5, .int (nI 1)), (15, .int (nI 0)), (14, .int (nI (vy % n))), (0, .ref b), (1, .ref ox), (2, .int (nI P)), (3, .int (nI n)), (4, .int (nI g)), (6, .int (nI kx)), (7, .int (nI vx)), (8, .int (nI vy)), (9, .int (nI d)), (10, .int (nI sd))] dL_law_769 (Nat.le_of_ble_eq_true rfl) rfl ?_
      refine VJ.iload_n C 6 dL_law_771 rfl ?_
      refine VJ.iload C 1 dL_law_772 rfl ?_
      refine VJ.xif_eq_t C 781 (by decide) dL_law_774 (by decide) ?_
      refine VJ.iconst (v := nI 0) C dL_law_781 (by decide) ?_
      refine VJ.iadd C dL_law_782 ?_
      refine VJ.iv (y := nI (n + 0)) nI_ad ?_
      refine VJ.iv (y := nI n) rfl ?_
      refine VJ.istore_n C [(3, .int (nI n)), (5, .int (nI 1)), (15, .int (nI 0)), (14, .int (nI (vy % n))), (0, .ref b), (1, .ref ox), (2, .int (nI P)), (4, .int (nI g)), (6, .int (nI kx)), (7, .int (nI vx)), (8, .int (nI vy)), (9, .int (nI d)), (10, .int (nI sd))] dL_law_783 (Nat.le_of_ble_eq_true rfl) rfl ?_
      refine VJ.goto C 1050 dL_law_784 (by decide) ?_
      refine VJ.sub [4, 5, 6, 0, 7, 1, 8, 9, 10] rfl ?_
      exact VJ.widen (by omega) (by omega) (kk _ _ _ _ _ _ _ _ ((hS.with hM3).up (by omega)) (by omega) (by omega) (by omega) (by omega) (by omega) (by omega) (by omega) (by omega))
set_option maxHeartbeats 8000000 in
set_option maxRecDepth 100000 in
theorem lw_pass {p : Program} {l : Launch} {e : Env} {s : State} {m : MethodId} {args : Array Value} {below : List Frame} {meth : Method} {c : Code} {G : va_G} {cI cZ cQ cU cJ : ClassId} {A : Nat → Prop} {Qf : Unit → State → Prop} {cells slots b : Nat} {ox t n P d g kd kc kx vx vy sd : Nat} {I : OI} {R : RI} {M : va_W} (CX : CxX p l s m args meth c cL_law 23 wsL_law RL G vwCl (tys cI cZ cQ cU cJ) nws strs A) (hN : NC s) (hS : LSt cI cZ cQ cU t n P d g kd kc ox I R M) (bx : vx < 2147483648) (bv : vy < 2147483648) (hn60 : n < 60) (hg60 : g < 60) (hPn : P ≤ n) (hd0 : 10000 ≤ d) (hsd : sd ≤ d) (hR : cells + 300 ≤ room_1.cells ∧ slots + 3000 ≤ room_1.slots) (h3 : 3 ≤ P) (kk : ∀ (M' : va_W) (I' : OI) (R' : RI) (t' n' P' d' g' : Nat), LSt cI cZ cQ cU t' n' P' d' g' kd (kc + 1) ox I' R' M' → t' ≤ t + 3 → n ≤ n' → n' ≤ n + 1 → P ≤ P' → P' ≤ n' → d ≤ d' → g' ≤ g + 1 → (P' = P + 1 ∨ 3 ≤ P') → VJ p l e room_1 s m args below meth c 23 G vwCl A Qf (cells + 300) (slots + 3000) (some ()) M' 1050 [(0, .ref b), (1, .ref ox), (2, .int (nI P')), (3, .int (nI n')), (4, .int (nI g')), (5, .int (nI 1)), (6, .int (nI kx)), (7, .int (nI vx)), (8, .int (nI vy))] []) : VJ p l e room_1 s m args below meth c 23 G vwCl A Qf cells slots (some ()) M 794 [(0, .ref b), (1, .ref ox), (2, .int (nI P)), (3, .int (nI n)), (4, .int (nI g)), (5, .int (nI 1)), (6, .int (nI kx)), (7, .int (nI vx)), (8, .int (nI vy)), (9, .int (nI d)), (10, .int (nI sd))] [] := by
  have C := CX.1
  have hM0 := hS.lw
  obtain ⟨bn, bP, bd, bg, e2, e4, e1, e5⟩ := hM0.iv
  have hR1 := hR.1
  have hR2 := hR.2
  by_cases hp : d + vy % 700 < 30000
  · refine VJ.aload_n C 1 dL_law_794 rfl ?_
    refine VJ.iconst (v := nI 1) C dL_law_795 (by decide) ?_
    refine VJ.iload C 8 dL_law_796 rfl ?_
    refine VJ.sipush (v := nI 700) C dL_law_798 (by decide) ?_
    refine VJ.irem C dL_law_801 (nz (by omega) (by omega)) ?_
    refine VJ.iv (y := nI (vy % 700)) (nI_mod (by omega) (by omega)) ?_
    refine VJ.iadd C dL_law_802 ?_
    refine VJ.iv (y := nI (1 + (vy % 700))) nI_ad ?_
    refine VJ.a_pass CX hN hM0 (show 1 ≤ 1 + vy % 700 by omega) (by omega) (by omega) (vx_cwSW 2 C.1.2.2.2.2 gL_law_L_pass rfl rfl rfl hy_L_pass ⟨Nat.le_of_ble_eq_true rfl, Nat.le_of_ble_eq_true rfl⟩) (Nat.le_of_ble_eq_true rfl) dL_law_803 ⟨by omega, by omega⟩ (fun M1 I1 hM1 ic => ?_)
    refine VJ.iload C 9 dL_law_806 rfl ?_
    refine VJ.iload C 8 dL_law_808 rfl ?_
    refine VJ.sipush (v := nI 700) C dL_law_810 (by decide) ?_
    refine VJ.irem C dL_law_813 (nz (by omega) (by omega)) ?_
    refine VJ.iv (y := nI (vy % 700)) (nI_mod (by omega) (by omega)) ?_
    refine VJ.iadd C dL_law_814 ?_
    refine VJ.iv (y := nI (d + (vy % 700))) nI_ad ?_
    refine VJ.sipush (v := nI 30000) C dL_law_815 (by decide) ?_
    refine VJ.xicmp_ge_f C 837 (fun z => by have := (n_le (a := 30000) (by omega) (by omega)).mp z; omega) dL_law_818 (by decide) ?_
    refine VJ.iload C 9 dL_law_821 rfl ?_
    refine VJ.i2l C dL_law_823 ?_
    refine VJ.lconst (v := (nI 1).toInt64) C dL_law_824 (by decide) ?_
    refine VJ.ladd C dL_law_825 ?_
    refine VJ.lnv (y := (nI (d + 1)).toInt64) (nl_add (by omega)) ?_
    refine VJ.iload C 8 dL_law_826 rfl ?_
    refine VJ.sipush (v := nI 700) C dL_law_828 (by decide) ?_
    refine VJ.irem C dL_law_831 (nz (by omega) (by omega)) ?_
    refine VJ.iv (y := nI (vy % 700)) (nI_mod (by omega) (by omega)) ?_
    refine VJ.i2l C dL_law_832 ?_
    refine VJ.ladd C dL_law_833 ?_
    refine VJ.lnv (y := (nI ((d + 1) + (vy % 700))).toInt64) (nl_add (by omega)) ?_
    refine VJ.goto C 840 dL_law_834 (by decide) ?_
    refine VJ.lce C (congrArg (fun z => (nI z).toInt64) (by omega)) dL_law_840 ?_
    refine VJ.xif_ne_f C 848 (by decide) dL_law_841 (by decide) ?_
    refine VJ.iconst (v := nI 1) C dL_law_844 (by decide) ?_
    refine VJ.goto C 849 dL_law_845 (by decide) ?_
    refine VJ.istore C [(5, .int (nI 1)), (0, .ref b), (1, .ref ox), (2, .int (nI P)), (3, .int (nI n)), (4, .int (nI g)), (6, .int (nI kx)), (7, .int (nI vx)), (8, .int (nI vy)), (9, .int (nI d)), (10, .int (nI sd))] dL_law_849 (Nat.le_of_ble_eq_true rfl) rfl ?_
    refine VJ.goto C 1050 dL_law_851 (by decide) ?_
    refine VJ.sub [1, 2, 3, 4, 5, 0, 6, 7, 8] rfl ?_
    exact VJ.widen (by omega) (by omega) (kk _ _ _ _ _ _ _ _ ((hS.same hM1 (ic 7 (by omega) (by omega)) rfl rfl rfl rfl rfl).up (by omega)) (by omega) (by omega) (by omega) (by omega) (by omega) (by omega) (by omega) (by omega))
  · refine VJ.aload_n C 1 dL_law_794 rfl ?_
    refine VJ.iconst (v := nI 1) C dL_law_795 (by decide) ?_
    refine VJ.iload C 8 dL_law_796 rfl ?_
    refine VJ.sipush (v := nI 700) C dL_law_798 (by decide) ?_
    refine VJ.irem C dL_law_801 (nz (by omega) (by omega)) ?_
    refine VJ.iv (y := nI (vy % 700)) (nI_mod (by omega) (by omega)) ?_
    refine VJ.iadd C dL_law_802 ?_
    refine VJ.iv (y := nI (1 + (vy % 700))) nI_ad ?_
    refine VJ.a_pass_no CX hN hM0 (show 1 ≤ 1 + vy % 700 by omega) (by omega) (by omega) (vx_cwSW 2 C.1.2.2.2.2 gL_law_L_pass rfl rfl rfl hy_L_pass ⟨Nat.le_of_ble_eq_true rfl, Nat.le_of_ble_eq_true rfl⟩) (Nat.le_of_ble_eq_true rfl) dL_law_803 ⟨by omega, by omega⟩ (fun M1 I1 hM1 ic => ?_)
    refine VJ.iload C 9 dL_law_806 rfl ?_
    refine VJ.iload C 8 dL_law_808 rfl ?_
    refine VJ.sipush (v := nI 700) C dL_law_810 (by decide) ?_
    refine VJ.irem C dL_law_813 (nz (by omega) (by omega)) ?_
    refine VJ.iv (y := nI (vy % 700)) (nI_mod (by omega) (by omega)) ?_
    refine VJ.iadd C dL_law_814 ?_
    refine VJ.iv (y := nI (d + (vy % 700))) nI_ad ?_
    refine VJ.sipush (v := nI 30000) C dL_law_815 (by decide) ?_
    refine VJ.xicmp_ge_t C 837 ((n_le (a := 30000) (by omega) (by omega)).mpr (by omega)) dL_law_818 (by decide) ?_
    refine VJ.ldc2 (v := -9000000000000000003) C (C.1.2.2.2.2 _ lwk_21) dL_law_837 ?_
    refine VJ.lnv (y := kode 3) (by decide) ?_
    refine VJ.lce C (by decide) dL_law_840 ?_
    refine VJ.xif_ne_f C 848 (by decide) dL_law_841 (by decide) ?_
    refine VJ.iconst (v := nI 1) C dL_law_844 (by decide) ?_
    refine VJ.goto C 849 dL_law_845 (by decide) ?_
    refine VJ.istore C [(5, .int (nI 1)), (0, .ref b), (1, .ref ox), (2, .int (nI P)), (3, .int (nI n)), (4, .int (nI g)), (6, .int (nI kx)), (7, .int (nI vx)), (8, .int (nI vy)), (9, .int (nI d)), (10, .int (nI sd))] dL_law_849 (Nat.le_of_ble_eq_true rfl) rfl ?_
    refine VJ.goto C 1050 dL_law_851 (by decide) ?_
    refine VJ.sub [1, 2, 3, 4, 5, 0, 6, 7, 8] rfl ?_
    exact VJ.widen (by omega) (by omega) (kk _ _ _ _ _ _ _ _ ((hS.same hM1 (ic 7 (by omega)) rfl rfl rfl rfl rfl).up (by omega)) (by omega) (by omega) (by omega) (by omega) (by omega) (by omega) (by omega) (by omega))
set_option maxHeartbeats 8000000 in
set_option maxRecDepth 100000 in
theorem lw_renum {p : Program} {l : Launch} {e : Env} {s : State} {m : MethodId} {args : Array Value} {below : List Frame} {meth : Method} {c : Code} {G : va_G} {cI cZ cQ cU cJ : ClassId} {A : Nat → Prop} {Qf : Unit → State → Prop} {cells slots b : Nat} {ox t n P d g kd kc kx vx vy sd : Nat} {I : OI} {R : RI} {M : va_W} (CX : CxX p l s m args meth c cL_law 23 wsL_law RL G vwCl (tys cI cZ cQ cU cJ) nws strs A) (hN : NC s) (hS : LSt cI cZ cQ cU t n P d g kd kc ox I R M) (bx : vx < 2147483648) (bv : vy < 2147483648) (hn60 : n < 60) (hg60 : g < 60) (hPn : P ≤ n) (hd0 : 10000 ≤ d) (hsd : sd ≤ d) (hR : cells + 100 ≤ room_1.cells ∧ slots + 1000 ≤ room_1.slots) (h3 : 3 ≤ P) (kk : ∀ (M' : va_W) (I' : OI) (R' : RI) (t' n' P' d' g' : Nat), LSt cI cZ cQ cU t' n' P' d' g' kd kc ox I' R' M' → t' ≤ t + 1 → n ≤ n' → n' ≤ n + 1 → P ≤ P' → P' ≤ n' → d ≤ d' → g' ≤ g + 1 → (P' = P + 1 ∨ 3 ≤ P') → VJ p l e room_1 s m args below meth c 23 G vwCl A Qf (cells + 100) (slots + 1000) (some ()) M' 1050 [(0, .ref b), (1, .ref ox), (2, .int (nI P')), (3, .int (nI n')), (4, .int (nI g')), (5, .int (nI 1)), (6, .int (nI kx)), (7, .int (nI vx)), (8, .int (nI vy))] []) : VJ p l e room_1 s m args below meth c 23 G vwCl A Qf cells slots (some ()) M 953 [(0, .ref b), (1, .ref ox), (2, .int (nI P)), (3, .int (nI n)), (4, .int (nI g)), (5, .int (nI 1)), (6, .int (nI kx)), (7, .int (nI vx)), (8, .int (nI vy)), (9, .int (nI d)), (10, .int (nI sd)), (14, .int (nI (vy % P)))] [] := by
  have C := CX.1
  have hM0 := hS.lw
  obtain ⟨bn, bP, bd, bg, e2, e4, e1, e5⟩ := hM0.iv
  have hR1 := hR.1
  have hR2 := hR.2
  have hq : vy % P < P := Nat.mod_lt _ (by omega)
  by_cases h4 : vy / 256 % 4 = 0
  · obtain ⟨j, hj, hj10, hj9, hjl⟩ := hM0.last hq
    refine VJ.iload C 4 dL_law_953 rfl ?_
    refine VJ.bipush (v := nI 60) C dL_law_955 (by decide) ?_
    refine VJ.xicmp_ge_f C 1050 (fun z => by have := (n_le (a := 60) (by omega) (by omega)).mp z; omega) dL_law_957 (by decide) ?_
    refine VJ.iload C 8 dL_law_960 rfl ?_
    refine VJ.sipush (v := nI 256) C dL_law_962 (by decide) ?_
    refine VJ.idiv C dL_law_965 (nz (by omega) (by omega)) ?_
    refine VJ.iv (y := nI (vy / 256)) (nI_div (by omega) (by omega)) ?_
    refine VJ.iconst (v := nI 4) C dL_law_966 (by decide) ?_
    refine VJ.irem C dL_law_967 (nz (by omega) (by omega)) ?_
    refine VJ.iv (y := nI ((vy / 256) % 4)) (nI_mod (by omega) (by omega)) ?_
    refine VJ.xif_ne_f C 1050 (by rw [h4]; decide) dL_law_968 (by decide) ?_
    refine VJ.aload_n C 1 dL_law_971 rfl ?_
    refine VJ.iload C 11 dL_law_972 rfl ?_
    refine VJ.a_number CX hN hM0 hq hj hj10 hj9 hjl (vx_cwSW 2 C.1.2.2.2.2 gL_law_L_number rfl rfl rfl hy_L_number ⟨Nat.le_of_ble_eq_true rfl, Nat.le_of_ble_eq_true rfl⟩) (Nat.le_of_ble_eq_true rfl) dL_law_974 ⟨by omega, by omega⟩ (fun M1 hM1 => ?_)
    refine VJ.lstore C [(19, .long ((nI (numv j)).toInt64)), (0, .ref b), (1, .ref ox), (2, .int (nI P)), (3, .int (nI n)), (4, .int (nI g)), (5, .int (nI 1)), (6, .int (nI kx)), (7, .int (nI vx)), (8, .int (nI vy)), (9, .int (nI d)), (10, .int (nI sd)), (14, .int (nI (vy % P)))] dL_law_977 (Nat.le_of_ble_eq_true rfl) rfl ?_
    refine VJ.aload_n C 2 dL_law_979 rfl ?_
    refine VJ.iload C 12 dL_law_980 rfl ?_
    refine VJ.a_renumber CX hN hM1 hg60 hq (vx_cwSW 2 C.1.2.2.2.2 gL_law_L_renumber rfl rfl rfl hy_L_renumber ⟨Nat.le_of_ble_eq_true rfl, Nat.le_of_ble_eq_true rfl⟩) (Nat.le_of_ble_eq_true rfl) dL_law_982 ⟨by omega, by omega⟩ (fun M2 I1 R1 hM2 ic rc r9 r10 => ?_)
    have q1 := ser_up g (by omega) j hj
    have q2 := ser_rng g (by omega)
    have q3 := ser_rng j (by omega)
    refine VJ.lstore C [(21, .long ((nI (numv g)).toInt64)), (19, .long ((nI (numv j)).toInt64)), (0, .ref b), (1, .ref ox), (2, .int (nI P)), (3, .int (nI n)), (4, .int (nI g)), (5, .int (nI 1)), (6, .int (nI kx)), (7, .int (nI vx)), (8, .int (nI vy)), (9, .int (nI d)), (10, .int (nI sd)), (14, .int (nI (vy % P)))] dL_law_985 (Nat.le_of_ble_eq_true rfl) rfl ?_
    refine VJ.iload C 7 dL_law_987 rfl ?_
    refine VJ.xif_eq_f C 1044 (by decide) dL_law_989 (by decide) ?_
    refine VJ.lload C 0 dL_law_992 rfl ?_
    refine VJ.lload C 1 dL_law_994 rfl ?_
    refine VJ.lcg C (lc_lt (by omega) (by omega) q1) dL_law_996 ?_
    refine VJ.xif_le_f C 1044 (by decide) dL_law_997 (by decide) ?_
    refine VJ.aload_n C 3 dL_law_1000 rfl ?_
    refine VJ.iload C 13 dL_law_1001 rfl ?_
    refine VJ.a_number CX hN hM2 hq (show g < g + 1 by omega) (by rw [r10, upd_same]) (by rw [r9, upd_same]) (fun i z1 z2 => by omega) (vx_cwSW 2 C.1.2.2.2.2 gL_law_L_number rfl rfl rfl hy_L_number ⟨Nat.le_of_ble_eq_true rfl, Nat.le_of_ble_eq_true rfl⟩) (Nat.le_of_ble_eq_true rfl) dL_law_1003 ⟨by omega, by omega⟩ (fun M3 hM3 => ?_)
    refine VJ.lload C 0 dL_law_1006 rfl ?_
    refine VJ.lce C (rfl) dL_law_1008 ?_
    refine VJ.xif_ne_f C 1044 (by decide) dL_law_1009 (by decide) ?_
    refine VJ.aload_n C 3 dL_law_1012 rfl ?_
    refine VJ.lload C 1 dL_law_1013 rfl ?_
    refine VJ.l2i C dL_law_1015 (li _) ?_
    refine VJ.a_bearer (q := vy % P) CX hN hM3 (show j < g + 1 by omega) (by rw [r10, upd_ne (by omega)]; exact hj10) (vx_cwSW 2 C.1.2.2.2.2 gL_law_L_bearer rfl rfl rfl hy_L_bearer ⟨Nat.le_of_ble_eq_true rfl, Nat.le_of_ble_eq_true rfl⟩) (Nat.le_of_ble_eq_true rfl) dL_law_1016 ⟨by omega, by omega⟩ (fun M4 hM4 => ?_)
    refine VJ.iload C 13 dL_law_1019 rfl ?_
    refine VJ.i2l C dL_law_1021 ?_
    refine VJ.lce C (rfl) dL_law_1022 ?_
    refine VJ.xif_ne_f C 1044 (by decide) dL_law_1023 (by decide) ?_
    refine VJ.aload_n C 3 dL_law_1026 rfl ?_
    refine VJ.lload C 0 dL_law_1027 rfl ?_
    refine VJ.l2i C dL_law_1029 (li _) ?_
    refine VJ.a_bearer (q := vy % P) CX hN hM4 (show g < g + 1 by omega) (by rw [r10, upd_same]) (vx_cwSW 2 C.1.2.2.2.2 gL_law_L_bearer rfl rfl rfl hy_L_bearer ⟨Nat.le_of_ble_eq_true rfl, Nat.le_of_ble_eq_true rfl⟩) (Nat.le_of_ble_eq_true rfl) dL_law_1030 ⟨by omega, by omega⟩ (fun M5 hM5 => ?_)
    refine VJ.iload C 13 dL_law_1033 rfl ?_
    refine VJ.i2l C dL_law_1035 ?_
    refine VJ.lce C (rfl) dL_law_1036 ?_
    refine VJ.xif_ne_f C 1044 (by decide) dL_law_1037 (by decide) ?_
    refine VJ.iconst (v := nI 1) C dL_law_1040 (by decide) ?_
    refine VJ.goto C 1045 dL_law_1041 (by decide) ?_
    refine VJ.istore C [(5, .int (nI 1)), (21, .long ((nI (numv g)).toInt64)), (19, .long ((nI (numv j)).toInt64)), (0, .ref b), (1, .ref ox), (2, .int (nI P)), (3, .int (nI n)), (4, .int (nI g)), (6, .int (nI kx)), (7, .int (nI vx)), (8, .int (nI vy)), (9, .int (nI d)), (10, .int (nI sd)), (14, .int (nI (vy % P)))] dL_law_1045 (Nat.le_of_ble_eq_true rfl) rfl ?_
    refine VJ.iinc C 7 (nI (g + 1)) [(4, .int (nI (g + 1))), (5, .int (nI 1)), (21, .long ((nI (numv g)).toInt64)), (19, .long ((nI (numv j)).toInt64)), (0, .ref b), (1, .ref ox), (2, .int (nI P)), (3, .int (nI n)), (6, .int (nI kx)), (7, .int (nI vx)), (8, .int (nI vy)), (9, .int (nI d)), (10, .int (nI sd)), (14, .int (nI (vy % P)))] dL_law_1047 rfl nI_s9 (Nat.le_of_ble_eq_true rfl) rfl ?_
    refine VJ.sub [4, 5, 6, 7, 0, 1, 8, 9, 10] rfl ?_
    exact VJ.widen (by omega) (by omega) (kk _ _ _ _ _ _ _ _ ((hS.same hM5 (ic 7 (by omega) (by omega) (by omega)) (rc 0 (by omega) (by omega)) (rc 6 (by omega) (by omega)) (rc 22 (by omega) (by omega)) (rc 23 (by omega) (by omega)) (rc 28 (by omega) (by omega)))) (by omega) (by omega) (by omega) (by omega) (by omega) (by omega) (by omega) (by omega))
  · refine VJ.iload C 4 dL_law_953 rfl ?_
    refine VJ.bipush (v := nI 60) C dL_law_955 (by decide) ?_
    refine VJ.xicmp_ge_f C 1050 (fun z => by have := (n_le (a := 60) (by omega) (by omega)).mp z; omega) dL_law_957 (by decide) ?_
    refine VJ.iload C 8 dL_law_960 rfl ?_
    refine VJ.sipush (v := nI 256) C dL_law_962 (by decide) ?_
    refine VJ.idiv C dL_law_965 (nz (by omega) (by omega)) ?_
    refine VJ.iv (y := nI (vy / 256)) (nI_div (by omega) (by omega)) ?_
    refine VJ.iconst (v := nI 4) C dL_law_966 (by decide) ?_
    refine VJ.irem C dL_law_967 (nz (by omega) (by omega)) ?_
    refine VJ.iv (y := nI ((vy / 256) % 4)) (nI_mod (by omega) (by omega)) ?_
    refine VJ.xif_ne_t C 1050 (nz (by omega) (by omega)) dL_law_968 (by decide) ?_
    refine VJ.sub [0, 1, 2, 3, 4, 5, 6, 7, 8] rfl ?_
    exact VJ.widen (by omega) (by omega) (kk _ _ _ _ _ _ _ _ (hS) (by omega) (by omega) (by omega) (by omega) (by omega) (by omega) (by omega) (by omega))
end LLc
