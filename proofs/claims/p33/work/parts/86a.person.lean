section LPh
abbrev rmL_personHolds : Room := { frames := 10, cells := 160, slots := 960, locals := 200 }
theorem hy_L_personHolds : yL_personHolds.cls ≠ "java/lang/invoke/MethodHandle" ∧ yL_personHolds.cls ≠ "java/lang/invoke/VarHandle" ∧ (parseMethodDescriptor yL_personHolds.desc).map (fun d => d.parameters.length) = some 5 := by decide +kernel
set_option maxHeartbeats 8000000 in
set_option maxRecDepth 100000 in
theorem c_L_personHolds (l : Launch) (hl9 : l.stackTraces = false) (G : va_G) (cI cZ cQ cU cJ : ClassId) {t n P d g ox : Nat} {I : OI} {R : RI} {M0 : va_W} (hM0 : LW cI cZ cQ cU 20000 t n P d g ox I R M0) {q ss kk : Nat} (hq : q < P) (hs : ss ≤ d) (hk : kk ≤ d) {Rl : RI} {lo : Nat → Nat} (L : LAND 20000 P I R ss kk Rl lo) : ConW l yL_personHolds wsL_personHolds rmL_personHolds G vwCl (tys cI cZ cQ cU cJ) nws strs [.ref ox, .int (nI q), .int (nI ss), .int (nI kk), .int (nI P)] M0 (fun _ r M' => r = some (.int 1) ∧ LW cI cZ cQ cU 20000 t n P d g ox I R M') := by
  obtain ⟨bn, bP, bd, bg, -⟩ := hM0.iv
  refine conV_of (cc := cL_personHolds) (maxL := 15) (own := RL) hl9 rfl (plainFor_of_name (by decide +kernel)) rfl (Nat.le_of_ble_eq_true rfl) ?_
  intro p e s m args below meth c A CX hN hret
  have C := CX.1
  obtain ⟨hm1, hm2⟩ := L.mo bP hq
  rcases L.cases bP (by omega) hq with ⟨t0 | t0, t1, t2, t3, t4, t5, t6⟩ | ⟨t0, t1, ⟨x, hx, t2⟩, t3, t5, t6⟩ | ⟨t0, ⟨h, x, a, o, hh, t1, hx, t2, ha, t5, hoq, t6, u1, u6⟩, t3 | ⟨y, hy, hyq, t3, v3, v0⟩⟩
  · refine VJ.aload_n C 0 dL_personHolds_0 rfl ?_
    refine VJ.iload_n C 1 dL_personHolds_1 rfl ?_
    refine VJ.iconst (v := nI 0) C dL_personHolds_2 (by decide) ?_
    refine VJ.iload_n C 2 dL_personHolds_3 rfl ?_
    refine VJ.iload_n C 3 dL_personHolds_4 rfl ?_
    refine VJ.a_asOf (w := 0) CX hN hM0 L hq (by omega) hs hk (vx_cwSW 5 C.1.2.2.2.2 gL_personHolds_L_asOf rfl rfl rfl hy_L_asOf ⟨Nat.le_of_ble_eq_true rfl, Nat.le_of_ble_eq_true rfl⟩) (Nat.le_of_ble_eq_true rfl) dL_personHolds_5 ⟨Nat.le_of_ble_eq_true rfl, Nat.le_of_ble_eq_true rfl⟩ (fun M1 hM1 => ?_)
    refine VJ.lnv (y := (nI 0).toInt64) (congrArg Int32.toInt64 t0) ?_
    refine VJ.lstore C [(5, .long ((nI 0).toInt64)), (0, .ref ox), (1, .int (nI q)), (2, .int (nI ss)), (3, .int (nI kk)), (4, .int (nI P))] dL_personHolds_8 (Nat.le_of_ble_eq_true rfl) rfl ?_
    refine VJ.aload_n C 1 dL_personHolds_10 rfl ?_
    refine VJ.iload_n C 2 dL_personHolds_11 rfl ?_
    refine VJ.iconst (v := nI 3) C dL_personHolds_12 (by decide) ?_
    refine VJ.iload_n C 3 dL_personHolds_13 rfl ?_
    refine VJ.iload_n C 4 dL_personHolds_14 rfl ?_
    refine VJ.a_asOf (w := 3) CX hN hM1 L hq (by omega) hs hk (vx_cwSW 5 C.1.2.2.2.2 gL_personHolds_L_asOf rfl rfl rfl hy_L_asOf ⟨Nat.le_of_ble_eq_true rfl, Nat.le_of_ble_eq_true rfl⟩) (Nat.le_of_ble_eq_true rfl) dL_personHolds_15 ⟨Nat.le_of_ble_eq_true rfl, Nat.le_of_ble_eq_true rfl⟩ (fun M2 hM2 => ?_)
    refine VJ.lnv (y := (-1 : Int32).toInt64) (congrArg Int32.toInt64 t3) ?_
    refine VJ.lstore C [(7, .long ((-1 : Int32).toInt64)), (5, .long ((nI 0).toInt64)), (0, .ref ox), (1, .int (nI q)), (2, .int (nI ss)), (3, .int (nI kk)), (4, .int (nI P))] dL_personHolds_18 (Nat.le_of_ble_eq_true rfl) rfl ?_
    refine VJ.aload_n C 2 dL_personHolds_20 rfl ?_
    refine VJ.iload_n C 3 dL_personHolds_21 rfl ?_
    refine VJ.iconst (v := nI 4) C dL_personHolds_22 (by decide) ?_
    refine VJ.iload_n C 4 dL_personHolds_23 rfl ?_
    refine VJ.iload_n C 5 dL_personHolds_24 rfl ?_
    refine VJ.a_asOf (w := 4) CX hN hM2 L hq (by omega) hs hk (vx_cwSW 5 C.1.2.2.2.2 gL_personHolds_L_asOf rfl rfl rfl hy_L_asOf ⟨Nat.le_of_ble_eq_true rfl, Nat.le_of_ble_eq_true rfl⟩) (Nat.le_of_ble_eq_true rfl) dL_personHolds_25 ⟨Nat.le_of_ble_eq_true rfl, Nat.le_of_ble_eq_true rfl⟩ (fun M3 hM3 => ?_)
    refine VJ.lnv (y := (-1 : Int32).toInt64) (congrArg Int32.toInt64 t4) ?_
    refine VJ.lstore C [(9, .long ((-1 : Int32).toInt64)), (7, .long ((-1 : Int32).toInt64)), (5, .long ((nI 0).toInt64)), (0, .ref ox), (1, .int (nI q)), (2, .int (nI ss)), (3, .int (nI kk)), (4, .int (nI P))] dL_personHolds_28 (Nat.le_of_ble_eq_true rfl) rfl ?_
    refine VJ.aload_n C 3 dL_personHolds_30 rfl ?_
    refine VJ.iload_n C 4 dL_personHolds_31 rfl ?_
    refine VJ.bipush (v := nI 6) C dL_personHolds_32 (by decide) ?_
    refine VJ.iload_n C 5 dL_personHolds_34 rfl ?_
    refine VJ.iload_n C 6 dL_personHolds_35 rfl ?_
    refine VJ.a_asOf (w := 6) CX hN hM3 L hq (by omega) hs hk (vx_cwSW 5 C.1.2.2.2.2 gL_personHolds_L_asOf rfl rfl rfl hy_L_asOf ⟨Nat.le_of_ble_eq_true rfl, Nat.le_of_ble_eq_true rfl⟩) (Nat.le_of_ble_eq_true rfl) dL_personHolds_36 ⟨Nat.le_of_ble_eq_true rfl, Nat.le_of_ble_eq_true rfl⟩ (fun M4 hM4 => ?_)
    refine VJ.lnv (y := (-1 : Int32).toInt64) (congrArg Int32.toInt64 t6) ?_
    refine VJ.lstore C [(11, .long ((-1 : Int32).toInt64)), (9, .long ((-1 : Int32).toInt64)), (7, .long ((-1 : Int32).toInt64)), (5, .long ((nI 0).toInt64)), (0, .ref ox), (1, .int (nI q)), (2, .int (nI ss)), (3, .int (nI kk)), (4, .int (nI P))] dL_personHolds_39 (Nat.le_of_ble_eq_true rfl) rfl ?_
    refine VJ.lload C 3 dL_personHolds_41 rfl ?_
    refine VJ.lconst (v := (nI 1).toInt64) C dL_personHolds_43 (by decide) ?_
    refine VJ.lcl C (by decide) dL_personHolds_44 ?_
    refine VJ.xif_ne_t C 52 (by decide) dL_personHolds_45 (by decide) ?_
    refine VJ.iconst (v := nI 0) C dL_personHolds_52 (by decide) ?_
    refine VJ.istore C [(13, .int (nI 0)), (11, .long ((-1 : Int32).toInt64)), (9, .long ((-1 : Int32).toInt64)), (7, .long ((-1 : Int32).toInt64)), (5, .long ((nI 0).toInt64)), (0, .ref ox), (1, .int (nI q)), (2, .int (nI ss)), (3, .int (nI kk)), (4, .int (nI P))] dL_personHolds_53 (Nat.le_of_ble_eq_true rfl) rfl ?_
    refine VJ.lload C 4 dL_personHolds_55 rfl ?_
    refine VJ.lconst (v := (nI 0).toInt64) C dL_personHolds_57 (by decide) ?_
    refine VJ.lce C (by decide) dL_personHolds_58 ?_
    refine VJ.xif_lt_f C 248 (by decide) dL_personHolds_59 (by decide) ?_
    refine VJ.lload C 4 dL_personHolds_62 rfl ?_
    refine VJ.ldc2 (v := 3) C (C.1.2.2.2.2 _ (List.mem_of_getElem? (i := 1) rfl)) dL_personHolds_64 ?_
    refine VJ.lnv (y := (nI 3).toInt64) (by decide) ?_
    refine VJ.lcl C (by decide) dL_personHolds_67 ?_
    refine VJ.xif_gt_f C 248 (by decide) dL_personHolds_68 (by decide) ?_
    refine VJ.aload_n C 5 dL_personHolds_71 rfl ?_
    refine VJ.iload_n C 6 dL_personHolds_72 rfl ?_
    refine VJ.iconst (v := nI 1) C dL_personHolds_73 (by decide) ?_
    refine VJ.iload_n C 7 dL_personHolds_74 rfl ?_
    refine VJ.iload_n C 8 dL_personHolds_75 rfl ?_
    refine VJ.a_asOf (w := 1) CX hN hM4 L hq (by omega) hs hk (vx_cwSW 5 C.1.2.2.2.2 gL_personHolds_L_asOf rfl rfl rfl hy_L_asOf ⟨Nat.le_of_ble_eq_true rfl, Nat.le_of_ble_eq_true rfl⟩) (Nat.le_of_ble_eq_true rfl) dL_personHolds_76 ⟨Nat.le_of_ble_eq_true rfl, Nat.le_of_ble_eq_true rfl⟩ (fun M5 hM5 => ?_)
    refine VJ.lnv (y := (-1 : Int32).toInt64) (congrArg Int32.toInt64 t1) ?_
    refine VJ.lconst (v := (nI 0).toInt64) C dL_personHolds_79 (by decide) ?_
    refine VJ.lcl C (by decide) dL_personHolds_80 ?_
    refine VJ.xif_lt_t C 88 (by decide) dL_personHolds_81 (by decide) ?_
    refine VJ.iconst (v := nI 0) C dL_personHolds_88 (by decide) ?_
    refine VJ.iload C 0 dL_personHolds_89 rfl ?_
    refine VJ.xicmp_ne_f C 248 (by decide) dL_personHolds_91 (by decide) ?_
    refine VJ.aload_n C 5 dL_personHolds_94 rfl ?_
    refine VJ.iload_n C 6 dL_personHolds_95 rfl ?_
    refine VJ.iconst (v := nI 2) C dL_personHolds_96 (by decide) ?_
    refine VJ.iload_n C 7 dL_personHolds_97 rfl ?_
    refine VJ.iload_n C 8 dL_personHolds_98 rfl ?_
    refine VJ.a_asOf (w := 2) CX hN hM5 L hq (by omega) hs hk (vx_cwSW 5 C.1.2.2.2.2 gL_personHolds_L_asOf rfl rfl rfl hy_L_asOf ⟨Nat.le_of_ble_eq_true rfl, Nat.le_of_ble_eq_true rfl⟩) (Nat.le_of_ble_eq_true rfl) dL_personHolds_99 ⟨Nat.le_of_ble_eq_true rfl, Nat.le_of_ble_eq_true rfl⟩ (fun M6 hM6 => ?_)
    refine VJ.lnv (y := (-1 : Int32).toInt64) (congrArg Int32.toInt64 t2) ?_
    refine VJ.lconst (v := (nI 0).toInt64) C dL_personHolds_102 (by decide) ?_
    refine VJ.lcl C (by decide) dL_personHolds_103 ?_
    refine VJ.xif_lt_t C 111 (by decide) dL_personHolds_104 (by decide) ?_
    refine VJ.iconst (v := nI 0) C dL_personHolds_111 (by decide) ?_
    refine VJ.iload C 0 dL_personHolds_112 rfl ?_
    refine VJ.xif_ne_f C 126 (by decide) dL_personHolds_114 (by decide) ?_
    refine VJ.lload C 4 dL_personHolds_117 rfl ?_
    refine VJ.ldc2 (v := 2) C (C.1.2.2.2.2 _ (List.mem_of_getElem? (i := 2) rfl)) dL_personHolds_119 ?_
    refine VJ.lnv (y := (nI 2).toInt64) (by decide) ?_
    refine VJ.lcl C (by decide) dL_personHolds_122 ?_
    refine VJ.xif_ne_t C 130 (by decide) dL_personHolds_123 (by decide) ?_
    refine VJ.iconst (v := nI 0) C dL_personHolds_130 (by decide) ?_
    refine VJ.xicmp_ne_f C 248 (by decide) dL_personHolds_131 (by decide) ?_
    refine VJ.iload C 0 dL_personHolds_134 rfl ?_
    refine VJ.xif_ne_f C 148 (by decide) dL_personHolds_136 (by decide) ?_
    refine VJ.lload C 3 dL_personHolds_139 rfl ?_
    refine VJ.ldc2 (v := -1) C (C.1.2.2.2.2 _ (List.mem_of_getElem? (i := 3) rfl)) dL_personHolds_141 ?_
    refine VJ.lnv (y := (-1 : Int32).toInt64) (by decide) ?_
    refine VJ.lce C (by decide) dL_personHolds_144 ?_
    refine VJ.xif_ne_f C 248 (by decide) dL_personHolds_145 (by decide) ?_
    refine VJ.iload C 0 dL_personHolds_148 rfl ?_
    refine VJ.xif_ne_f C 171 (by decide) dL_personHolds_150 (by decide) ?_
    refine VJ.lload C 4 dL_personHolds_153 rfl ?_
    refine VJ.ldc2 (v := 2) C (C.1.2.2.2.2 _ (List.mem_of_getElem? (i := 2) rfl)) dL_personHolds_155 ?_
    refine VJ.lnv (y := (nI 2).toInt64) (by decide) ?_
    refine VJ.lcl C (by decide) dL_personHolds_158 ?_
    refine VJ.xif_eq_f C 171 (by decide) dL_personHolds_159 (by decide) ?_
    refine VJ.lload C 2 dL_personHolds_162 rfl ?_
    refine VJ.ldc2 (v := -1) C (C.1.2.2.2.2 _ (List.mem_of_getElem? (i := 3) rfl)) dL_personHolds_164 ?_
    refine VJ.lnv (y := (-1 : Int32).toInt64) (by decide) ?_
    refine VJ.lce C (by decide) dL_personHolds_167 ?_
    refine VJ.xif_ne_f C 248 (by decide) dL_personHolds_168 (by decide) ?_
    refine VJ.lload C 2 dL_personHolds_171 rfl ?_
    refine VJ.iload_n C 6 dL_personHolds_173 rfl ?_
    refine VJ.i2l C dL_personHolds_174 ?_
    refine VJ.lcmp C dL_personHolds_175 ?_
    refine VJ.xif_eq_f C 248 (lc_ne (fun z => nI_m1 (by omega) z.symm)) dL_personHolds_176 (by decide) ?_
    refine VJ.lload C 3 dL_personHolds_179 rfl ?_
    refine VJ.iload_n C 6 dL_personHolds_181 rfl ?_
    refine VJ.i2l C dL_personHolds_182 ?_
    refine VJ.lcmp C dL_personHolds_183 ?_
    refine VJ.xif_eq_f C 248 (lc_ne (fun z => nI_m1 (by omega) z.symm)) dL_personHolds_184 (by decide) ?_
    refine VJ.lload C 2 dL_personHolds_187 rfl ?_
    refine VJ.iload C 9 dL_personHolds_189 rfl ?_
    refine VJ.i2l C dL_personHolds_191 ?_
    refine VJ.lcmp C dL_personHolds_192 ?_
    refine VJ.xif_ge_f C 248 (lc_m (by omega) (by rw [m1_i]; omega)) dL_personHolds_193 (by decide) ?_
    refine VJ.aload_n C 5 dL_personHolds_196 rfl ?_
    refine VJ.iload_n C 6 dL_personHolds_197 rfl ?_
    refine VJ.iconst (v := nI 5) C dL_personHolds_198 (by decide) ?_
    refine VJ.iload_n C 7 dL_personHolds_199 rfl ?_
    refine VJ.iload_n C 8 dL_personHolds_200 rfl ?_
    refine VJ.a_asOf (w := 5) CX hN hM6 L hq (by omega) hs hk (vx_cwSW 5 C.1.2.2.2.2 gL_personHolds_L_asOf rfl rfl rfl hy_L_asOf ⟨Nat.le_of_ble_eq_true rfl, Nat.le_of_ble_eq_true rfl⟩) (Nat.le_of_ble_eq_true rfl) dL_personHolds_201 ⟨Nat.le_of_ble_eq_true rfl, Nat.le_of_ble_eq_true rfl⟩ (fun M7 hM7 => ?_)
    refine VJ.lnv (y := (-1 : Int32).toInt64) (congrArg Int32.toInt64 t5) ?_
    refine VJ.lconst (v := (nI 0).toInt64) C dL_personHolds_204 (by decide) ?_
    refine VJ.lcl C (by decide) dL_personHolds_205 ?_
    refine VJ.xif_lt_t C 213 (by decide) dL_personHolds_206 (by decide) ?_
    refine VJ.iconst (v := nI 0) C dL_personHolds_213 (by decide) ?_
    refine VJ.iload C 0 dL_personHolds_214 rfl ?_
    refine VJ.xicmp_ne_f C 248 (by decide) dL_personHolds_216 (by decide) ?_
    refine VJ.lload C 1 dL_personHolds_219 rfl ?_
    refine VJ.lconst (v := (nI 0).toInt64) C dL_personHolds_221 (by decide) ?_
    refine VJ.lcl C (by decide) dL_personHolds_222 ?_
    refine VJ.xif_lt_t C 230 (by decide) dL_personHolds_223 (by decide) ?_
    refine VJ.iconst (v := nI 0) C dL_personHolds_230 (by decide) ?_
    refine VJ.iload C 0 dL_personHolds_231 rfl ?_
    refine VJ.xicmp_ne_f C 248 (by decide) dL_personHolds_233 (by decide) ?_
    refine VJ.lload C 1 dL_personHolds_236 rfl ?_
    refine VJ.iload_n C 6 dL_personHolds_238 rfl ?_
    refine VJ.i2l C dL_personHolds_239 ?_
    refine VJ.lcmp C dL_personHolds_240 ?_
    refine VJ.xif_gt_f C 248 (by rw [lcmp_l (by rw [Int64.lt_iff_toInt_lt, m1_ti, nl_ti (by omega)]; omega)]; decide) dL_personHolds_241 (by decide) ?_
    refine VJ.iconst (v := nI 1) C dL_personHolds_244 (by decide) ?_
    refine VJ.goto C 249 dL_personHolds_245 (by decide) ?_
    refine VJ.istore C [(14, .int (nI 1)), (13, .int (nI 0)), (11, .long ((-1 : Int32).toInt64)), (9, .long ((-1 : Int32).toInt64)), (7, .long ((-1 : Int32).toInt64)), (5, .long ((nI 0).toInt64)), (0, .ref ox), (1, .int (nI q)), (2, .int (nI ss)), (3, .int (nI kk)), (4, .int (nI P))] dL_personHolds_249 (Nat.le_of_ble_eq_true rfl) rfl ?_
    refine VJ.iload C 1 dL_personHolds_251 rfl ?_
    refine VJ.xif_eq_t C 306 (by decide) dL_personHolds_253 (by decide) ?_
    refine VJ.iload C 1 dL_personHolds_306 rfl ?_
    refine VJ.xif_eq_t C 369 (by decide) dL_personHolds_308 (by decide) ?_
    refine VJ.iload C 0 dL_personHolds_369 rfl ?_
    exact VJ.zretN C rmL_personHolds.cells rmL_personHolds.slots rfl (fun _ h9 => h9) ⟨rfl, hM7⟩ hret (Nat.le_of_ble_eq_true rfl) (Nat.le_of_ble_eq_true rfl) dL_personHolds_371
  · refine VJ.aload_n C 0 dL_personHolds_0 rfl ?_
    refine VJ.iload_n C 1 dL_personHolds_1 rfl ?_
    refine VJ.iconst (v := nI 0) C dL_personHolds_2 (by decide) ?_
    refine VJ.iload_n C 2 dL_personHolds_3 rfl ?_
    refine VJ.iload_n C 3 dL_personHolds_4 rfl ?_
    refine VJ.a_asOf (w := 0) CX hN hM0 L hq (by omega) hs hk (vx_cwSW 5 C.1.2.2.2.2 gL_personHolds_L_asOf rfl rfl rfl hy_L_asOf ⟨Nat.le_of_ble_eq_true rfl, Nat.le_of_ble_eq_true rfl⟩) (Nat.le_of_ble_eq_true rfl) dL_personHolds_5 ⟨Nat.le_of_ble_eq_true rfl, Nat.le_of_ble_eq_true rfl⟩ (fun M1 hM1 => ?_)
    refine VJ.lnv (y := (nI 3).toInt64) (congrArg Int32.toInt64 t0) ?_
    refine VJ.lstore C [(5, .long ((nI 3).toInt64)), (0, .ref ox), (1, .int (nI q)), (2, .int (nI ss)), (3, .int (nI kk)), (4, .int (nI P))] dL_personHolds_8 (Nat.le_of_ble_eq_true rfl) rfl ?_
    refine VJ.aload_n C 1 dL_personHolds_10 rfl ?_
    refine VJ.iload_n C 2 dL_personHolds_11 rfl ?_
    refine VJ.iconst (v := nI 3) C dL_personHolds_12 (by decide) ?_
    refine VJ.iload_n C 3 dL_personHolds_13 rfl ?_
    refine VJ.iload_n C 4 dL_personHolds_14 rfl ?_
    refine VJ.a_asOf (w := 3) CX hN hM1 L hq (by omega) hs hk (vx_cwSW 5 C.1.2.2.2.2 gL_personHolds_L_asOf rfl rfl rfl hy_L_asOf ⟨Nat.le_of_ble_eq_true rfl, Nat.le_of_ble_eq_true rfl⟩) (Nat.le_of_ble_eq_true rfl) dL_personHolds_15 ⟨Nat.le_of_ble_eq_true rfl, Nat.le_of_ble_eq_true rfl⟩ (fun M2 hM2 => ?_)
    refine VJ.lnv (y := (-1 : Int32).toInt64) (congrArg Int32.toInt64 t3) ?_
    refine VJ.lstore C [(7, .long ((-1 : Int32).toInt64)), (5, .long ((nI 3).toInt64)), (0, .ref ox), (1, .int (nI q)), (2, .int (nI ss)), (3, .int (nI kk)), (4, .int (nI P))] dL_personHolds_18 (Nat.le_of_ble_eq_true rfl) rfl ?_
    refine VJ.aload_n C 2 dL_personHolds_20 rfl ?_
    refine VJ.iload_n C 3 dL_personHolds_21 rfl ?_
    refine VJ.iconst (v := nI 4) C dL_personHolds_22 (by decide) ?_
    refine VJ.iload_n C 4 dL_personHolds_23 rfl ?_
    refine VJ.iload_n C 5 dL_personHolds_24 rfl ?_
    refine VJ.a_asOf (w := 4) CX hN hM2 L hq (by omega) hs hk (vx_cwSW 5 C.1.2.2.2.2 gL_personHolds_L_asOf rfl rfl rfl hy_L_asOf ⟨Nat.le_of_ble_eq_true rfl, Nat.le_of_ble_eq_true rfl⟩) (Nat.le_of_ble_eq_true rfl) dL_personHolds_25 ⟨Nat.le_of_ble_eq_true rfl, Nat.le_of_ble_eq_true rfl⟩ (fun M3 hM3 => ?_)
    refine VJ.lnv (y := (-1 : Int32).toInt64) (congrArg Int32.toInt64 t4) ?_
    refine VJ.lstore C [(9, .long ((-1 : Int32).toInt64)), (7, .long ((-1 : Int32).toInt64)), (5, .long ((nI 3).toInt64)), (0, .ref ox), (1, .int (nI q)), (2, .int (nI ss)), (3, .int (nI kk)), (4, .int (nI P))] dL_personHolds_28 (Nat.le_of_ble_eq_true rfl) rfl ?_
    refine VJ.aload_n C 3 dL_personHolds_30 rfl ?_
    refine VJ.iload_n C 4 dL_personHolds_31 rfl ?_
    refine VJ.bipush (v := nI 6) C dL_personHolds_32 (by decide) ?_
    refine VJ.iload_n C 5 dL_personHolds_34 rfl ?_
    refine VJ.iload_n C 6 dL_personHolds_35 rfl ?_
    refine VJ.a_asOf (w := 6) CX hN hM3 L hq (by omega) hs hk (vx_cwSW 5 C.1.2.2.2.2 gL_personHolds_L_asOf rfl rfl rfl hy_L_asOf ⟨Nat.le_of_ble_eq_true rfl, Nat.le_of_ble_eq_true rfl⟩) (Nat.le_of_ble_eq_true rfl) dL_personHolds_36 ⟨Nat.le_of_ble_eq_true rfl, Nat.le_of_ble_eq_true rfl⟩ (fun M4 hM4 => ?_)
    refine VJ.lnv (y := (-1 : Int32).toInt64) (congrArg Int32.toInt64 t6) ?_
    refine VJ.lstore C [(11, .long ((-1 : Int32).toInt64)), (9, .long ((-1 : Int32).toInt64)), (7, .long ((-1 : Int32).toInt64)), (5, .long ((nI 3).toInt64)), (0, .ref ox), (1, .int (nI q)), (2, .int (nI ss)), (3, .int (nI kk)), (4, .int (nI P))] dL_personHolds_39 (Nat.le_of_ble_eq_true rfl) rfl ?_
    refine VJ.lload C 3 dL_personHolds_41 rfl ?_
    refine VJ.lconst (v := (nI 1).toInt64) C dL_personHolds_43 (by decide) ?_
    refine VJ.lcg C (by decide) dL_personHolds_44 ?_
    refine VJ.xif_ne_t C 52 (by decide) dL_personHolds_45 (by decide) ?_
    refine VJ.iconst (v := nI 0) C dL_personHolds_52 (by decide) ?_
    refine VJ.istore C [(13, .int (nI 0)), (11, .long ((-1 : Int32).toInt64)), (9, .long ((-1 : Int32).toInt64)), (7, .long ((-1 : Int32).toInt64)), (5, .long ((nI 3).toInt64)), (0, .ref ox), (1, .int (nI q)), (2, .int (nI ss)), (3, .int (nI kk)), (4, .int (nI P))] dL_personHolds_53 (Nat.le_of_ble_eq_true rfl) rfl ?_
    refine VJ.lload C 4 dL_personHolds_55 rfl ?_
    refine VJ.lconst (v := (nI 0).toInt64) C dL_personHolds_57 (by decide) ?_
    refine VJ.lcg C (by decide) dL_personHolds_58 ?_
    refine VJ.xif_lt_f C 248 (by decide) dL_personHolds_59 (by decide) ?_
    refine VJ.lload C 4 dL_personHolds_62 rfl ?_
    refine VJ.ldc2 (v := 3) C (C.1.2.2.2.2 _ (List.mem_of_getElem? (i := 1) rfl)) dL_personHolds_64 ?_
    refine VJ.lnv (y := (nI 3).toInt64) (by decide) ?_
    refine VJ.lce C (by decide) dL_personHolds_67 ?_
    refine VJ.xif_gt_f C 248 (by decide) dL_personHolds_68 (by decide) ?_
    refine VJ.aload_n C 5 dL_personHolds_71 rfl ?_
    refine VJ.iload_n C 6 dL_personHolds_72 rfl ?_
    refine VJ.iconst (v := nI 1) C dL_personHolds_73 (by decide) ?_
    refine VJ.iload_n C 7 dL_personHolds_74 rfl ?_
    refine VJ.iload_n C 8 dL_personHolds_75 rfl ?_
    refine VJ.a_asOf (w := 1) CX hN hM4 L hq (by omega) hs hk (vx_cwSW 5 C.1.2.2.2.2 gL_personHolds_L_asOf rfl rfl rfl hy_L_asOf ⟨Nat.le_of_ble_eq_true rfl, Nat.le_of_ble_eq_true rfl⟩) (Nat.le_of_ble_eq_true rfl) dL_personHolds_76 ⟨Nat.le_of_ble_eq_true rfl, Nat.le_of_ble_eq_true rfl⟩ (fun M5 hM5 => ?_)
    refine VJ.lnv (y := (-1 : Int32).toInt64) (congrArg Int32.toInt64 t1) ?_
    refine VJ.lconst (v := (nI 0).toInt64) C dL_personHolds_79 (by decide) ?_
    refine VJ.lcl C (by decide) dL_personHolds_80 ?_
    refine VJ.xif_lt_t C 88 (by decide) dL_personHolds_81 (by decide) ?_
    refine VJ.iconst (v := nI 0) C dL_personHolds_88 (by decide) ?_
    refine VJ.iload C 0 dL_personHolds_89 rfl ?_
    refine VJ.xicmp_ne_f C 248 (by decide) dL_personHolds_91 (by decide) ?_
    refine VJ.aload_n C 5 dL_personHolds_94 rfl ?_
    refine VJ.iload_n C 6 dL_personHolds_95 rfl ?_
    refine VJ.iconst (v := nI 2) C dL_personHolds_96 (by decide) ?_
    refine VJ.iload_n C 7 dL_personHolds_97 rfl ?_
    refine VJ.iload_n C 8 dL_personHolds_98 rfl ?_
    refine VJ.a_asOf (w := 2) CX hN hM5 L hq (by omega) hs hk (vx_cwSW 5 C.1.2.2.2.2 gL_personHolds_L_asOf rfl rfl rfl hy_L_asOf ⟨Nat.le_of_ble_eq_true rfl, Nat.le_of_ble_eq_true rfl⟩) (Nat.le_of_ble_eq_true rfl) dL_personHolds_99 ⟨Nat.le_of_ble_eq_true rfl, Nat.le_of_ble_eq_true rfl⟩ (fun M6 hM6 => ?_)
    refine VJ.lnv (y := (-1 : Int32).toInt64) (congrArg Int32.toInt64 t2) ?_
    refine VJ.lconst (v := (nI 0).toInt64) C dL_personHolds_102 (by decide) ?_
    refine VJ.lcl C (by decide) dL_personHolds_103 ?_
    refine VJ.xif_lt_t C 111 (by decide) dL_personHolds_104 (by decide) ?_
    refine VJ.iconst (v := nI 0) C dL_personHolds_111 (by decide) ?_
    refine VJ.iload C 0 dL_personHolds_112 rfl ?_
    refine VJ.xif_ne_f C 126 (by decide) dL_personHolds_114 (by decide) ?_
    refine VJ.lload C 4 dL_personHolds_117 rfl ?_
    refine VJ.ldc2 (v := 2) C (C.1.2.2.2.2 _ (List.mem_of_getElem? (i := 2) rfl)) dL_personHolds_119 ?_
    refine VJ.lnv (y := (nI 2).toInt64) (by decide) ?_
    refine VJ.lcg C (by decide) dL_personHolds_122 ?_
    refine VJ.xif_ne_t C 130 (by decide) dL_personHolds_123 (by decide) ?_
    refine VJ.iconst (v := nI 0) C dL_personHolds_130 (by decide) ?_
    refine VJ.xicmp_ne_f C 248 (by decide) dL_personHolds_131 (by decide) ?_
    refine VJ.iload C 0 dL_personHolds_134 rfl ?_
    refine VJ.xif_ne_f C 148 (by decide) dL_personHolds_136 (by decide) ?_
    refine VJ.lload C 3 dL_personHolds_139 rfl ?_
    refine VJ.ldc2 (v := -1) C (C.1.2.2.2.2 _ (List.mem_of_getElem? (i := 3) rfl)) dL_personHolds_141 ?_
    refine VJ.lnv (y := (-1 : Int32).toInt64) (by decide) ?_
    refine VJ.lce C (by decide) dL_personHolds_144 ?_
    refine VJ.xif_ne_f C 248 (by decide) dL_personHolds_145 (by decide) ?_
    refine VJ.iload C 0 dL_personHolds_148 rfl ?_
    refine VJ.xif_ne_f C 171 (by decide) dL_personHolds_150 (by decide) ?_
    refine VJ.lload C 4 dL_personHolds_153 rfl ?_
    refine VJ.ldc2 (v := 2) C (C.1.2.2.2.2 _ (List.mem_of_getElem? (i := 2) rfl)) dL_personHolds_155 ?_
    refine VJ.lnv (y := (nI 2).toInt64) (by decide) ?_
    refine VJ.lcg C (by decide) dL_personHolds_158 ?_
    refine VJ.xif_eq_f C 171 (by decide) dL_personHolds_159 (by decide) ?_
    refine VJ.lload C 2 dL_personHolds_162 rfl ?_
    refine VJ.ldc2 (v := -1) C (C.1.2.2.2.2 _ (List.mem_of_getElem? (i := 3) rfl)) dL_personHolds_164 ?_
    refine VJ.lnv (y := (-1 : Int32).toInt64) (by decide) ?_
    refine VJ.lce C (by decide) dL_personHolds_167 ?_
    refine VJ.xif_ne_f C 248 (by decide) dL_personHolds_168 (by decide) ?_
    refine VJ.lload C 2 dL_personHolds_171 rfl ?_
    refine VJ.iload_n C 6 dL_personHolds_173 rfl ?_
    refine VJ.i2l C dL_personHolds_174 ?_
    refine VJ.lcmp C dL_personHolds_175 ?_
    refine VJ.xif_eq_f C 248 (lc_ne (fun z => nI_m1 (by omega) z.symm)) dL_personHolds_176 (by decide) ?_
    refine VJ.lload C 3 dL_personHolds_179 rfl ?_
    refine VJ.iload_n C 6 dL_personHolds_181 rfl ?_
    refine VJ.i2l C dL_personHolds_182 ?_
    refine VJ.lcmp C dL_personHolds_183 ?_
    refine VJ.xif_eq_f C 248 (lc_ne (fun z => nI_m1 (by omega) z.symm)) dL_personHolds_184 (by decide) ?_
    refine VJ.lload C 2 dL_personHolds_187 rfl ?_
    refine VJ.iload C 9 dL_personHolds_189 rfl ?_
    refine VJ.i2l C dL_personHolds_191 ?_
    refine VJ.lcmp C dL_personHolds_192 ?_
    refine VJ.xif_ge_f C 248 (lc_m (by omega) (by rw [m1_i]; omega)) dL_personHolds_193 (by decide) ?_
    refine VJ.aload_n C 5 dL_personHolds_196 rfl ?_
    refine VJ.iload_n C 6 dL_personHolds_197 rfl ?_
    refine VJ.iconst (v := nI 5) C dL_personHolds_198 (by decide) ?_
    refine VJ.iload_n C 7 dL_personHolds_199 rfl ?_
    refine VJ.iload_n C 8 dL_personHolds_200 rfl ?_
    refine VJ.a_asOf (w := 5) CX hN hM6 L hq (by omega) hs hk (vx_cwSW 5 C.1.2.2.2.2 gL_personHolds_L_asOf rfl rfl rfl hy_L_asOf ⟨Nat.le_of_ble_eq_true rfl, Nat.le_of_ble_eq_true rfl⟩) (Nat.le_of_ble_eq_true rfl) dL_personHolds_201 ⟨Nat.le_of_ble_eq_true rfl, Nat.le_of_ble_eq_true rfl⟩ (fun M7 hM7 => ?_)
    refine VJ.lnv (y := (-1 : Int32).toInt64) (congrArg Int32.toInt64 t5) ?_
    refine VJ.lconst (v := (nI 0).toInt64) C dL_personHolds_204 (by decide) ?_
    refine VJ.lcl C (by decide) dL_personHolds_205 ?_
    refine VJ.xif_lt_t C 213 (by decide) dL_personHolds_206 (by decide) ?_
    refine VJ.iconst (v := nI 0) C dL_personHolds_213 (by decide) ?_
    refine VJ.iload C 0 dL_personHolds_214 rfl ?_
    refine VJ.xicmp_ne_f C 248 (by decide) dL_personHolds_216 (by decide) ?_
    refine VJ.lload C 1 dL_personHolds_219 rfl ?_
    refine VJ.lconst (v := (nI 0).toInt64) C dL_personHolds_221 (by decide) ?_
    refine VJ.lcl C (by decide) dL_personHolds_222 ?_
    refine VJ.xif_lt_t C 230 (by decide) dL_personHolds_223 (by decide) ?_
    refine VJ.iconst (v := nI 0) C dL_personHolds_230 (by decide) ?_
    refine VJ.iload C 0 dL_personHolds_231 rfl ?_
    refine VJ.xicmp_ne_f C 248 (by decide) dL_personHolds_233 (by decide) ?_
    refine VJ.lload C 1 dL_personHolds_236 rfl ?_
    refine VJ.iload_n C 6 dL_personHolds_238 rfl ?_
    refine VJ.i2l C dL_personHolds_239 ?_
    refine VJ.lcmp C dL_personHolds_240 ?_
    refine VJ.xif_gt_f C 248 (by rw [lcmp_l (by rw [Int64.lt_iff_toInt_lt, m1_ti, nl_ti (by omega)]; omega)]; decide) dL_personHolds_241 (by decide) ?_
    refine VJ.iconst (v := nI 1) C dL_personHolds_244 (by decide) ?_
    refine VJ.goto C 249 dL_personHolds_245 (by decide) ?_
    refine VJ.istore C [(14, .int (nI 1)), (13, .int (nI 0)), (11, .long ((-1 : Int32).toInt64)), (9, .long ((-1 : Int32).toInt64)), (7, .long ((-1 : Int32).toInt64)), (5, .long ((nI 3).toInt64)), (0, .ref ox), (1, .int (nI q)), (2, .int (nI ss)), (3, .int (nI kk)), (4, .int (nI P))] dL_personHolds_249 (Nat.le_of_ble_eq_true rfl) rfl ?_
    refine VJ.iload C 1 dL_personHolds_251 rfl ?_
    refine VJ.xif_eq_t C 306 (by decide) dL_personHolds_253 (by decide) ?_
    refine VJ.iload C 1 dL_personHolds_306 rfl ?_
    refine VJ.xif_eq_t C 369 (by decide) dL_personHolds_308 (by decide) ?_
    refine VJ.iload C 0 dL_personHolds_369 rfl ?_
    exact VJ.zretN C rmL_personHolds.cells rmL_personHolds.slots rfl (fun _ h9 => h9) ⟨rfl, hM7⟩ hret (Nat.le_of_ble_eq_true rfl) (Nat.le_of_ble_eq_true rfl) dL_personHolds_371
  · refine VJ.aload_n C 0 dL_personHolds_0 rfl ?_
    refine VJ.iload_n C 1 dL_personHolds_1 rfl ?_
    refine VJ.iconst (v := nI 0) C dL_personHolds_2 (by decide) ?_
    refine VJ.iload_n C 2 dL_personHolds_3 rfl ?_
    refine VJ.iload_n C 3 dL_personHolds_4 rfl ?_
    refine VJ.a_asOf (w := 0) CX hN hM0 L hq (by omega) hs hk (vx_cwSW 5 C.1.2.2.2.2 gL_personHolds_L_asOf rfl rfl rfl hy_L_asOf ⟨Nat.le_of_ble_eq_true rfl, Nat.le_of_ble_eq_true rfl⟩) (Nat.le_of_ble_eq_true rfl) dL_personHolds_5 ⟨Nat.le_of_ble_eq_true rfl, Nat.le_of_ble_eq_true rfl⟩ (fun M1 hM1 => ?_)
    refine VJ.lnv (y := (nI 2).toInt64) (congrArg Int32.toInt64 t0) ?_
    refine VJ.lstore C [(5, .long ((nI 2).toInt64)), (0, .ref ox), (1, .int (nI q)), (2, .int (nI ss)), (3, .int (nI kk)), (4, .int (nI P))] dL_personHolds_8 (Nat.le_of_ble_eq_true rfl) rfl ?_
    refine VJ.aload_n C 1 dL_personHolds_10 rfl ?_
    refine VJ.iload_n C 2 dL_personHolds_11 rfl ?_
    refine VJ.iconst (v := nI 3) C dL_personHolds_12 (by decide) ?_
    refine VJ.iload_n C 3 dL_personHolds_13 rfl ?_
    refine VJ.iload_n C 4 dL_personHolds_14 rfl ?_
    refine VJ.a_asOf (w := 3) CX hN hM1 L hq (by omega) hs hk (vx_cwSW 5 C.1.2.2.2.2 gL_personHolds_L_asOf rfl rfl rfl hy_L_asOf ⟨Nat.le_of_ble_eq_true rfl, Nat.le_of_ble_eq_true rfl⟩) (Nat.le_of_ble_eq_true rfl) dL_personHolds_15 ⟨Nat.le_of_ble_eq_true rfl, Nat.le_of_ble_eq_true rfl⟩ (fun M2 hM2 => ?_)
    refine VJ.lnv (y := (-1 : Int32).toInt64) (congrArg Int32.toInt64 t3) ?_
    refine VJ.lstore C [(7, .long ((-1 : Int32).toInt64)), (5, .long ((nI 2).toInt64)), (0, .ref ox), (1, .int (nI q)), (2, .int (nI ss)), (3, .int (nI kk)), (4, .int (nI P))] dL_personHolds_18 (Nat.le_of_ble_eq_true rfl) rfl ?_
    refine VJ.aload_n C 2 dL_personHolds_20 rfl ?_
    refine VJ.iload_n C 3 dL_personHolds_21 rfl ?_
    refine VJ.iconst (v := nI 4) C dL_personHolds_22 (by decide) ?_
    refine VJ.iload_n C 4 dL_personHolds_23 rfl ?_
    refine VJ.iload_n C 5 dL_personHolds_24 rfl ?_
    refine VJ.a_asOf (w := 4) CX hN hM2 L hq (by omega) hs hk (vx_cwSW 5 C.1.2.2.2.2 gL_personHolds_L_asOf rfl rfl rfl hy_L_asOf ⟨Nat.le_of_ble_eq_true rfl, Nat.le_of_ble_eq_true rfl⟩) (Nat.le_of_ble_eq_true rfl) dL_personHolds_25 ⟨Nat.le_of_ble_eq_true rfl, Nat.le_of_ble_eq_true rfl⟩ (fun M3 hM3 => ?_)
    refine VJ.lstore C [(9, .long ((tv Rl ss lo q 4).toInt64)), (7, .long ((-1 : Int32).toInt64)), (5, .long ((nI 2).toInt64)), (0, .ref ox), (1, .int (nI q)), (2, .int (nI ss)), (3, .int (nI kk)), (4, .int (nI P))] dL_personHolds_28 (Nat.le_of_ble_eq_true rfl) rfl ?_
    refine VJ.aload_n C 3 dL_personHolds_30 rfl ?_
    refine VJ.iload_n C 4 dL_personHolds_31 rfl ?_
    refine VJ.bipush (v := nI 6) C dL_personHolds_32 (by decide) ?_
    refine VJ.iload_n C 5 dL_personHolds_34 rfl ?_
    refine VJ.iload_n C 6 dL_personHolds_35 rfl ?_
    refine VJ.a_asOf (w := 6) CX hN hM3 L hq (by omega) hs hk (vx_cwSW 5 C.1.2.2.2.2 gL_personHolds_L_asOf rfl rfl rfl hy_L_asOf ⟨Nat.le_of_ble_eq_true rfl, Nat.le_of_ble_eq_true rfl⟩) (Nat.le_of_ble_eq_true rfl) dL_personHolds_36 ⟨Nat.le_of_ble_eq_true rfl, Nat.le_of_ble_eq_true rfl⟩ (fun M4 hM4 => ?_)
    refine VJ.lnv (y := (-1 : Int32).toInt64) (congrArg Int32.toInt64 t6) ?_
    refine VJ.lstore C [(11, .long ((-1 : Int32).toInt64)), (9, .long ((tv Rl ss lo q 4).toInt64)), (7, .long ((-1 : Int32).toInt64)), (5, .long ((nI 2).toInt64)), (0, .ref ox), (1, .int (nI q)), (2, .int (nI ss)), (3, .int (nI kk)), (4, .int (nI P))] dL_personHolds_39 (Nat.le_of_ble_eq_true rfl) rfl ?_
    refine VJ.lload C 3 dL_personHolds_41 rfl ?_
    refine VJ.lconst (v := (nI 1).toInt64) C dL_personHolds_43 (by decide) ?_
    refine VJ.lcg C (by decide) dL_personHolds_44 ?_
    refine VJ.xif_ne_t C 52 (by decide) dL_personHolds_45 (by decide) ?_
    refine VJ.iconst (v := nI 0) C dL_personHolds_52 (by decide) ?_
    refine VJ.istore C [(13, .int (nI 0)), (11, .long ((-1 : Int32).toInt64)), (9, .long ((tv Rl ss lo q 4).toInt64)), (7, .long ((-1 : Int32).toInt64)), (5, .long ((nI 2).toInt64)), (0, .ref ox), (1, .int (nI q)), (2, .int (nI ss)), (3, .int (nI kk)), (4, .int (nI P))] dL_personHolds_53 (Nat.le_of_ble_eq_true rfl) rfl ?_
    refine VJ.lload C 4 dL_personHolds_55 rfl ?_
    refine VJ.lconst (v := (nI 0).toInt64) C dL_personHolds_57 (by decide) ?_
    refine VJ.lcg C (by decide) dL_personHolds_58 ?_
    refine VJ.xif_lt_f C 248 (by decide) dL_personHolds_59 (by decide) ?_
    refine VJ.lload C 4 dL_personHolds_62 rfl ?_
    refine VJ.ldc2 (v := 3) C (C.1.2.2.2.2 _ (List.mem_of_getElem? (i := 1) rfl)) dL_personHolds_64 ?_
    refine VJ.lnv (y := (nI 3).toInt64) (by decide) ?_
    refine VJ.lcl C (by decide) dL_personHolds_67 ?_
    refine VJ.xif_gt_f C 248 (by decide) dL_personHolds_68 (by decide) ?_
    refine VJ.aload_n C 5 dL_personHolds_71 rfl ?_
    refine VJ.iload_n C 6 dL_personHolds_72 rfl ?_
    refine VJ.iconst (v := nI 1) C dL_personHolds_73 (by decide) ?_
    refine VJ.iload_n C 7 dL_personHolds_74 rfl ?_
    refine VJ.iload_n C 8 dL_personHolds_75 rfl ?_
    refine VJ.a_asOf (w := 1) CX hN hM4 L hq (by omega) hs hk (vx_cwSW 5 C.1.2.2.2.2 gL_personHolds_L_asOf rfl rfl rfl hy_L_asOf ⟨Nat.le_of_ble_eq_true rfl, Nat.le_of_ble_eq_true rfl⟩) (Nat.le_of_ble_eq_true rfl) dL_personHolds_76 ⟨Nat.le_of_ble_eq_true rfl, Nat.le_of_ble_eq_true rfl⟩ (fun M5 hM5 => ?_)
    refine VJ.lnv (y := (-1 : Int32).toInt64) (congrArg Int32.toInt64 t1) ?_
    refine VJ.lconst (v := (nI 0).toInt64) C dL_personHolds_79 (by decide) ?_
    refine VJ.lcl C (by decide) dL_personHolds_80 ?_
    refine VJ.xif_lt_t C 88 (by decide) dL_personHolds_81 (by decide) ?_
    refine VJ.iconst (v := nI 0) C dL_personHolds_88 (by decide) ?_
    refine VJ.iload C 0 dL_personHolds_89 rfl ?_
    refine VJ.xicmp_ne_f C 248 (by decide) dL_personHolds_91 (by decide) ?_
    refine VJ.aload_n C 5 dL_personHolds_94 rfl ?_
    refine VJ.iload_n C 6 dL_personHolds_95 rfl ?_
    refine VJ.iconst (v := nI 2) C dL_personHolds_96 (by decide) ?_
    refine VJ.iload_n C 7 dL_personHolds_97 rfl ?_
    refine VJ.iload_n C 8 dL_personHolds_98 rfl ?_
    refine VJ.a_asOf (w := 2) CX hN hM5 L hq (by omega) hs hk (vx_cwSW 5 C.1.2.2.2.2 gL_personHolds_L_asOf rfl rfl rfl hy_L_asOf ⟨Nat.le_of_ble_eq_true rfl, Nat.le_of_ble_eq_true rfl⟩) (Nat.le_of_ble_eq_true rfl) dL_personHolds_99 ⟨Nat.le_of_ble_eq_true rfl, Nat.le_of_ble_eq_true rfl⟩ (fun M6 hM6 => ?_)
    refine VJ.lnv (y := (nI x).toInt64) (congrArg Int32.toInt64 t2) ?_
    refine VJ.lconst (v := (nI 0).toInt64) C dL_personHolds_102 (by decide) ?_
    refine VJ.lcmp C dL_personHolds_103 ?_
    refine VJ.xif_lt_f C 111 (lc_nn (by omega)) dL_personHolds_104 (by decide) ?_
    refine VJ.iconst (v := nI 1) C dL_personHolds_107 (by decide) ?_
    refine VJ.goto C 112 dL_personHolds_108 (by decide) ?_
    refine VJ.iload C 0 dL_personHolds_112 rfl ?_
    refine VJ.xif_ne_f C 126 (by decide) dL_personHolds_114 (by decide) ?_
    refine VJ.lload C 4 dL_personHolds_117 rfl ?_
    refine VJ.ldc2 (v := 2) C (C.1.2.2.2.2 _ (List.mem_of_getElem? (i := 2) rfl)) dL_personHolds_119 ?_
    refine VJ.lnv (y := (nI 2).toInt64) (by decide) ?_
    refine VJ.lce C (by decide) dL_personHolds_122 ?_
    refine VJ.xif_ne_f C 130 (by decide) dL_personHolds_123 (by decide) ?_
    refine VJ.iconst (v := nI 1) C dL_personHolds_126 (by decide) ?_
    refine VJ.goto C 131 dL_personHolds_127 (by decide) ?_
    refine VJ.xicmp_ne_f C 248 (by decide) dL_personHolds_131 (by decide) ?_
    refine VJ.iload C 0 dL_personHolds_134 rfl ?_
    refine VJ.xif_ne_f C 148 (by decide) dL_personHolds_136 (by decide) ?_
    refine VJ.lload C 3 dL_personHolds_139 rfl ?_
    refine VJ.ldc2 (v := -1) C (C.1.2.2.2.2 _ (List.mem_of_getElem? (i := 3) rfl)) dL_personHolds_141 ?_
    refine VJ.lnv (y := (-1 : Int32).toInt64) (by decide) ?_
    refine VJ.lce C (by decide) dL_personHolds_144 ?_
    refine VJ.xif_ne_f C 248 (by decide) dL_personHolds_145 (by decide) ?_
    refine VJ.iload C 0 dL_personHolds_148 rfl ?_
    refine VJ.xif_ne_f C 171 (by decide) dL_personHolds_150 (by decide) ?_
    refine VJ.lload C 4 dL_personHolds_153 rfl ?_
    refine VJ.ldc2 (v := 2) C (C.1.2.2.2.2 _ (List.mem_of_getElem? (i := 2) rfl)) dL_personHolds_155 ?_
    refine VJ.lnv (y := (nI 2).toInt64) (by decide) ?_
    refine VJ.lce C (by decide) dL_personHolds_158 ?_
    refine VJ.xif_eq_t C 171 (by decide) dL_personHolds_159 (by decide) ?_
    refine VJ.lload C 2 dL_personHolds_171 rfl ?_
    refine VJ.iload_n C 6 dL_personHolds_173 rfl ?_
    refine VJ.i2l C dL_personHolds_174 ?_
    refine VJ.lcmp C dL_personHolds_175 ?_
    refine VJ.xif_eq_f C 248 (lc_ne hm1) dL_personHolds_176 (by decide) ?_
    refine VJ.lload C 3 dL_personHolds_179 rfl ?_
    refine VJ.iload_n C 6 dL_personHolds_181 rfl ?_
    refine VJ.i2l C dL_personHolds_182 ?_
    refine VJ.lcmp C dL_personHolds_183 ?_
    refine VJ.xif_eq_f C 248 (lc_ne (fun z => nI_m1 (by omega) z.symm)) dL_personHolds_184 (by decide) ?_
    refine VJ.lload C 2 dL_personHolds_187 rfl ?_
    refine VJ.iload C 9 dL_personHolds_189 rfl ?_
    refine VJ.i2l C dL_personHolds_191 ?_
    refine VJ.lcmp C dL_personHolds_192 ?_
    refine VJ.xif_ge_f C 248 (lc_m (by omega) hm2) dL_personHolds_193 (by decide) ?_
    refine VJ.aload_n C 5 dL_personHolds_196 rfl ?_
    refine VJ.iload_n C 6 dL_personHolds_197 rfl ?_
    refine VJ.iconst (v := nI 5) C dL_personHolds_198 (by decide) ?_
    refine VJ.iload_n C 7 dL_personHolds_199 rfl ?_
    refine VJ.iload_n C 8 dL_personHolds_200 rfl ?_
    refine VJ.a_asOf (w := 5) CX hN hM6 L hq (by omega) hs hk (vx_cwSW 5 C.1.2.2.2.2 gL_personHolds_L_asOf rfl rfl rfl hy_L_asOf ⟨Nat.le_of_ble_eq_true rfl, Nat.le_of_ble_eq_true rfl⟩) (Nat.le_of_ble_eq_true rfl) dL_personHolds_201 ⟨Nat.le_of_ble_eq_true rfl, Nat.le_of_ble_eq_true rfl⟩ (fun M7 hM7 => ?_)
    refine VJ.lnv (y := (-1 : Int32).toInt64) (congrArg Int32.toInt64 t5) ?_
    refine VJ.lconst (v := (nI 0).toInt64) C dL_personHolds_204 (by decide) ?_
    refine VJ.lcl C (by decide) dL_personHolds_205 ?_
    refine VJ.xif_lt_t C 213 (by decide) dL_personHolds_206 (by decide) ?_
    refine VJ.iconst (v := nI 0) C dL_personHolds_213 (by decide) ?_
    refine VJ.iload C 0 dL_personHolds_214 rfl ?_
    refine VJ.xicmp_ne_f C 248 (by decide) dL_personHolds_216 (by decide) ?_
    refine VJ.lload C 1 dL_personHolds_219 rfl ?_
    refine VJ.lconst (v := (nI 0).toInt64) C dL_personHolds_221 (by decide) ?_
    refine VJ.lcl C (by decide) dL_personHolds_222 ?_
    refine VJ.xif_lt_t C 230 (by decide) dL_personHolds_223 (by decide) ?_
    refine VJ.iconst (v := nI 0) C dL_personHolds_230 (by decide) ?_
    refine VJ.iload C 0 dL_personHolds_231 rfl ?_
    refine VJ.xicmp_ne_f C 248 (by decide) dL_personHolds_233 (by decide) ?_
    refine VJ.lload C 1 dL_personHolds_236 rfl ?_
    refine VJ.iload_n C 6 dL_personHolds_238 rfl ?_
    refine VJ.i2l C dL_personHolds_239 ?_
    refine VJ.lcmp C dL_personHolds_240 ?_
    refine VJ.xif_gt_f C 248 (by rw [lcmp_l (by rw [Int64.lt_iff_toInt_lt, m1_ti, nl_ti (by omega)]; omega)]; decide) dL_personHolds_241 (by decide) ?_
    refine VJ.iconst (v := nI 1) C dL_personHolds_244 (by decide) ?_
    refine VJ.goto C 249 dL_personHolds_245 (by decide) ?_
    refine VJ.istore C [(14, .int (nI 1)), (13, .int (nI 0)), (11, .long ((-1 : Int32).toInt64)), (9, .long ((tv Rl ss lo q 4).toInt64)), (7, .long ((-1 : Int32).toInt64)), (5, .long ((nI 2).toInt64)), (0, .ref ox), (1, .int (nI q)), (2, .int (nI ss)), (3, .int (nI kk)), (4, .int (nI P))] dL_personHolds_249 (Nat.le_of_ble_eq_true rfl) rfl ?_
    refine VJ.iload C 1 dL_personHolds_251 rfl ?_
    refine VJ.xif_eq_t C 306 (by decide) dL_personHolds_253 (by decide) ?_
    refine VJ.iload C 1 dL_personHolds_306 rfl ?_
    refine VJ.xif_eq_t C 369 (by decide) dL_personHolds_308 (by decide) ?_
    refine VJ.iload C 0 dL_personHolds_369 rfl ?_
    exact VJ.zretN C rmL_personHolds.cells rmL_personHolds.slots rfl (fun _ h9 => h9) ⟨rfl, hM7⟩ hret (Nat.le_of_ble_eq_true rfl) (Nat.le_of_ble_eq_true rfl) dL_personHolds_371
  · have ho : o < P := by omega
    refine VJ.aload_n C 0 dL_personHolds_0 rfl ?_
    refine VJ.iload_n C 1 dL_personHolds_1 rfl ?_
    refine VJ.iconst (v := nI 0) C dL_personHolds_2 (by decide) ?_
    refine VJ.iload_n C 2 dL_personHolds_3 rfl ?_
    refine VJ.iload_n C 3 dL_personHolds_4 rfl ?_
    refine VJ.a_asOf (w := 0) CX hN hM0 L hq (by omega) hs hk (vx_cwSW 5 C.1.2.2.2.2 gL_personHolds_L_asOf rfl rfl rfl hy_L_asOf ⟨Nat.le_of_ble_eq_true rfl, Nat.le_of_ble_eq_true rfl⟩) (Nat.le_of_ble_eq_true rfl) dL_personHolds_5 ⟨Nat.le_of_ble_eq_true rfl, Nat.le_of_ble_eq_true rfl⟩ (fun M1 hM1 => ?_)
    refine VJ.lnv (y := (nI 1).toInt64) (congrArg Int32.toInt64 t0) ?_
    refine VJ.lstore C [(5, .long ((nI 1).toInt64)), (0, .ref ox), (1, .int (nI q)), (2, .int (nI ss)), (3, .int (nI kk)), (4, .int (nI P))] dL_personHolds_8 (Nat.le_of_ble_eq_true rfl) rfl ?_
    refine VJ.aload_n C 1 dL_personHolds_10 rfl ?_
    refine VJ.iload_n C 2 dL_personHolds_11 rfl ?_
    refine VJ.iconst (v := nI 3) C dL_personHolds_12 (by decide) ?_
    refine VJ.iload_n C 3 dL_personHolds_13 rfl ?_
    refine VJ.iload_n C 4 dL_personHolds_14 rfl ?_
    refine VJ.a_asOf (w := 3) CX hN hM1 L hq (by omega) hs hk (vx_cwSW 5 C.1.2.2.2.2 gL_personHolds_L_asOf rfl rfl rfl hy_L_asOf ⟨Nat.le_of_ble_eq_true rfl, Nat.le_of_ble_eq_true rfl⟩) (Nat.le_of_ble_eq_true rfl) dL_personHolds_15 ⟨Nat.le_of_ble_eq_true rfl, Nat.le_of_ble_eq_true rfl⟩ (fun M2 hM2 => ?_)
    refine VJ.lnv (y := (-1 : Int32).toInt64) (congrArg Int32.toInt64 t3) ?_
    refine VJ.lstore C [(7, .long ((-1 : Int32).toInt64)), (5, .long ((nI 1).toInt64)), (0, .ref ox), (1, .int (nI q)), (2, .int (nI ss)), (3, .int (nI kk)), (4, .int (nI P))] dL_personHolds_18 (Nat.le_of_ble_eq_true rfl) rfl ?_
    refine VJ.aload_n C 2 dL_personHolds_20 rfl ?_
    refine VJ.iload_n C 3 dL_personHolds_21 rfl ?_
    refine VJ.iconst (v := nI 4) C dL_personHolds_22 (by decide) ?_
    refine VJ.iload_n C 4 dL_personHolds_23 rfl ?_
    refine VJ.iload_n C 5 dL_personHolds_24 rfl ?_
    refine VJ.a_asOf (w := 4) CX hN hM2 L hq (by omega) hs hk (vx_cwSW 5 C.1.2.2.2.2 gL_personHolds_L_asOf rfl rfl rfl hy_L_asOf ⟨Nat.le_of_ble_eq_true rfl, Nat.le_of_ble_eq_true rfl⟩) (Nat.le_of_ble_eq_true rfl) dL_personHolds_25 ⟨Nat.le_of_ble_eq_true rfl, Nat.le_of_ble_eq_true rfl⟩ (fun M3 hM3 => ?_)
    refine VJ.lstore C [(9, .long ((tv Rl ss lo q 4).toInt64)), (7, .long ((-1 : Int32).toInt64)), (5, .long ((nI 1).toInt64)), (0, .ref ox), (1, .int (nI q)), (2, .int (nI ss)), (3, .int (nI kk)), (4, .int (nI P))] dL_personHolds_28 (Nat.le_of_ble_eq_true rfl) rfl ?_
    refine VJ.aload_n C 3 dL_personHolds_30 rfl ?_
    refine VJ.iload_n C 4 dL_personHolds_31 rfl ?_
    refine VJ.bipush (v := nI 6) C dL_personHolds_32 (by decide) ?_
    refine VJ.iload_n C 5 dL_personHolds_34 rfl ?_
    refine VJ.iload_n C 6 dL_personHolds_35 rfl ?_
    refine VJ.a_asOf (w := 6) CX hN hM3 L hq (by omega) hs hk (vx_cwSW 5 C.1.2.2.2.2 gL_personHolds_L_asOf rfl rfl rfl hy_L_asOf ⟨Nat.le_of_ble_eq_true rfl, Nat.le_of_ble_eq_true rfl⟩) (Nat.le_of_ble_eq_true rfl) dL_personHolds_36 ⟨Nat.le_of_ble_eq_true rfl, Nat.le_of_ble_eq_true rfl⟩ (fun M4 hM4 => ?_)
    refine VJ.lnv (y := (nI o).toInt64) (congrArg Int32.toInt64 t6) ?_
    refine VJ.lstore C [(11, .long ((nI o).toInt64)), (9, .long ((tv Rl ss lo q 4).toInt64)), (7, .long ((-1 : Int32).toInt64)), (5, .long ((nI 1).toInt64)), (0, .ref ox), (1, .int (nI q)), (2, .int (nI ss)), (3, .int (nI kk)), (4, .int (nI P))] dL_personHolds_39 (Nat.le_of_ble_eq_true rfl) rfl ?_
    refine VJ.lload C 3 dL_personHolds_41 rfl ?_
    refine VJ.lconst (v := (nI 1).toInt64) C dL_personHolds_43 (by decide) ?_
    refine VJ.lce C (by decide) dL_personHolds_44 ?_
    refine VJ.xif_ne_f C 52 (by decide) dL_personHolds_45 (by decide) ?_
    refine VJ.iconst (v := nI 1) C dL_personHolds_48 (by decide) ?_
    refine VJ.goto C 53 dL_personHolds_49 (by decide) ?_
    refine VJ.istore C [(13, .int (nI 1)), (11, .long ((nI o).toInt64)), (9, .long ((tv Rl ss lo q 4).toInt64)), (7, .long ((-1 : Int32).toInt64)), (5, .long ((nI 1).toInt64)), (0, .ref ox), (1, .int (nI q)), (2, .int (nI ss)), (3, .int (nI kk)), (4, .int (nI P))] dL_personHolds_53 (Nat.le_of_ble_eq_true rfl) rfl ?_
    refine VJ.lload C 4 dL_personHolds_55 rfl ?_
    refine VJ.lconst (v := (nI 0).toInt64) C dL_personHolds_57 (by decide) ?_
    refine VJ.lcg C (by decide) dL_personHolds_58 ?_
    refine VJ.xif_lt_f C 248 (by decide) dL_personHolds_59 (by decide) ?_
    refine VJ.lload C 4 dL_personHolds_62 rfl ?_
    refine VJ.ldc2 (v := 3) C (C.1.2.2.2.2 _ (List.mem_of_getElem? (i := 1) rfl)) dL_personHolds_64 ?_
    refine VJ.lnv (y := (nI 3).toInt64) (by decide) ?_
    refine VJ.lcl C (by decide) dL_personHolds_67 ?_
    refine VJ.xif_gt_f C 248 (by decide) dL_personHolds_68 (by decide) ?_
    refine VJ.aload_n C 5 dL_personHolds_71 rfl ?_
    refine VJ.iload_n C 6 dL_personHolds_72 rfl ?_
    refine VJ.iconst (v := nI 1) C dL_personHolds_73 (by decide) ?_
    refine VJ.iload_n C 7 dL_personHolds_74 rfl ?_
    refine VJ.iload_n C 8 dL_personHolds_75 rfl ?_
    refine VJ.a_asOf (w := 1) CX hN hM4 L hq (by omega) hs hk (vx_cwSW 5 C.1.2.2.2.2 gL_personHolds_L_asOf rfl rfl rfl hy_L_asOf ⟨Nat.le_of_ble_eq_true rfl, Nat.le_of_ble_eq_true rfl⟩) (Nat.le_of_ble_eq_true rfl) dL_personHolds_76 ⟨Nat.le_of_ble_eq_true rfl, Nat.le_of_ble_eq_true rfl⟩ (fun M5 hM5 => ?_)
    refine VJ.lnv (y := (nI h).toInt64) (congrArg Int32.toInt64 t1) ?_
    refine VJ.lconst (v := (nI 0).toInt64) C dL_personHolds_79 (by decide) ?_
    refine VJ.lcmp C dL_personHolds_80 ?_
    refine VJ.xif_lt_f C 88 (lc_nn (by omega)) dL_personHolds_81 (by decide) ?_
    refine VJ.iconst (v := nI 1) C dL_personHolds_84 (by decide) ?_
    refine VJ.goto C 89 dL_personHolds_85 (by decide) ?_
    refine VJ.iload C 0 dL_personHolds_89 rfl ?_
    refine VJ.xicmp_ne_f C 248 (by decide) dL_personHolds_91 (by decide) ?_
    refine VJ.aload_n C 5 dL_personHolds_94 rfl ?_
    refine VJ.iload_n C 6 dL_personHolds_95 rfl ?_
    refine VJ.iconst (v := nI 2) C dL_personHolds_96 (by decide) ?_
    refine VJ.iload_n C 7 dL_personHolds_97 rfl ?_
    refine VJ.iload_n C 8 dL_personHolds_98 rfl ?_
    refine VJ.a_asOf (w := 2) CX hN hM5 L hq (by omega) hs hk (vx_cwSW 5 C.1.2.2.2.2 gL_personHolds_L_asOf rfl rfl rfl hy_L_asOf ⟨Nat.le_of_ble_eq_true rfl, Nat.le_of_ble_eq_true rfl⟩) (Nat.le_of_ble_eq_true rfl) dL_personHolds_99 ⟨Nat.le_of_ble_eq_true rfl, Nat.le_of_ble_eq_true rfl⟩ (fun M6 hM6 => ?_)
    refine VJ.lnv (y := (nI x).toInt64) (congrArg Int32.toInt64 t2) ?_
    refine VJ.lconst (v := (nI 0).toInt64) C dL_personHolds_102 (by decide) ?_
    refine VJ.lcmp C dL_personHolds_103 ?_
    refine VJ.xif_lt_f C 111 (lc_nn (by omega)) dL_personHolds_104 (by decide) ?_
    refine VJ.iconst (v := nI 1) C dL_personHolds_107 (by decide) ?_
    refine VJ.goto C 112 dL_personHolds_108 (by decide) ?_
    refine VJ.iload C 0 dL_personHolds_112 rfl ?_
    refine VJ.xif_ne_t C 126 (by decide) dL_personHolds_114 (by decide) ?_
    refine VJ.iconst (v := nI 1) C dL_personHolds_126 (by decide) ?_
    refine VJ.goto C 131 dL_personHolds_127 (by decide) ?_
    refine VJ.xicmp_ne_f C 248 (by decide) dL_personHolds_131 (by decide) ?_
    refine VJ.iload C 0 dL_personHolds_134 rfl ?_
    refine VJ.xif_ne_t C 148 (by decide) dL_personHolds_136 (by decide) ?_
    refine VJ.iload C 0 dL_personHolds_148 rfl ?_
    refine VJ.xif_ne_t C 171 (by decide) dL_personHolds_150 (by decide) ?_
    refine VJ.lload C 2 dL_personHolds_171 rfl ?_
    refine VJ.iload_n C 6 dL_personHolds_173 rfl ?_
    refine VJ.i2l C dL_personHolds_174 ?_
    refine VJ.lcmp C dL_personHolds_175 ?_
    refine VJ.xif_eq_f C 248 (lc_ne hm1) dL_personHolds_176 (by decide) ?_
    refine VJ.lload C 3 dL_personHolds_179 rfl ?_
    refine VJ.iload_n C 6 dL_personHolds_181 rfl ?_
    refine VJ.i2l C dL_personHolds_182 ?_
    refine VJ.lcmp C dL_personHolds_183 ?_
    refine VJ.xif_eq_f C 248 (lc_ne (fun z => nI_m1 (by omega) z.symm)) dL_personHolds_184 (by decide) ?_
    refine VJ.lload C 2 dL_personHolds_187 rfl ?_
    refine VJ.iload C 9 dL_personHolds_189 rfl ?_
    refine VJ.i2l C dL_personHolds_191 ?_
    refine VJ.lcmp C dL_personHolds_192 ?_
    refine VJ.xif_ge_f C 248 (lc_m (by omega) hm2) dL_personHolds_193 (by decide) ?_
    refine VJ.aload_n C 5 dL_personHolds_196 rfl ?_
    refine VJ.iload_n C 6 dL_personHolds_197 rfl ?_
    refine VJ.iconst (v := nI 5) C dL_personHolds_198 (by decide) ?_
    refine VJ.iload_n C 7 dL_personHolds_199 rfl ?_
    refine VJ.iload_n C 8 dL_personHolds_200 rfl ?_
    refine VJ.a_asOf (w := 5) CX hN hM6 L hq (by omega) hs hk (vx_cwSW 5 C.1.2.2.2.2 gL_personHolds_L_asOf rfl rfl rfl hy_L_asOf ⟨Nat.le_of_ble_eq_true rfl, Nat.le_of_ble_eq_true rfl⟩) (Nat.le_of_ble_eq_true rfl) dL_personHolds_201 ⟨Nat.le_of_ble_eq_true rfl, Nat.le_of_ble_eq_true rfl⟩ (fun M7 hM7 => ?_)
    refine VJ.lnv (y := (nI a).toInt64) (congrArg Int32.toInt64 t5) ?_
    refine VJ.lconst (v := (nI 0).toInt64) C dL_personHolds_204 (by decide) ?_
    refine VJ.lcmp C dL_personHolds_205 ?_
    refine VJ.xif_lt_f C 213 (lc_nn (by omega)) dL_personHolds_206 (by decide) ?_
    refine VJ.iconst (v := nI 1) C dL_personHolds_209 (by decide) ?_
    refine VJ.goto C 214 dL_personHolds_210 (by decide) ?_
    refine VJ.iload C 0 dL_personHolds_214 rfl ?_
    refine VJ.xicmp_ne_f C 248 (by decide) dL_personHolds_216 (by decide) ?_
    refine VJ.lload C 1 dL_personHolds_219 rfl ?_
    refine VJ.lconst (v := (nI 0).toInt64) C dL_personHolds_221 (by decide) ?_
    refine VJ.lcmp C dL_personHolds_222 ?_
    refine VJ.xif_lt_f C 230 (lc_nn (by omega)) dL_personHolds_223 (by decide) ?_
    refine VJ.iconst (v := nI 1) C dL_personHolds_226 (by decide) ?_
    refine VJ.goto C 231 dL_personHolds_227 (by decide) ?_
    refine VJ.iload C 0 dL_personHolds_231 rfl ?_
    refine VJ.xicmp_ne_f C 248 (by decide) dL_personHolds_233 (by decide) ?_
    refine VJ.lload C 1 dL_personHolds_236 rfl ?_
    refine VJ.iload_n C 6 dL_personHolds_238 rfl ?_
    refine VJ.i2l C dL_personHolds_239 ?_
    refine VJ.lcmp C dL_personHolds_240 ?_
    refine VJ.xif_gt_f C 248 (lc_le (by omega) (by omega) hoq) dL_personHolds_241 (by decide) ?_
    refine VJ.iconst (v := nI 1) C dL_personHolds_244 (by decide) ?_
    refine VJ.goto C 249 dL_personHolds_245 (by decide) ?_
    refine VJ.istore C [(14, .int (nI 1)), (13, .int (nI 1)), (11, .long ((nI o).toInt64)), (9, .long ((tv Rl ss lo q 4).toInt64)), (7, .long ((-1 : Int32).toInt64)), (5, .long ((nI 1).toInt64)), (0, .ref ox), (1, .int (nI q)), (2, .int (nI ss)), (3, .int (nI kk)), (4, .int (nI P))] dL_personHolds_249 (Nat.le_of_ble_eq_true rfl) rfl ?_
    refine VJ.iload C 1 dL_personHolds_251 rfl ?_
    refine VJ.xif_eq_f C 306 (by decide) dL_personHolds_253 (by decide) ?_
    refine VJ.lload C 4 dL_personHolds_256 rfl ?_
    refine VJ.lconst (v := (nI 0).toInt64) C dL_personHolds_258 (by decide) ?_
    refine VJ.lcl C (by decide) dL_personHolds_259 ?_
    refine VJ.xif_lt_t C 306 (by decide) dL_personHolds_260 (by decide) ?_
    refine VJ.iload C 1 dL_personHolds_306 rfl ?_
    refine VJ.xif_eq_f C 369 (by decide) dL_personHolds_308 (by decide) ?_
    refine VJ.lload C 2 dL_personHolds_311 rfl ?_
    refine VJ.lconst (v := (nI 0).toInt64) C dL_personHolds_313 (by decide) ?_
    refine VJ.lcmp C dL_personHolds_314 ?_
    refine VJ.xif_lt_f C 369 (lc_nn (by omega)) dL_personHolds_315 (by decide) ?_
    refine VJ.iload C 0 dL_personHolds_318 rfl ?_
    refine VJ.xif_eq_f C 366 (by decide) dL_personHolds_320 (by decide) ?_
    refine VJ.aload_n C 6 dL_personHolds_323 rfl ?_
    refine VJ.lload C 2 dL_personHolds_324 rfl ?_
    refine VJ.l2i C dL_personHolds_326 (li _) ?_
    refine VJ.iconst (v := nI 1) C dL_personHolds_327 (by decide) ?_
    refine VJ.iload_n C 8 dL_personHolds_328 rfl ?_
    refine VJ.iload_n C 9 dL_personHolds_329 rfl ?_
    refine VJ.a_asOf (w := 1) CX hN hM7 L ho (by omega) hs hk (vx_cwSW 5 C.1.2.2.2.2 gL_personHolds_L_asOf rfl rfl rfl hy_L_asOf ⟨Nat.le_of_ble_eq_true rfl, Nat.le_of_ble_eq_true rfl⟩) (Nat.le_of_ble_eq_true rfl) dL_personHolds_330 ⟨Nat.le_of_ble_eq_true rfl, Nat.le_of_ble_eq_true rfl⟩ (fun M8 hM8 => ?_)
    refine VJ.lnv (y := (nI h).toInt64) (congrArg Int32.toInt64 u1) ?_
    refine VJ.aload_n C 6 dL_personHolds_333 rfl ?_
    refine VJ.iload_n C 7 dL_personHolds_334 rfl ?_
    refine VJ.iconst (v := nI 1) C dL_personHolds_335 (by decide) ?_
    refine VJ.iload_n C 8 dL_personHolds_336 rfl ?_
    refine VJ.iload_n C 9 dL_personHolds_337 rfl ?_
    refine VJ.a_asOf (w := 1) CX hN hM8 L hq (by omega) hs hk (vx_cwSW 5 C.1.2.2.2.2 gL_personHolds_L_asOf rfl rfl rfl hy_L_asOf ⟨Nat.le_of_ble_eq_true rfl, Nat.le_of_ble_eq_true rfl⟩) (Nat.le_of_ble_eq_true rfl) dL_personHolds_338 ⟨Nat.le_of_ble_eq_true rfl, Nat.le_of_ble_eq_true rfl⟩ (fun M9 hM9 => ?_)
    refine VJ.lnv (y := (nI h).toInt64) (congrArg Int32.toInt64 t1) ?_
    refine VJ.lce C (rfl) dL_personHolds_341 ?_
    refine VJ.xif_ne_f C 366 (by decide) dL_personHolds_342 (by decide) ?_
    refine VJ.aload_n C 6 dL_personHolds_345 rfl ?_
    refine VJ.lload C 2 dL_personHolds_346 rfl ?_
    refine VJ.l2i C dL_personHolds_348 (li _) ?_
    refine VJ.bipush (v := nI 6) C dL_personHolds_349 (by decide) ?_
    refine VJ.iload_n C 8 dL_personHolds_351 rfl ?_
    refine VJ.iload_n C 9 dL_personHolds_352 rfl ?_
    refine VJ.a_asOf (w := 6) CX hN hM9 L ho (by omega) hs hk (vx_cwSW 5 C.1.2.2.2.2 gL_personHolds_L_asOf rfl rfl rfl hy_L_asOf ⟨Nat.le_of_ble_eq_true rfl, Nat.le_of_ble_eq_true rfl⟩) (Nat.le_of_ble_eq_true rfl) dL_personHolds_353 ⟨Nat.le_of_ble_eq_true rfl, Nat.le_of_ble_eq_true rfl⟩ (fun M10 hM10 => ?_)
    refine VJ.lnv (y := (nI o).toInt64) (congrArg Int32.toInt64 u6) ?_
    refine VJ.lload C 2 dL_personHolds_356 rfl ?_
    refine VJ.lce C (rfl) dL_personHolds_358 ?_
    refine VJ.xif_ne_f C 366 (by decide) dL_personHolds_359 (by decide) ?_
    refine VJ.iconst (v := nI 1) C dL_personHolds_362 (by decide) ?_
    refine VJ.goto C 367 dL_personHolds_363 (by decide) ?_
    refine VJ.istore C [(14, .int (nI 1)), (13, .int (nI 1)), (11, .long ((nI o).toInt64)), (9, .long ((tv Rl ss lo q 4).toInt64)), (7, .long ((-1 : Int32).toInt64)), (5, .long ((nI 1).toInt64)), (0, .ref ox), (1, .int (nI q)), (2, .int (nI ss)), (3, .int (nI kk)), (4, .int (nI P))] dL_personHolds_367 (Nat.le_of_ble_eq_true rfl) rfl ?_
    refine VJ.iload C 0 dL_personHolds_369 rfl ?_
    exact VJ.zretN C rmL_personHolds.cells rmL_personHolds.slots rfl (fun _ h9 => h9) ⟨rfl, hM10⟩ hret (Nat.le_of_ble_eq_true rfl) (Nat.le_of_ble_eq_true rfl) dL_personHolds_371
  · have ho : o < P := by omega
    refine VJ.aload_n C 0 dL_personHolds_0 rfl ?_
    refine VJ.iload_n C 1 dL_personHolds_1 rfl ?_
    refine VJ.iconst (v := nI 0) C dL_personHolds_2 (by decide) ?_
    refine VJ.iload_n C 2 dL_personHolds_3 rfl ?_
    refine VJ.iload_n C 3 dL_personHolds_4 rfl ?_
    refine VJ.a_asOf (w := 0) CX hN hM0 L hq (by omega) hs hk (vx_cwSW 5 C.1.2.2.2.2 gL_personHolds_L_asOf rfl rfl rfl hy_L_asOf ⟨Nat.le_of_ble_eq_true rfl, Nat.le_of_ble_eq_true rfl⟩) (Nat.le_of_ble_eq_true rfl) dL_personHolds_5 ⟨Nat.le_of_ble_eq_true rfl, Nat.le_of_ble_eq_true rfl⟩ (fun M1 hM1 => ?_)
    refine VJ.lnv (y := (nI 1).toInt64) (congrArg Int32.toInt64 t0) ?_
    refine VJ.lstore C [(5, .long ((nI 1).toInt64)), (0, .ref ox), (1, .int (nI q)), (2, .int (nI ss)), (3, .int (nI kk)), (4, .int (nI P))] dL_personHolds_8 (Nat.le_of_ble_eq_true rfl) rfl ?_
    refine VJ.aload_n C 1 dL_personHolds_10 rfl ?_
    refine VJ.iload_n C 2 dL_personHolds_11 rfl ?_
    refine VJ.iconst (v := nI 3) C dL_personHolds_12 (by decide) ?_
    refine VJ.iload_n C 3 dL_personHolds_13 rfl ?_
    refine VJ.iload_n C 4 dL_personHolds_14 rfl ?_
    refine VJ.a_asOf (w := 3) CX hN hM1 L hq (by omega) hs hk (vx_cwSW 5 C.1.2.2.2.2 gL_personHolds_L_asOf rfl rfl rfl hy_L_asOf ⟨Nat.le_of_ble_eq_true rfl, Nat.le_of_ble_eq_true rfl⟩) (Nat.le_of_ble_eq_true rfl) dL_personHolds_15 ⟨Nat.le_of_ble_eq_true rfl, Nat.le_of_ble_eq_true rfl⟩ (fun M2 hM2 => ?_)
    refine VJ.lnv (y := (nI y).toInt64) (congrArg Int32.toInt64 t3) ?_
    refine VJ.lstore C [(7, .long ((nI y).toInt64)), (5, .long ((nI 1).toInt64)), (0, .ref ox), (1, .int (nI q)), (2, .int (nI ss)), (3, .int (nI kk)), (4, .int (nI P))] dL_personHolds_18 (Nat.le_of_ble_eq_true rfl) rfl ?_
    refine VJ.aload_n C 2 dL_personHolds_20 rfl ?_
    refine VJ.iload_n C 3 dL_personHolds_21 rfl ?_
    refine VJ.iconst (v := nI 4) C dL_personHolds_22 (by decide) ?_
    refine VJ.iload_n C 4 dL_personHolds_23 rfl ?_
    refine VJ.iload_n C 5 dL_personHolds_24 rfl ?_
    refine VJ.a_asOf (w := 4) CX hN hM2 L hq (by omega) hs hk (vx_cwSW 5 C.1.2.2.2.2 gL_personHolds_L_asOf rfl rfl rfl hy_L_asOf ⟨Nat.le_of_ble_eq_true rfl, Nat.le_of_ble_eq_true rfl⟩) (Nat.le_of_ble_eq_true rfl) dL_personHolds_25 ⟨Nat.le_of_ble_eq_true rfl, Nat.le_of_ble_eq_true rfl⟩ (fun M3 hM3 => ?_)
    refine VJ.lstore C [(9, .long ((tv Rl ss lo q 4).toInt64)), (7, .long ((nI y).toInt64)), (5, .long ((nI 1).toInt64)), (0, .ref ox), (1, .int (nI q)), (2, .int (nI ss)), (3, .int (nI kk)), (4, .int (nI P))] dL_personHolds_28 (Nat.le_of_ble_eq_true rfl) rfl ?_
    refine VJ.aload_n C 3 dL_personHolds_30 rfl ?_
    refine VJ.iload_n C 4 dL_personHolds_31 rfl ?_
    refine VJ.bipush (v := nI 6) C dL_personHolds_32 (by decide) ?_
    refine VJ.iload_n C 5 dL_personHolds_34 rfl ?_
    refine VJ.iload_n C 6 dL_personHolds_35 rfl ?_
    refine VJ.a_asOf (w := 6) CX hN hM3 L hq (by omega) hs hk (vx_cwSW 5 C.1.2.2.2.2 gL_personHolds_L_asOf rfl rfl rfl hy_L_asOf ⟨Nat.le_of_ble_eq_true rfl, Nat.le_of_ble_eq_true rfl⟩) (Nat.le_of_ble_eq_true rfl) dL_personHolds_36 ⟨Nat.le_of_ble_eq_true rfl, Nat.le_of_ble_eq_true rfl⟩ (fun M4 hM4 => ?_)
    refine VJ.lnv (y := (nI o).toInt64) (congrArg Int32.toInt64 t6) ?_
    refine VJ.lstore C [(11, .long ((nI o).toInt64)), (9, .long ((tv Rl ss lo q 4).toInt64)), (7, .long ((nI y).toInt64)), (5, .long ((nI 1).toInt64)), (0, .ref ox), (1, .int (nI q)), (2, .int (nI ss)), (3, .int (nI kk)), (4, .int (nI P))] dL_personHolds_39 (Nat.le_of_ble_eq_true rfl) rfl ?_
    refine VJ.lload C 3 dL_personHolds_41 rfl ?_
    refine VJ.lconst (v := (nI 1).toInt64) C dL_personHolds_43 (by decide) ?_
    refine VJ.lce C (by decide) dL_personHolds_44 ?_
    refine VJ.xif_ne_f C 52 (by decide) dL_personHolds_45 (by decide) ?_
    refine VJ.iconst (v := nI 1) C dL_personHolds_48 (by decide) ?_
    refine VJ.goto C 53 dL_personHolds_49 (by decide) ?_
    refine VJ.istore C [(13, .int (nI 1)), (11, .long ((nI o).toInt64)), (9, .long ((tv Rl ss lo q 4).toInt64)), (7, .long ((nI y).toInt64)), (5, .long ((nI 1).toInt64)), (0, .ref ox), (1, .int (nI q)), (2, .int (nI ss)), (3, .int (nI kk)), (4, .int (nI P))] dL_personHolds_53 (Nat.le_of_ble_eq_true rfl) rfl ?_
    refine VJ.lload C 4 dL_personHolds_55 rfl ?_
    refine VJ.lconst (v := (nI 0).toInt64) C dL_personHolds_57 (by decide) ?_
    refine VJ.lcg C (by decide) dL_personHolds_58 ?_
    refine VJ.xif_lt_f C 248 (by decide) dL_personHolds_59 (by decide) ?_
    refine VJ.lload C 4 dL_personHolds_62 rfl ?_
    refine VJ.ldc2 (v := 3) C (C.1.2.2.2.2 _ (List.mem_of_getElem? (i := 1) rfl)) dL_personHolds_64 ?_
    refine VJ.lnv (y := (nI 3).toInt64) (by decide) ?_
    refine VJ.lcl C (by decide) dL_personHolds_67 ?_
    refine VJ.xif_gt_f C 248 (by decide) dL_personHolds_68 (by decide) ?_
    refine VJ.aload_n C 5 dL_personHolds_71 rfl ?_
    refine VJ.iload_n C 6 dL_personHolds_72 rfl ?_
    refine VJ.iconst (v := nI 1) C dL_personHolds_73 (by decide) ?_
    refine VJ.iload_n C 7 dL_personHolds_74 rfl ?_
    refine VJ.iload_n C 8 dL_personHolds_75 rfl ?_
    refine VJ.a_asOf (w := 1) CX hN hM4 L hq (by omega) hs hk (vx_cwSW 5 C.1.2.2.2.2 gL_personHolds_L_asOf rfl rfl rfl hy_L_asOf ⟨Nat.le_of_ble_eq_true rfl, Nat.le_of_ble_eq_true rfl⟩) (Nat.le_of_ble_eq_true rfl) dL_personHolds_76 ⟨Nat.le_of_ble_eq_true rfl, Nat.le_of_ble_eq_true rfl⟩ (fun M5 hM5 => ?_)
    refine VJ.lnv (y := (nI h).toInt64) (congrArg Int32.toInt64 t1) ?_
    refine VJ.lconst (v := (nI 0).toInt64) C dL_personHolds_79 (by decide) ?_
    refine VJ.lcmp C dL_personHolds_80 ?_
    refine VJ.xif_lt_f C 88 (lc_nn (by omega)) dL_personHolds_81 (by decide) ?_
    refine VJ.iconst (v := nI 1) C dL_personHolds_84 (by decide) ?_
    refine VJ.goto C 89 dL_personHolds_85 (by decide) ?_
    refine VJ.iload C 0 dL_personHolds_89 rfl ?_
    refine VJ.xicmp_ne_f C 248 (by decide) dL_personHolds_91 (by decide) ?_
    refine VJ.aload_n C 5 dL_personHolds_94 rfl ?_
    refine VJ.iload_n C 6 dL_personHolds_95 rfl ?_
    refine VJ.iconst (v := nI 2) C dL_personHolds_96 (by decide) ?_
    refine VJ.iload_n C 7 dL_personHolds_97 rfl ?_
    refine VJ.iload_n C 8 dL_personHolds_98 rfl ?_
    refine VJ.a_asOf (w := 2) CX hN hM5 L hq (by omega) hs hk (vx_cwSW 5 C.1.2.2.2.2 gL_personHolds_L_asOf rfl rfl rfl hy_L_asOf ⟨Nat.le_of_ble_eq_true rfl, Nat.le_of_ble_eq_true rfl⟩) (Nat.le_of_ble_eq_true rfl) dL_personHolds_99 ⟨Nat.le_of_ble_eq_true rfl, Nat.le_of_ble_eq_true rfl⟩ (fun M6 hM6 => ?_)
    refine VJ.lnv (y := (nI x).toInt64) (congrArg Int32.toInt64 t2) ?_
    refine VJ.lconst (v := (nI 0).toInt64) C dL_personHolds_102 (by decide) ?_
    refine VJ.lcmp C dL_personHolds_103 ?_
    refine VJ.xif_lt_f C 111 (lc_nn (by omega)) dL_personHolds_104 (by decide) ?_
    refine VJ.iconst (v := nI 1) C dL_personHolds_107 (by decide) ?_
    refine VJ.goto C 112 dL_personHolds_108 (by decide) ?_
    refine VJ.iload C 0 dL_personHolds_112 rfl ?_
    refine VJ.xif_ne_t C 126 (by decide) dL_personHolds_114 (by decide) ?_
    refine VJ.iconst (v := nI 1) C dL_personHolds_126 (by decide) ?_
    refine VJ.goto C 131 dL_personHolds_127 (by decide) ?_
    refine VJ.xicmp_ne_f C 248 (by decide) dL_personHolds_131 (by decide) ?_
    refine VJ.iload C 0 dL_personHolds_134 rfl ?_
    refine VJ.xif_ne_t C 148 (by decide) dL_personHolds_136 (by decide) ?_
    refine VJ.iload C 0 dL_personHolds_148 rfl ?_
    refine VJ.xif_ne_t C 171 (by decide) dL_personHolds_150 (by decide) ?_
    refine VJ.lload C 2 dL_personHolds_171 rfl ?_
    refine VJ.iload_n C 6 dL_personHolds_173 rfl ?_
    refine VJ.i2l C dL_personHolds_174 ?_
    refine VJ.lcmp C dL_personHolds_175 ?_
    refine VJ.xif_eq_f C 248 (lc_ne hm1) dL_personHolds_176 (by decide) ?_
    refine VJ.lload C 3 dL_personHolds_179 rfl ?_
    refine VJ.iload_n C 6 dL_personHolds_181 rfl ?_
    refine VJ.i2l C dL_personHolds_182 ?_
    refine VJ.lcmp C dL_personHolds_183 ?_
    refine VJ.xif_eq_f C 248 (lc_ne (fun z => hyq ((n_eq (by omega) (by omega)).mp z))) dL_personHolds_184 (by decide) ?_
    refine VJ.lload C 2 dL_personHolds_187 rfl ?_
    refine VJ.iload C 9 dL_personHolds_189 rfl ?_
    refine VJ.i2l C dL_personHolds_191 ?_
    refine VJ.lcmp C dL_personHolds_192 ?_
    refine VJ.xif_ge_f C 248 (lc_m (by omega) hm2) dL_personHolds_193 (by decide) ?_
    refine VJ.aload_n C 5 dL_personHolds_196 rfl ?_
    refine VJ.iload_n C 6 dL_personHolds_197 rfl ?_
    refine VJ.iconst (v := nI 5) C dL_personHolds_198 (by decide) ?_
    refine VJ.iload_n C 7 dL_personHolds_199 rfl ?_
    refine VJ.iload_n C 8 dL_personHolds_200 rfl ?_
    refine VJ.a_asOf (w := 5) CX hN hM6 L hq (by omega) hs hk (vx_cwSW 5 C.1.2.2.2.2 gL_personHolds_L_asOf rfl rfl rfl hy_L_asOf ⟨Nat.le_of_ble_eq_true rfl, Nat.le_of_ble_eq_true rfl⟩) (Nat.le_of_ble_eq_true rfl) dL_personHolds_201 ⟨Nat.le_of_ble_eq_true rfl, Nat.le_of_ble_eq_true rfl⟩ (fun M7 hM7 => ?_)
    refine VJ.lnv (y := (nI a).toInt64) (congrArg Int32.toInt64 t5) ?_
    refine VJ.lconst (v := (nI 0).toInt64) C dL_personHolds_204 (by decide) ?_
    refine VJ.lcmp C dL_personHolds_205 ?_
    refine VJ.xif_lt_f C 213 (lc_nn (by omega)) dL_personHolds_206 (by decide) ?_
    refine VJ.iconst (v := nI 1) C dL_personHolds_209 (by decide) ?_
    refine VJ.goto C 214 dL_personHolds_210 (by decide) ?_
    refine VJ.iload C 0 dL_personHolds_214 rfl ?_
    refine VJ.xicmp_ne_f C 248 (by decide) dL_personHolds_216 (by decide) ?_
    refine VJ.lload C 1 dL_personHolds_219 rfl ?_
    refine VJ.lconst (v := (nI 0).toInt64) C dL_personHolds_221 (by decide) ?_
    refine VJ.lcmp C dL_personHolds_222 ?_
    refine VJ.xif_lt_f C 230 (lc_nn (by omega)) dL_personHolds_223 (by decide) ?_
    refine VJ.iconst (v := nI 1) C dL_personHolds_226 (by decide) ?_
    refine VJ.goto C 231 dL_personHolds_227 (by decide) ?_
    refine VJ.iload C 0 dL_personHolds_231 rfl ?_
    refine VJ.xicmp_ne_f C 248 (by decide) dL_personHolds_233 (by decide) ?_
    refine VJ.lload C 1 dL_personHolds_236 rfl ?_
    refine VJ.iload_n C 6 dL_personHolds_238 rfl ?_
    refine VJ.i2l C dL_personHolds_239 ?_
    refine VJ.lcmp C dL_personHolds_240 ?_
    refine VJ.xif_gt_f C 248 (lc_le (by omega) (by omega) hoq) dL_personHolds_241 (by decide) ?_
    refine VJ.iconst (v := nI 1) C dL_personHolds_244 (by decide) ?_
    refine VJ.goto C 249 dL_personHolds_245 (by decide) ?_
    refine VJ.istore C [(14, .int (nI 1)), (13, .int (nI 1)), (11, .long ((nI o).toInt64)), (9, .long ((tv Rl ss lo q 4).toInt64)), (7, .long ((nI y).toInt64)), (5, .long ((nI 1).toInt64)), (0, .ref ox), (1, .int (nI q)), (2, .int (nI ss)), (3, .int (nI kk)), (4, .int (nI P))] dL_personHolds_249 (Nat.le_of_ble_eq_true rfl) rfl ?_
    refine VJ.iload C 1 dL_personHolds_251 rfl ?_
    refine VJ.xif_eq_f C 306 (by decide) dL_personHolds_253 (by decide) ?_
    refine VJ.lload C 4 dL_personHolds_256 rfl ?_
    refine VJ.lconst (v := (nI 0).toInt64) C dL_personHolds_258 (by decide) ?_
    refine VJ.lcmp C dL_personHolds_259 ?_
    refine VJ.xif_lt_f C 306 (lc_nn (by omega)) dL_personHolds_260 (by decide) ?_
    refine VJ.iload C 0 dL_personHolds_263 rfl ?_
    refine VJ.xif_eq_f C 303 (by decide) dL_personHolds_265 (by decide) ?_
    refine VJ.aload_n C 6 dL_personHolds_268 rfl ?_
    refine VJ.lload C 4 dL_personHolds_269 rfl ?_
    refine VJ.l2i C dL_personHolds_271 (li _) ?_
    refine VJ.iconst (v := nI 3) C dL_personHolds_272 (by decide) ?_
    refine VJ.iload_n C 8 dL_personHolds_273 rfl ?_
    refine VJ.iload_n C 9 dL_personHolds_274 rfl ?_
    refine VJ.a_asOf (w := 3) CX hN hM7 L hy (by omega) hs hk (vx_cwSW 5 C.1.2.2.2.2 gL_personHolds_L_asOf rfl rfl rfl hy_L_asOf ⟨Nat.le_of_ble_eq_true rfl, Nat.le_of_ble_eq_true rfl⟩) (Nat.le_of_ble_eq_true rfl) dL_personHolds_275 ⟨Nat.le_of_ble_eq_true rfl, Nat.le_of_ble_eq_true rfl⟩ (fun M8 hM8 => ?_)
    refine VJ.lnv (y := (nI q).toInt64) (congrArg Int32.toInt64 v3) ?_
    refine VJ.iload_n C 7 dL_personHolds_278 rfl ?_
    refine VJ.i2l C dL_personHolds_279 ?_
    refine VJ.lce C (rfl) dL_personHolds_280 ?_
    refine VJ.xif_ne_f C 303 (by decide) dL_personHolds_281 (by decide) ?_
    refine VJ.aload_n C 6 dL_personHolds_284 rfl ?_
    refine VJ.lload C 4 dL_personHolds_285 rfl ?_
    refine VJ.l2i C dL_personHolds_287 (li _) ?_
    refine VJ.iconst (v := nI 0) C dL_personHolds_288 (by decide) ?_
    refine VJ.iload_n C 8 dL_personHolds_289 rfl ?_
    refine VJ.iload_n C 9 dL_personHolds_290 rfl ?_
    refine VJ.a_asOf (w := 0) CX hN hM8 L hy (by omega) hs hk (vx_cwSW 5 C.1.2.2.2.2 gL_personHolds_L_asOf rfl rfl rfl hy_L_asOf ⟨Nat.le_of_ble_eq_true rfl, Nat.le_of_ble_eq_true rfl⟩) (Nat.le_of_ble_eq_true rfl) dL_personHolds_291 ⟨Nat.le_of_ble_eq_true rfl, Nat.le_of_ble_eq_true rfl⟩ (fun M9 hM9 => ?_)
    refine VJ.lnv (y := (nI 1).toInt64) (congrArg Int32.toInt64 v0) ?_
    refine VJ.lconst (v := (nI 1).toInt64) C dL_personHolds_294 (by decide) ?_
    refine VJ.lce C (by decide) dL_personHolds_295 ?_
    refine VJ.xif_ne_f C 303 (by decide) dL_personHolds_296 (by decide) ?_
    refine VJ.iconst (v := nI 1) C dL_personHolds_299 (by decide) ?_
    refine VJ.goto C 304 dL_personHolds_300 (by decide) ?_
    refine VJ.istore C [(14, .int (nI 1)), (13, .int (nI 1)), (11, .long ((nI o).toInt64)), (9, .long ((tv Rl ss lo q 4).toInt64)), (7, .long ((nI y).toInt64)), (5, .long ((nI 1).toInt64)), (0, .ref ox), (1, .int (nI q)), (2, .int (nI ss)), (3, .int (nI kk)), (4, .int (nI P))] dL_personHolds_304 (Nat.le_of_ble_eq_true rfl) rfl ?_
    refine VJ.iload C 1 dL_personHolds_306 rfl ?_
    refine VJ.xif_eq_f C 369 (by decide) dL_personHolds_308 (by decide) ?_
    refine VJ.lload C 2 dL_personHolds_311 rfl ?_
    refine VJ.lconst (v := (nI 0).toInt64) C dL_personHolds_313 (by decide) ?_
    refine VJ.lcmp C dL_personHolds_314 ?_
    refine VJ.xif_lt_f C 369 (lc_nn (by omega)) dL_personHolds_315 (by decide) ?_
    refine VJ.iload C 0 dL_personHolds_318 rfl ?_
    refine VJ.xif_eq_f C 366 (by decide) dL_personHolds_320 (by decide) ?_
    refine VJ.aload_n C 6 dL_personHolds_323 rfl ?_
    refine VJ.lload C 2 dL_personHolds_324 rfl ?_
    refine VJ.l2i C dL_personHolds_326 (li _) ?_
    refine VJ.iconst (v := nI 1) C dL_personHolds_327 (by decide) ?_
    refine VJ.iload_n C 8 dL_personHolds_328 rfl ?_
    refine VJ.iload_n C 9 dL_personHolds_329 rfl ?_
    refine VJ.a_asOf (w := 1) CX hN hM9 L ho (by omega) hs hk (vx_cwSW 5 C.1.2.2.2.2 gL_personHolds_L_asOf rfl rfl rfl hy_L_asOf ⟨Nat.le_of_ble_eq_true rfl, Nat.le_of_ble_eq_true rfl⟩) (Nat.le_of_ble_eq_true rfl) dL_personHolds_330 ⟨Nat.le_of_ble_eq_true rfl, Nat.le_of_ble_eq_true rfl⟩ (fun M10 hM10 => ?_)
    refine VJ.lnv (y := (nI h).toInt64) (congrArg Int32.toInt64 u1) ?_
    refine VJ.aload_n C 6 dL_personHolds_333 rfl ?_
    refine VJ.iload_n C 7 dL_personHolds_334 rfl ?_
    refine VJ.iconst (v := nI 1) C dL_personHolds_335 (by decide) ?_
    refine VJ.iload_n C 8 dL_personHolds_336 rfl ?_
    refine VJ.iload_n C 9 dL_personHolds_337 rfl ?_
    refine VJ.a_asOf (w := 1) CX hN hM10 L hq (by omega) hs hk (vx_cwSW 5 C.1.2.2.2.2 gL_personHolds_L_asOf rfl rfl rfl hy_L_asOf ⟨Nat.le_of_ble_eq_true rfl, Nat.le_of_ble_eq_true rfl⟩) (Nat.le_of_ble_eq_true rfl) dL_personHolds_338 ⟨Nat.le_of_ble_eq_true rfl, Nat.le_of_ble_eq_true rfl⟩ (fun M11 hM11 => ?_)
    refine VJ.lnv (y := (nI h).toInt64) (congrArg Int32.toInt64 t1) ?_
    refine VJ.lce C (rfl) dL_personHolds_341 ?_
    refine VJ.xif_ne_f C 366 (by decide) dL_personHolds_342 (by decide) ?_
    refine VJ.aload_n C 6 dL_personHolds_345 rfl ?_
    refine VJ.lload C 2 dL_personHolds_346 rfl ?_
    refine VJ.l2i C dL_personHolds_348 (li _) ?_
    refine VJ.bipush (v := nI 6) C dL_personHolds_349 (by decide) ?_
    refine VJ.iload_n C 8 dL_personHolds_351 rfl ?_
    refine VJ.iload_n C 9 dL_personHolds_352 rfl ?_
    refine VJ.a_asOf (w := 6) CX hN hM11 L ho (by omega) hs hk (vx_cwSW 5 C.1.2.2.2.2 gL_personHolds_L_asOf rfl rfl rfl hy_L_asOf ⟨Nat.le_of_ble_eq_true rfl, Nat.le_of_ble_eq_true rfl⟩) (Nat.le_of_ble_eq_true rfl) dL_personHolds_353 ⟨Nat.le_of_ble_eq_true rfl, Nat.le_of_ble_eq_true rfl⟩ (fun M12 hM12 => ?_)
    refine VJ.lnv (y := (nI o).toInt64) (congrArg Int32.toInt64 u6) ?_
    refine VJ.lload C 2 dL_personHolds_356 rfl ?_
    refine VJ.lce C (rfl) dL_personHolds_358 ?_
    refine VJ.xif_ne_f C 366 (by decide) dL_personHolds_359 (by decide) ?_
    refine VJ.iconst (v := nI 1) C dL_personHolds_362 (by decide) ?_
    refine VJ.goto C 367 dL_personHolds_363 (by decide) ?_
    refine VJ.istore C [(14, .int (nI 1)), (13, .int (nI 1)), (11, .long ((nI o).toInt64)), (9, .long ((tv Rl ss lo q 4).toInt64)), (7, .long ((nI y).toInt64)), (5, .long ((nI 1).toInt64)), (0, .ref ox), (1, .int (nI q)), (2, .int (nI ss)), (3, .int (nI kk)), (4, .int (nI P))] dL_personHolds_367 (Nat.le_of_ble_eq_true rfl) rfl ?_
    refine VJ.iload C 0 dL_personHolds_369 rfl ?_
    exact VJ.zretN C rmL_personHolds.cells rmL_personHolds.slots rfl (fun _ h9 => h9) ⟨rfl, hM12⟩ hret (Nat.le_of_ble_eq_true rfl) (Nat.le_of_ble_eq_true rfl) dL_personHolds_371
end LPh
