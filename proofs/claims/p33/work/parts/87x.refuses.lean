section LRf
abbrev rmL_refuses : Room := { frames := 10, cells := 400, slots := 16000, locals := 200 }
theorem hy_L_refuses : yL_refuses.cls ≠ "java/lang/invoke/MethodHandle" ∧ yL_refuses.cls ≠ "java/lang/invoke/VarHandle" ∧ (parseMethodDescriptor yL_refuses.desc).map (fun d => d.parameters.length) = some 2 := by decide +kernel
set_option maxHeartbeats 8000000 in
set_option maxRecDepth 100000 in
theorem c_L_refuses (l : Launch) (hl9 : l.stackTraces = false) (G : va_G) (cI cZ cQ cU cJ : ClassId) {t n P d g ox : Nat} {I : OI} {R : RI} {M0 : va_W} (hM0 : LW cI cZ cQ cU 20000 t n P d g ox I R M0) (ht : t ≤ 490) (h0n : 0 < n) (h1P : 1 < P) {z : Nat} (hz : z ≤ 5) (hz0 : 0 < z) (h7 : I 7 = nI z) : ConW l yL_refuses wsL_refuses rmL_refuses G vwCl (tys cI cZ cQ cU cJ) nws strs [.ref ox, .int (nI P)] M0 (fun _ r9 M' => r9 = some (.int 1) ∧ LW cI cZ cQ cU 20000 (t + 10) n P d g ox I R M') := by
  obtain ⟨bn, bP, bd, bg, -⟩ := hM0.iv
  refine conV_of (cc := cL_refuses) (maxL := 4) (own := RL) hl9 rfl (plainFor_of_name (by decide +kernel)) rfl (Nat.le_of_ble_eq_true rfl) ?_
  intro p e s m args below meth c A CX hN hret
  have C := CX.1
  obtain ⟨ad, Ix, Rx, rf, ra, ta, ea, wa, adk, Ik, Rk, cmk, adq, Iq, Rq, cmq, adc, Ic, Rc, cmc, adn, In, Rn, AL, AI, AR, rs, RL, m9, od9, ao9, hc, -⟩ := id hM0
  refine VJ.aload_n C 0 dL_refuses_0 rfl ?_
  refine VJ.a_day CX hN hM0 (cwV 0 C.1.2.2.2.2 gL_refuses_X5_day rfl rfl rfl hyV_X5_day ⟨Nat.le_of_ble_eq_true rfl, Nat.le_of_ble_eq_true rfl⟩) (Nat.le_of_ble_eq_true rfl) dL_refuses_1 ⟨Nat.le_of_ble_eq_true rfl, Nat.le_of_ble_eq_true rfl⟩ (fun M1 hM1 => ?_)
  refine VJ.istore_n C [(2, .int (nI d)), (0, .ref ox), (1, .int (nI P))] dL_refuses_4 (Nat.le_of_ble_eq_true rfl) rfl ?_
  refine VJ.aload_n C 1 dL_refuses_5 rfl ?_
  refine VJ.iconst (v := nI 0) C dL_refuses_6 (by decide) ?_
  refine VJ.n_pass CX hN hM1 (no_pass) 1 2 up_same (fun c hc => up_ne hc) (by decide) (by decide +kernel) (vx_cwSW 2 C.1.2.2.2.2 gL_refuses_L_pass rfl rfl rfl hy_L_pass ⟨Nat.le_of_ble_eq_true rfl, Nat.le_of_ble_eq_true rfl⟩) (Nat.le_of_ble_eq_true rfl) dL_refuses_7 ⟨Nat.le_of_ble_eq_true rfl, Nat.le_of_ble_eq_true rfl⟩ (fun M2 hM2 => ?_)
  refine VJ.ldc2 (v := -9000000000000000002) C (C.1.2.2.2.2 _ (List.mem_of_getElem? (i := 1) rfl)) dL_refuses_10 ?_
  refine VJ.lnv (y := kode 2) (by decide) ?_
  refine VJ.lce C (by decide) dL_refuses_13 ?_
  refine VJ.xif_ne_f C 267 (by decide) dL_refuses_14 (by decide) ?_
  refine VJ.aload_n C 1 dL_refuses_17 rfl ?_
  refine VJ.iconst (v := nI 0) C dL_refuses_18 (by decide) ?_
  refine VJ.iload_n C 2 dL_refuses_19 rfl ?_
  refine VJ.iconst (v := nI 0) C dL_refuses_20 (by decide) ?_
  refine VJ.iconst (v := nI 0) C dL_refuses_21 (by decide) ?_
  refine VJ.n_birth CX hN hM2 (no_birth1 hc) 1 1 up_same (by decide) (by decide +kernel) (vx_cwSW 5 C.1.2.2.2.2 gL_refuses_L_birth rfl rfl rfl hy_L_birth ⟨Nat.le_of_ble_eq_true rfl, Nat.le_of_ble_eq_true rfl⟩) (Nat.le_of_ble_eq_true rfl) dL_refuses_22 ⟨Nat.le_of_ble_eq_true rfl, Nat.le_of_ble_eq_true rfl⟩ (fun M3 hM3 => ?_)
  refine VJ.ldc2 (v := -9000000000000000001) C (C.1.2.2.2.2 _ (List.mem_of_getElem? (i := 2) rfl)) dL_refuses_25 ?_
  refine VJ.lnv (y := kode 1) (by decide) ?_
  refine VJ.lce C (by decide) dL_refuses_28 ?_
  refine VJ.xif_ne_f C 267 (by decide) dL_refuses_29 (by decide) ?_
  refine VJ.aload_n C 1 dL_refuses_32 rfl ?_
  refine VJ.iconst (v := nI 0) C dL_refuses_33 (by decide) ?_
  refine VJ.iconst (v := (-1)) C dL_refuses_34 (by decide) ?_
  refine VJ.bipush (v := nI 16) C dL_refuses_35 (by decide) ?_
  refine VJ.iconst (v := nI 0) C dL_refuses_37 (by decide) ?_
  refine VJ.n_birth CX hN hM3 (no_birth2 hc) 1 1 up_same (by decide) (by decide +kernel) (vx_cwSW 5 C.1.2.2.2.2 gL_refuses_L_birth rfl rfl rfl hy_L_birth ⟨Nat.le_of_ble_eq_true rfl, Nat.le_of_ble_eq_true rfl⟩) (Nat.le_of_ble_eq_true rfl) dL_refuses_38 ⟨Nat.le_of_ble_eq_true rfl, Nat.le_of_ble_eq_true rfl⟩ (fun M4 hM4 => ?_)
  refine VJ.ldc2 (v := -9000000000000000001) C (C.1.2.2.2.2 _ (List.mem_of_getElem? (i := 2) rfl)) dL_refuses_41 ?_
  refine VJ.lnv (y := kode 1) (by decide) ?_
  refine VJ.lce C (by decide) dL_refuses_44 ?_
  refine VJ.xif_ne_f C 267 (by decide) dL_refuses_45 (by decide) ?_
  refine VJ.aload_n C 1 dL_refuses_48 rfl ?_
  refine VJ.iload_n C 0 dL_refuses_49 rfl ?_
  refine VJ.iconst (v := nI 1) C dL_refuses_50 (by decide) ?_
  refine VJ.iadd C dL_refuses_51 ?_
  refine VJ.iv (y := nI (d + 1)) nI_ad ?_
  refine VJ.iconst (v := (-1)) C dL_refuses_52 (by decide) ?_
  refine VJ.iconst (v := nI 0) C dL_refuses_53 (by decide) ?_
  refine VJ.iconst (v := nI 0) C dL_refuses_54 (by decide) ?_
  refine VJ.n_birth CX hN hM4 (no_birth3 hc) 2 2 up_same (by decide) (by decide +kernel) (vx_cwSW 5 C.1.2.2.2.2 gL_refuses_L_birth rfl rfl rfl hy_L_birth ⟨Nat.le_of_ble_eq_true rfl, Nat.le_of_ble_eq_true rfl⟩) (Nat.le_of_ble_eq_true rfl) dL_refuses_55 ⟨Nat.le_of_ble_eq_true rfl, Nat.le_of_ble_eq_true rfl⟩ (fun M5 hM5 => ?_)
  refine VJ.ldc2 (v := -9000000000000000002) C (C.1.2.2.2.2 _ (List.mem_of_getElem? (i := 1) rfl)) dL_refuses_58 ?_
  refine VJ.lnv (y := kode 2) (by decide) ?_
  refine VJ.lce C (by decide) dL_refuses_61 ?_
  refine VJ.xif_ne_f C 267 (by decide) dL_refuses_62 (by decide) ?_
  refine VJ.aload_n C 1 dL_refuses_65 rfl ?_
  refine VJ.iconst (v := nI 0) C dL_refuses_66 (by decide) ?_
  refine VJ.iconst (v := (-1)) C dL_refuses_67 (by decide) ?_
  refine VJ.iconst (v := nI 0) C dL_refuses_68 (by decide) ?_
  refine VJ.sipush (v := nI 1000) C dL_refuses_69 (by decide) ?_
  refine VJ.n_birth CX hN hM5 (no_birth4 hc) 2 2 up_same (by decide) (by decide +kernel) (vx_cwSW 5 C.1.2.2.2.2 gL_refuses_L_birth rfl rfl rfl hy_L_birth ⟨Nat.le_of_ble_eq_true rfl, Nat.le_of_ble_eq_true rfl⟩) (Nat.le_of_ble_eq_true rfl) dL_refuses_72 ⟨Nat.le_of_ble_eq_true rfl, Nat.le_of_ble_eq_true rfl⟩ (fun M6 hM6 => ?_)
  refine VJ.ldc2 (v := -9000000000000000002) C (C.1.2.2.2.2 _ (List.mem_of_getElem? (i := 1) rfl)) dL_refuses_75 ?_
  refine VJ.lnv (y := kode 2) (by decide) ?_
  refine VJ.lce C (by decide) dL_refuses_78 ?_
  refine VJ.xif_ne_f C 267 (by decide) dL_refuses_79 (by decide) ?_
  refine VJ.aload_n C 1 dL_refuses_82 rfl ?_
  refine VJ.iload_n C 2 dL_refuses_83 rfl ?_
  refine VJ.iconst (v := nI 0) C dL_refuses_84 (by decide) ?_
  refine VJ.iconst (v := nI 0) C dL_refuses_85 (by decide) ?_
  refine VJ.n_move CX hN hM6 (no_move1 hc) 1 1 up_same (by decide) (by decide +kernel) (vx_cwSW 4 C.1.2.2.2.2 gL_refuses_L_move rfl rfl rfl hy_L_move ⟨Nat.le_of_ble_eq_true rfl, Nat.le_of_ble_eq_true rfl⟩) (Nat.le_of_ble_eq_true rfl) dL_refuses_86 ⟨Nat.le_of_ble_eq_true rfl, Nat.le_of_ble_eq_true rfl⟩ (fun M7 hM7 => ?_)
  refine VJ.ldc2 (v := -9000000000000000001) C (C.1.2.2.2.2 _ (List.mem_of_getElem? (i := 2) rfl)) dL_refuses_89 ?_
  refine VJ.lnv (y := kode 1) (by decide) ?_
  refine VJ.lce C (by decide) dL_refuses_92 ?_
  refine VJ.xif_ne_f C 267 (by decide) dL_refuses_93 (by decide) ?_
  refine VJ.aload_n C 1 dL_refuses_96 rfl ?_
  refine VJ.iconst (v := nI 0) C dL_refuses_97 (by decide) ?_
  refine VJ.iconst (v := (-1)) C dL_refuses_98 (by decide) ?_
  refine VJ.iconst (v := nI 0) C dL_refuses_99 (by decide) ?_
  refine VJ.n_move CX hN hM7 (no_move2 hc (by omega)) 2 2 up_same (by decide) (by decide +kernel) (vx_cwSW 4 C.1.2.2.2.2 gL_refuses_L_move rfl rfl rfl hy_L_move ⟨Nat.le_of_ble_eq_true rfl, Nat.le_of_ble_eq_true rfl⟩) (Nat.le_of_ble_eq_true rfl) dL_refuses_100 ⟨Nat.le_of_ble_eq_true rfl, Nat.le_of_ble_eq_true rfl⟩ (fun M8 hM8 => ?_)
  refine VJ.ldc2 (v := -9000000000000000002) C (C.1.2.2.2.2 _ (List.mem_of_getElem? (i := 1) rfl)) dL_refuses_103 ?_
  refine VJ.lnv (y := kode 2) (by decide) ?_
  refine VJ.lce C (by decide) dL_refuses_106 ?_
  refine VJ.xif_ne_f C 267 (by decide) dL_refuses_107 (by decide) ?_
  refine VJ.aload_n C 1 dL_refuses_110 rfl ?_
  refine VJ.iconst (v := nI 0) C dL_refuses_111 (by decide) ?_
  refine VJ.iconst (v := nI 0) C dL_refuses_112 (by decide) ?_
  refine VJ.iconst (v := (-1)) C dL_refuses_113 (by decide) ?_
  refine VJ.n_naming CX hN hM8 (no_naming hc (by omega)) 2 2 up_same (by decide) (by decide +kernel) (vx_cwSW 4 C.1.2.2.2.2 gL_refuses_L_naming rfl rfl rfl hy_L_naming ⟨Nat.le_of_ble_eq_true rfl, Nat.le_of_ble_eq_true rfl⟩) (Nat.le_of_ble_eq_true rfl) dL_refuses_114 ⟨Nat.le_of_ble_eq_true rfl, Nat.le_of_ble_eq_true rfl⟩ (fun M9 hM9 => ?_)
  refine VJ.ldc2 (v := -9000000000000000002) C (C.1.2.2.2.2 _ (List.mem_of_getElem? (i := 1) rfl)) dL_refuses_117 ?_
  refine VJ.lnv (y := kode 2) (by decide) ?_
  refine VJ.lce C (by decide) dL_refuses_120 ?_
  refine VJ.xif_ne_f C 267 (by decide) dL_refuses_121 (by decide) ?_
  refine VJ.aload_n C 1 dL_refuses_124 rfl ?_
  refine VJ.iconst (v := nI 2) C dL_refuses_125 (by decide) ?_
  refine VJ.iconst (v := nI 0) C dL_refuses_126 (by decide) ?_
  refine VJ.iconst (v := nI 1) C dL_refuses_127 (by decide) ?_
  refine VJ.iconst (v := nI 0) C dL_refuses_128 (by decide) ?_
  refine VJ.n_tie CX hN hM9 (no_tie1 hc (by omega)) 2 2 up_same (by decide) (by decide +kernel) (vx_cwSW 5 C.1.2.2.2.2 gL_refuses_L_tie rfl rfl rfl hy_L_tie ⟨Nat.le_of_ble_eq_true rfl, Nat.le_of_ble_eq_true rfl⟩) (Nat.le_of_ble_eq_true rfl) dL_refuses_129 ⟨Nat.le_of_ble_eq_true rfl, Nat.le_of_ble_eq_true rfl⟩ (fun M10 hM10 => ?_)
  refine VJ.ldc2 (v := -9000000000000000002) C (C.1.2.2.2.2 _ (List.mem_of_getElem? (i := 1) rfl)) dL_refuses_132 ?_
  refine VJ.lnv (y := kode 2) (by decide) ?_
  refine VJ.lce C (by decide) dL_refuses_135 ?_
  refine VJ.xif_ne_f C 267 (by decide) dL_refuses_136 (by decide) ?_
  refine VJ.aload_n C 1 dL_refuses_139 rfl ?_
  refine VJ.iconst (v := nI 3) C dL_refuses_140 (by decide) ?_
  refine VJ.iconst (v := nI 0) C dL_refuses_141 (by decide) ?_
  refine VJ.iconst (v := nI 0) C dL_refuses_142 (by decide) ?_
  refine VJ.iconst (v := nI 0) C dL_refuses_143 (by decide) ?_
  refine VJ.n_tie CX hN hM10 (no_tie2 hc (by omega)) 2 2 up_same (by decide) (by decide +kernel) (vx_cwSW 5 C.1.2.2.2.2 gL_refuses_L_tie rfl rfl rfl hy_L_tie ⟨Nat.le_of_ble_eq_true rfl, Nat.le_of_ble_eq_true rfl⟩) (Nat.le_of_ble_eq_true rfl) dL_refuses_144 ⟨Nat.le_of_ble_eq_true rfl, Nat.le_of_ble_eq_true rfl⟩ (fun M11 hM11 => ?_)
  refine VJ.ldc2 (v := -9000000000000000002) C (C.1.2.2.2.2 _ (List.mem_of_getElem? (i := 1) rfl)) dL_refuses_147 ?_
  refine VJ.lnv (y := kode 2) (by decide) ?_
  refine VJ.lce C (by decide) dL_refuses_150 ?_
  refine VJ.xif_ne_f C 267 (by decide) dL_refuses_151 (by decide) ?_
  refine VJ.aload_n C 1 dL_refuses_154 rfl ?_
  refine VJ.iconst (v := nI 3) C dL_refuses_155 (by decide) ?_
  refine VJ.iconst (v := nI 0) C dL_refuses_156 (by decide) ?_
  refine VJ.iload_n C 2 dL_refuses_157 rfl ?_
  refine VJ.iconst (v := nI 0) C dL_refuses_158 (by decide) ?_
  refine VJ.n_tie CX hN hM11 (no_tie3 hc (by omega)) 1 1 up_same (by decide) (by decide +kernel) (vx_cwSW 5 C.1.2.2.2.2 gL_refuses_L_tie rfl rfl rfl hy_L_tie ⟨Nat.le_of_ble_eq_true rfl, Nat.le_of_ble_eq_true rfl⟩) (Nat.le_of_ble_eq_true rfl) dL_refuses_159 ⟨Nat.le_of_ble_eq_true rfl, Nat.le_of_ble_eq_true rfl⟩ (fun M12 hM12 => ?_)
  refine VJ.ldc2 (v := -9000000000000000001) C (C.1.2.2.2.2 _ (List.mem_of_getElem? (i := 2) rfl)) dL_refuses_162 ?_
  refine VJ.lnv (y := kode 1) (by decide) ?_
  refine VJ.lce C (by decide) dL_refuses_165 ?_
  refine VJ.xif_ne_f C 267 (by decide) dL_refuses_166 (by decide) ?_
  refine VJ.aload_n C 1 dL_refuses_169 rfl ?_
  refine VJ.iload_n C 2 dL_refuses_170 rfl ?_
  refine VJ.iconst (v := nI 0) C dL_refuses_171 (by decide) ?_
  refine VJ.n_death CX hN hM12 (no_death1 hc) 1 1 up_same (by decide) (by decide +kernel) (vx_cwSW 3 C.1.2.2.2.2 gL_refuses_L_death rfl rfl rfl hy_L_death ⟨Nat.le_of_ble_eq_true rfl, Nat.le_of_ble_eq_true rfl⟩) (Nat.le_of_ble_eq_true rfl) dL_refuses_172 ⟨Nat.le_of_ble_eq_true rfl, Nat.le_of_ble_eq_true rfl⟩ (fun M13 hM13 => ?_)
  refine VJ.ldc2 (v := -9000000000000000001) C (C.1.2.2.2.2 _ (List.mem_of_getElem? (i := 2) rfl)) dL_refuses_175 ?_
  refine VJ.lnv (y := kode 1) (by decide) ?_
  refine VJ.lce C (by decide) dL_refuses_178 ?_
  refine VJ.xif_ne_f C 267 (by decide) dL_refuses_179 (by decide) ?_
  refine VJ.aload_n C 1 dL_refuses_182 rfl ?_
  refine VJ.iconst (v := nI 0) C dL_refuses_183 (by decide) ?_
  refine VJ.iload_n C 0 dL_refuses_184 rfl ?_
  refine VJ.iconst (v := nI 1) C dL_refuses_185 (by decide) ?_
  refine VJ.iadd C dL_refuses_186 ?_
  refine VJ.iv (y := nI (d + 1)) nI_ad ?_
  refine VJ.n_death CX hN hM13 (no_death2 hc (by omega)) 2 2 up_same (by decide) (by decide +kernel) (vx_cwSW 3 C.1.2.2.2.2 gL_refuses_L_death rfl rfl rfl hy_L_death ⟨Nat.le_of_ble_eq_true rfl, Nat.le_of_ble_eq_true rfl⟩) (Nat.le_of_ble_eq_true rfl) dL_refuses_187 ⟨Nat.le_of_ble_eq_true rfl, Nat.le_of_ble_eq_true rfl⟩ (fun M14 hM14 => ?_)
  refine VJ.ldc2 (v := -9000000000000000002) C (C.1.2.2.2.2 _ (List.mem_of_getElem? (i := 1) rfl)) dL_refuses_190 ?_
  refine VJ.lnv (y := kode 2) (by decide) ?_
  refine VJ.lce C (by decide) dL_refuses_193 ?_
  refine VJ.xif_ne_f C 267 (by decide) dL_refuses_194 (by decide) ?_
  refine VJ.aload_n C 1 dL_refuses_197 rfl ?_
  refine VJ.iconst (v := nI 1) C dL_refuses_198 (by decide) ?_
  refine VJ.iconst (v := nI 0) C dL_refuses_199 (by decide) ?_
  refine VJ.n_join CX hN hM14 (no_join1 hc (by omega)) 2 2 up_same (by decide) (by decide +kernel) (vx_cwSW 3 C.1.2.2.2.2 gL_refuses_L_join rfl rfl rfl hy_L_join ⟨Nat.le_of_ble_eq_true rfl, Nat.le_of_ble_eq_true rfl⟩) (Nat.le_of_ble_eq_true rfl) dL_refuses_200 ⟨Nat.le_of_ble_eq_true rfl, Nat.le_of_ble_eq_true rfl⟩ (fun M15 hM15 => ?_)
  refine VJ.ldc2 (v := -9000000000000000002) C (C.1.2.2.2.2 _ (List.mem_of_getElem? (i := 1) rfl)) dL_refuses_203 ?_
  refine VJ.lnv (y := kode 2) (by decide) ?_
  refine VJ.lce C (by decide) dL_refuses_206 ?_
  refine VJ.xif_ne_f C 267 (by decide) dL_refuses_207 (by decide) ?_
  refine VJ.aload_n C 1 dL_refuses_210 rfl ?_
  refine VJ.iconst (v := nI 0) C dL_refuses_211 (by decide) ?_
  refine VJ.iload_n C 2 dL_refuses_212 rfl ?_
  refine VJ.n_join CX hN hM15 (no_join2 hc (by omega)) 1 1 up_same (by decide) (by decide +kernel) (vx_cwSW 3 C.1.2.2.2.2 gL_refuses_L_join rfl rfl rfl hy_L_join ⟨Nat.le_of_ble_eq_true rfl, Nat.le_of_ble_eq_true rfl⟩) (Nat.le_of_ble_eq_true rfl) dL_refuses_213 ⟨Nat.le_of_ble_eq_true rfl, Nat.le_of_ble_eq_true rfl⟩ (fun M16 hM16 => ?_)
  refine VJ.ldc2 (v := -9000000000000000001) C (C.1.2.2.2.2 _ (List.mem_of_getElem? (i := 2) rfl)) dL_refuses_216 ?_
  refine VJ.lnv (y := kode 1) (by decide) ?_
  refine VJ.lce C (by decide) dL_refuses_219 ?_
  refine VJ.xif_ne_f C 267 (by decide) dL_refuses_220 (by decide) ?_
  refine VJ.aload_n C 1 dL_refuses_223 rfl ?_
  refine VJ.sipush (v := nI 150) C dL_refuses_224 (by decide) ?_
  refine VJ.n_strike CX hN hM16 (no_strike hc) 1 1 up_same (by decide) (by decide +kernel) (vx_cwSW 2 C.1.2.2.2.2 gL_refuses_L_strike rfl rfl rfl hy_L_strike ⟨Nat.le_of_ble_eq_true rfl, Nat.le_of_ble_eq_true rfl⟩) (Nat.le_of_ble_eq_true rfl) dL_refuses_227 ⟨Nat.le_of_ble_eq_true rfl, Nat.le_of_ble_eq_true rfl⟩ (fun M17 hM17 => ?_)
  refine VJ.ldc2 (v := -9000000000000000001) C (C.1.2.2.2.2 _ (List.mem_of_getElem? (i := 2) rfl)) dL_refuses_230 ?_
  refine VJ.lnv (y := kode 1) (by decide) ?_
  refine VJ.lce C (by decide) dL_refuses_233 ?_
  refine VJ.xif_ne_f C 267 (by decide) dL_refuses_234 (by decide) ?_
  refine VJ.aload_n C 1 dL_refuses_237 rfl ?_
  refine VJ.iconst (v := (-1)) C dL_refuses_238 (by decide) ?_
  refine VJ.iconst (v := nI 0) C dL_refuses_239 (by decide) ?_
  refine VJ.n_actOf CX hN hM17 (no_actOf1 hc) 1 1 up_same (by decide) (by decide +kernel) (vx_cwSW 3 C.1.2.2.2.2 gL_refuses_L_actOf rfl rfl rfl hy_L_actOf ⟨Nat.le_of_ble_eq_true rfl, Nat.le_of_ble_eq_true rfl⟩) (Nat.le_of_ble_eq_true rfl) dL_refuses_240 ⟨Nat.le_of_ble_eq_true rfl, Nat.le_of_ble_eq_true rfl⟩ (fun M18 hM18 => ?_)
  refine VJ.ldc2 (v := -9000000000000000001) C (C.1.2.2.2.2 _ (List.mem_of_getElem? (i := 2) rfl)) dL_refuses_243 ?_
  refine VJ.lnv (y := kode 1) (by decide) ?_
  refine VJ.lce C (by decide) dL_refuses_246 ?_
  refine VJ.xif_ne_f C 267 (by decide) dL_refuses_247 (by decide) ?_
  refine VJ.aload_n C 1 dL_refuses_250 rfl ?_
  refine VJ.iconst (v := nI 0) C dL_refuses_251 (by decide) ?_
  refine VJ.iconst (v := nI 5) C dL_refuses_252 (by decide) ?_
  refine VJ.n_actOf CX hN hM18 (no_actOf2 hc h0n) 2 2 up_same (by decide) (by decide +kernel) (vx_cwSW 3 C.1.2.2.2.2 gL_refuses_L_actOf rfl rfl rfl hy_L_actOf ⟨Nat.le_of_ble_eq_true rfl, Nat.le_of_ble_eq_true rfl⟩) (Nat.le_of_ble_eq_true rfl) dL_refuses_253 ⟨Nat.le_of_ble_eq_true rfl, Nat.le_of_ble_eq_true rfl⟩ (fun M19 hM19 => ?_)
  refine VJ.ldc2 (v := -9000000000000000002) C (C.1.2.2.2.2 _ (List.mem_of_getElem? (i := 1) rfl)) dL_refuses_256 ?_
  refine VJ.lnv (y := kode 2) (by decide) ?_
  refine VJ.lce C (by decide) dL_refuses_259 ?_
  refine VJ.xif_ne_f C 267 (by decide) dL_refuses_260 (by decide) ?_
  refine VJ.iconst (v := nI 1) C dL_refuses_263 (by decide) ?_
  refine VJ.goto C 268 dL_refuses_264 (by decide) ?_
  refine VJ.istore_n C [(3, .int (nI 1)), (2, .int (nI d)), (0, .ref ox), (1, .int (nI P))] dL_refuses_268 (Nat.le_of_ble_eq_true rfl) rfl ?_
  refine VJ.iload_n C 0 dL_refuses_269 rfl ?_
  refine VJ.xif_eq_f C 565 (by decide) dL_refuses_270 (by decide) ?_
  refine VJ.aload_n C 2 dL_refuses_273 rfl ?_
  refine VJ.iconst (v := nI 0) C dL_refuses_274 (by decide) ?_
  refine VJ.bipush (v := nI 7) C dL_refuses_275 (by decide) ?_
  refine VJ.iconst (v := nI 0) C dL_refuses_277 (by decide) ?_
  refine VJ.iconst (v := nI 0) C dL_refuses_278 (by decide) ?_
  refine VJ.n_asOf CX hN hM19 (no_asOf1 hc (by omega)) 2 2 up_same (by decide) (by decide +kernel) (vx_cwSW 5 C.1.2.2.2.2 gL_refuses_L_asOf rfl rfl rfl hy_L_asOf ⟨Nat.le_of_ble_eq_true rfl, Nat.le_of_ble_eq_true rfl⟩) (Nat.le_of_ble_eq_true rfl) dL_refuses_279 ⟨Nat.le_of_ble_eq_true rfl, Nat.le_of_ble_eq_true rfl⟩ (fun M20 hM20 => ?_)
  refine VJ.ldc2 (v := -9000000000000000002) C (C.1.2.2.2.2 _ (List.mem_of_getElem? (i := 1) rfl)) dL_refuses_282 ?_
  refine VJ.lnv (y := kode 2) (by decide) ?_
  refine VJ.lce C (by decide) dL_refuses_285 ?_
  refine VJ.xif_ne_f C 565 (by decide) dL_refuses_286 (by decide) ?_
  refine VJ.aload_n C 2 dL_refuses_289 rfl ?_
  refine VJ.iconst (v := nI 0) C dL_refuses_290 (by decide) ?_
  refine VJ.iconst (v := nI 0) C dL_refuses_291 (by decide) ?_
  refine VJ.iload_n C 1 dL_refuses_292 rfl ?_
  refine VJ.iconst (v := nI 1) C dL_refuses_293 (by decide) ?_
  refine VJ.iadd C dL_refuses_294 ?_
  refine VJ.iv (y := nI (d + 1)) nI_ad ?_
  refine VJ.iconst (v := nI 0) C dL_refuses_295 (by decide) ?_
  refine VJ.n_asOf CX hN hM20 (no_asOf2 hc (by omega)) 2 2 up_same (by decide) (by decide +kernel) (vx_cwSW 5 C.1.2.2.2.2 gL_refuses_L_asOf rfl rfl rfl hy_L_asOf ⟨Nat.le_of_ble_eq_true rfl, Nat.le_of_ble_eq_true rfl⟩) (Nat.le_of_ble_eq_true rfl) dL_refuses_296 ⟨Nat.le_of_ble_eq_true rfl, Nat.le_of_ble_eq_true rfl⟩ (fun M21 hM21 => ?_)
  refine VJ.ldc2 (v := -9000000000000000002) C (C.1.2.2.2.2 _ (List.mem_of_getElem? (i := 1) rfl)) dL_refuses_299 ?_
  refine VJ.lnv (y := kode 2) (by decide) ?_
  refine VJ.lce C (by decide) dL_refuses_302 ?_
  refine VJ.xif_ne_f C 565 (by decide) dL_refuses_303 (by decide) ?_
  refine VJ.aload_n C 2 dL_refuses_306 rfl ?_
  refine VJ.iload_n C 3 dL_refuses_307 rfl ?_
  refine VJ.iconst (v := nI 0) C dL_refuses_308 (by decide) ?_
  refine VJ.n_now CX hN hM21 (no_now hc) 1 1 up_same (by decide) (by decide +kernel) (vx_cwSW 3 C.1.2.2.2.2 gL_refuses_L_now rfl rfl rfl hy_L_now ⟨Nat.le_of_ble_eq_true rfl, Nat.le_of_ble_eq_true rfl⟩) (Nat.le_of_ble_eq_true rfl) dL_refuses_309 ⟨Nat.le_of_ble_eq_true rfl, Nat.le_of_ble_eq_true rfl⟩ (fun M22 hM22 => ?_)
  refine VJ.ldc2 (v := -9000000000000000001) C (C.1.2.2.2.2 _ (List.mem_of_getElem? (i := 2) rfl)) dL_refuses_312 ?_
  refine VJ.lnv (y := kode 1) (by decide) ?_
  refine VJ.lce C (by decide) dL_refuses_315 ?_
  refine VJ.xif_ne_f C 565 (by decide) dL_refuses_316 (by decide) ?_
  refine VJ.aload_n C 2 dL_refuses_319 rfl ?_
  refine VJ.bipush (v := nI 16) C dL_refuses_320 (by decide) ?_
  refine VJ.iconst (v := nI 0) C dL_refuses_322 (by decide) ?_
  refine VJ.iconst (v := nI 0) C dL_refuses_323 (by decide) ?_
  refine VJ.n_households CX hN hM22 (no_households hc) 1 1 up_same (by decide) (by decide +kernel) (vx_cwSW 4 C.1.2.2.2.2 gL_refuses_L_households rfl rfl rfl hy_L_households ⟨Nat.le_of_ble_eq_true rfl, Nat.le_of_ble_eq_true rfl⟩) (Nat.le_of_ble_eq_true rfl) dL_refuses_324 ⟨Nat.le_of_ble_eq_true rfl, Nat.le_of_ble_eq_true rfl⟩ (fun M23 hM23 => ?_)
  refine VJ.ldc2 (v := -9000000000000000001) C (C.1.2.2.2.2 _ (List.mem_of_getElem? (i := 2) rfl)) dL_refuses_327 ?_
  refine VJ.lnv (y := kode 1) (by decide) ?_
  refine VJ.lce C (by decide) dL_refuses_330 ?_
  refine VJ.xif_ne_f C 565 (by decide) dL_refuses_331 (by decide) ?_
  refine VJ.aload_n C 2 dL_refuses_334 rfl ?_
  refine VJ.iconst (v := nI 0) C dL_refuses_335 (by decide) ?_
  refine VJ.iload_n C 1 dL_refuses_336 rfl ?_
  refine VJ.iconst (v := nI 2) C dL_refuses_337 (by decide) ?_
  refine VJ.iconst (v := nI 0) C dL_refuses_338 (by decide) ?_
  refine VJ.n_money CX hN hM23 (no_money hc) 2 2 up_same (by decide) (by decide +kernel) (vx_cwSW 5 C.1.2.2.2.2 gL_refuses_L_money rfl rfl rfl hy_L_money ⟨Nat.le_of_ble_eq_true rfl, Nat.le_of_ble_eq_true rfl⟩) (Nat.le_of_ble_eq_true rfl) dL_refuses_339 ⟨Nat.le_of_ble_eq_true rfl, Nat.le_of_ble_eq_true rfl⟩ (fun M24 hM24 => ?_)
  refine VJ.ldc2 (v := -9000000000000000002) C (C.1.2.2.2.2 _ (List.mem_of_getElem? (i := 1) rfl)) dL_refuses_342 ?_
  refine VJ.lnv (y := kode 2) (by decide) ?_
  refine VJ.lce C (by decide) dL_refuses_345 ?_
  refine VJ.xif_ne_f C 565 (by decide) dL_refuses_346 (by decide) ?_
  refine VJ.aload_n C 2 dL_refuses_349 rfl ?_
  refine VJ.iconst (v := nI 0) C dL_refuses_350 (by decide) ?_
  refine VJ.iconst (v := (-1)) C dL_refuses_351 (by decide) ?_
  refine VJ.iconst (v := nI 0) C dL_refuses_352 (by decide) ?_
  refine VJ.n_changed CX hN hM24 (no_changed hc) 1 2 up_same (by decide) (by decide +kernel) (vx_cwSW 4 C.1.2.2.2.2 gL_refuses_L_changed rfl rfl rfl hy_L_changed ⟨Nat.le_of_ble_eq_true rfl, Nat.le_of_ble_eq_true rfl⟩) (Nat.le_of_ble_eq_true rfl) dL_refuses_353 ⟨Nat.le_of_ble_eq_true rfl, Nat.le_of_ble_eq_true rfl⟩ (fun M25 hM25 => ?_)
  refine VJ.ldc2 (v := -9000000000000000002) C (C.1.2.2.2.2 _ (List.mem_of_getElem? (i := 1) rfl)) dL_refuses_356 ?_
  refine VJ.lnv (y := kode 2) (by decide) ?_
  refine VJ.lce C (by decide) dL_refuses_359 ?_
  refine VJ.xif_ne_f C 565 (by decide) dL_refuses_360 (by decide) ?_
  refine VJ.aload_n C 2 dL_refuses_363 rfl ?_
  refine VJ.iconst (v := nI 0) C dL_refuses_364 (by decide) ?_
  refine VJ.iload_n C 3 dL_refuses_365 rfl ?_
  refine VJ.n_origin CX hN hM25 (no_origin hc (by omega)) 1 1 up_same (by decide) (by decide +kernel) (vx_cwSW 3 C.1.2.2.2.2 gL_refuses_L_origin rfl rfl rfl hy_L_origin ⟨Nat.le_of_ble_eq_true rfl, Nat.le_of_ble_eq_true rfl⟩) (Nat.le_of_ble_eq_true rfl) dL_refuses_366 ⟨Nat.le_of_ble_eq_true rfl, Nat.le_of_ble_eq_true rfl⟩ (fun M26 hM26 => ?_)
  refine VJ.ldc2 (v := -9000000000000000001) C (C.1.2.2.2.2 _ (List.mem_of_getElem? (i := 2) rfl)) dL_refuses_369 ?_
  refine VJ.lnv (y := kode 1) (by decide) ?_
  refine VJ.lce C (by decide) dL_refuses_372 ?_
  refine VJ.xif_ne_f C 565 (by decide) dL_refuses_373 (by decide) ?_
  refine VJ.aload_n C 2 dL_refuses_376 rfl ?_
  refine VJ.iconst (v := nI 1) C dL_refuses_377 (by decide) ?_
  refine VJ.iconst (v := nI 1) C dL_refuses_378 (by decide) ?_
  refine VJ.n_likeness CX hN hM26 (no_likeness hc (by omega)) 2 2 up_same (by decide) (by decide +kernel) (vx_cwSW 3 C.1.2.2.2.2 gL_refuses_L_likeness rfl rfl rfl hy_L_likeness ⟨Nat.le_of_ble_eq_true rfl, Nat.le_of_ble_eq_true rfl⟩) (Nat.le_of_ble_eq_true rfl) dL_refuses_379 ⟨Nat.le_of_ble_eq_true rfl, Nat.le_of_ble_eq_true rfl⟩ (fun M27 hM27 => ?_)
  refine VJ.ldc2 (v := -9000000000000000002) C (C.1.2.2.2.2 _ (List.mem_of_getElem? (i := 1) rfl)) dL_refuses_382 ?_
  refine VJ.lnv (y := kode 2) (by decide) ?_
  refine VJ.lce C (by decide) dL_refuses_385 ?_
  refine VJ.xif_ne_f C 565 (by decide) dL_refuses_386 (by decide) ?_
  refine VJ.aload_n C 2 dL_refuses_389 rfl ?_
  refine VJ.iconst (v := (-1)) C dL_refuses_390 (by decide) ?_
  refine VJ.n_doubleOf CX hN hM27 (no_doubleOf hc) 1 1 up_same (by decide) (by decide +kernel) (vx_cwSW 2 C.1.2.2.2.2 gL_refuses_L_doubleOf rfl rfl rfl hy_L_doubleOf ⟨Nat.le_of_ble_eq_true rfl, Nat.le_of_ble_eq_true rfl⟩) (Nat.le_of_ble_eq_true rfl) dL_refuses_391 ⟨Nat.le_of_ble_eq_true rfl, Nat.le_of_ble_eq_true rfl⟩ (fun M28 hM28 => ?_)
  refine VJ.ldc2 (v := -9000000000000000001) C (C.1.2.2.2.2 _ (List.mem_of_getElem? (i := 2) rfl)) dL_refuses_394 ?_
  refine VJ.lnv (y := kode 1) (by decide) ?_
  refine VJ.lce C (by decide) dL_refuses_397 ?_
  refine VJ.xif_ne_f C 565 (by decide) dL_refuses_398 (by decide) ?_
  refine VJ.aload_n C 2 dL_refuses_401 rfl ?_
  refine VJ.iload_n C 3 dL_refuses_402 rfl ?_
  refine VJ.n_renumber CX hN hM28 (no_renumber hc) 1 1 up_same (fun c hc => up_ne hc) (by decide) (by decide +kernel) (vx_cwSW 2 C.1.2.2.2.2 gL_refuses_L_renumber rfl rfl rfl hy_L_renumber ⟨Nat.le_of_ble_eq_true rfl, Nat.le_of_ble_eq_true rfl⟩) (Nat.le_of_ble_eq_true rfl) dL_refuses_403 ⟨Nat.le_of_ble_eq_true rfl, Nat.le_of_ble_eq_true rfl⟩ (fun M29 hM29 => ?_)
  refine VJ.ldc2 (v := -9000000000000000001) C (C.1.2.2.2.2 _ (List.mem_of_getElem? (i := 2) rfl)) dL_refuses_406 ?_
  refine VJ.lnv (y := kode 1) (by decide) ?_
  refine VJ.lce C (by decide) dL_refuses_409 ?_
  refine VJ.xif_ne_f C 565 (by decide) dL_refuses_410 (by decide) ?_
  refine VJ.aload_n C 2 dL_refuses_413 rfl ?_
  refine VJ.iload_n C 3 dL_refuses_414 rfl ?_
  refine VJ.n_number CX hN hM29 (no_number hc) 1 1 up_same (by decide) (by decide +kernel) (vx_cwSW 2 C.1.2.2.2.2 gL_refuses_L_number rfl rfl rfl hy_L_number ⟨Nat.le_of_ble_eq_true rfl, Nat.le_of_ble_eq_true rfl⟩) (Nat.le_of_ble_eq_true rfl) dL_refuses_415 ⟨Nat.le_of_ble_eq_true rfl, Nat.le_of_ble_eq_true rfl⟩ (fun M30 hM30 => ?_)
  refine VJ.ldc2 (v := -9000000000000000001) C (C.1.2.2.2.2 _ (List.mem_of_getElem? (i := 2) rfl)) dL_refuses_418 ?_
  refine VJ.lnv (y := kode 1) (by decide) ?_
  refine VJ.lce C (by decide) dL_refuses_421 ?_
  refine VJ.xif_ne_f C 565 (by decide) dL_refuses_422 (by decide) ?_
  refine VJ.aload_n C 2 dL_refuses_425 rfl ?_
  refine VJ.sipush (v := nI 10000) C dL_refuses_426 (by decide) ?_
  refine VJ.n_bearer CX hN hM30 (no_bearer) 1 2 up_same (by decide) (by decide +kernel) (vx_cwSW 2 C.1.2.2.2.2 gL_refuses_L_bearer rfl rfl rfl hy_L_bearer ⟨Nat.le_of_ble_eq_true rfl, Nat.le_of_ble_eq_true rfl⟩) (Nat.le_of_ble_eq_true rfl) dL_refuses_429 ⟨Nat.le_of_ble_eq_true rfl, Nat.le_of_ble_eq_true rfl⟩ (fun M31 hM31 => ?_)
  refine VJ.ldc2 (v := -9000000000000000002) C (C.1.2.2.2.2 _ (List.mem_of_getElem? (i := 1) rfl)) dL_refuses_432 ?_
  refine VJ.lnv (y := kode 2) (by decide) ?_
  refine VJ.lce C (by decide) dL_refuses_435 ?_
  refine VJ.xif_ne_f C 565 (by decide) dL_refuses_436 (by decide) ?_
  refine VJ.aload_n C 2 dL_refuses_439 rfl ?_
  refine VJ.iconst (v := nI 0) C dL_refuses_440 (by decide) ?_
  refine VJ.iconst (v := nI 4) C dL_refuses_441 (by decide) ?_
  refine VJ.n_roll CX hN hM31 (no_roll) 1 1 up_same (by decide) (by decide +kernel) (vx_cwSW 3 C.1.2.2.2.2 gL_refuses_L_roll rfl rfl rfl hy_L_roll ⟨Nat.le_of_ble_eq_true rfl, Nat.le_of_ble_eq_true rfl⟩) (Nat.le_of_ble_eq_true rfl) dL_refuses_442 ⟨Nat.le_of_ble_eq_true rfl, Nat.le_of_ble_eq_true rfl⟩ (fun M32 hM32 => ?_)
  refine VJ.ldc2 (v := -9000000000000000001) C (C.1.2.2.2.2 _ (List.mem_of_getElem? (i := 2) rfl)) dL_refuses_445 ?_
  refine VJ.lnv (y := kode 1) (by decide) ?_
  refine VJ.lce C (by decide) dL_refuses_448 ?_
  refine VJ.xif_ne_f C 565 (by decide) dL_refuses_449 (by decide) ?_
  refine VJ.aload_n C 2 dL_refuses_452 rfl ?_
  refine VJ.iconst (v := nI 5) C dL_refuses_453 (by decide) ?_
  refine VJ.n_deliver CX hN hM32 (by omega) (no_deliver hz h7) 1 1 up_same (fun c hc => up_ne hc) (by decide) (by decide +kernel) (vx_cwSW 2 C.1.2.2.2.2 gL_refuses_L_deliver rfl rfl rfl hy_L_deliver ⟨Nat.le_of_ble_eq_true rfl, Nat.le_of_ble_eq_true rfl⟩) (Nat.le_of_ble_eq_true rfl) dL_refuses_454 ⟨Nat.le_of_ble_eq_true rfl, Nat.le_of_ble_eq_true rfl⟩ (fun M33 hM33 => ?_)
  refine VJ.ldc2 (v := -9000000000000000001) C (C.1.2.2.2.2 _ (List.mem_of_getElem? (i := 2) rfl)) dL_refuses_457 ?_
  refine VJ.lnv (y := kode 1) (by decide) ?_
  refine VJ.lce C (by decide) dL_refuses_460 ?_
  refine VJ.xif_ne_f C 565 (by decide) dL_refuses_461 (by decide) ?_
  refine VJ.aload_n C 2 dL_refuses_464 rfl ?_
  refine VJ.iconst (v := (-1)) C dL_refuses_465 (by decide) ?_
  refine VJ.n_owes CX hN hM33 (no_owes hz h7) 1 1 up_same (by decide) (by decide +kernel) (vx_cwSW 2 C.1.2.2.2.2 gL_refuses_L_owes rfl rfl rfl hy_L_owes ⟨Nat.le_of_ble_eq_true rfl, Nat.le_of_ble_eq_true rfl⟩) (Nat.le_of_ble_eq_true rfl) dL_refuses_466 ⟨Nat.le_of_ble_eq_true rfl, Nat.le_of_ble_eq_true rfl⟩ (fun M34 hM34 => ?_)
  refine VJ.ldc2 (v := -9000000000000000001) C (C.1.2.2.2.2 _ (List.mem_of_getElem? (i := 2) rfl)) dL_refuses_469 ?_
  refine VJ.lnv (y := kode 1) (by decide) ?_
  refine VJ.lce C (by decide) dL_refuses_472 ?_
  refine VJ.xif_ne_f C 565 (by decide) dL_refuses_473 (by decide) ?_
  refine VJ.aload_n C 2 dL_refuses_476 rfl ?_
  refine VJ.iconst (v := nI 5) C dL_refuses_477 (by decide) ?_
  refine VJ.iconst (v := nI 0) C dL_refuses_478 (by decide) ?_
  refine VJ.n_message CX hN hM34 (by omega) (no_message (Nat.le_of_ble_eq_true rfl) hz h7) 1 1 up_same (by decide) (by decide +kernel) (vx_cwSW 3 C.1.2.2.2.2 gL_refuses_L_message rfl rfl rfl hy_L_message ⟨Nat.le_of_ble_eq_true rfl, Nat.le_of_ble_eq_true rfl⟩) (Nat.le_of_ble_eq_true rfl) dL_refuses_479 ⟨Nat.le_of_ble_eq_true rfl, Nat.le_of_ble_eq_true rfl⟩ (fun M35 hM35 => ?_)
  refine VJ.ldc2 (v := -9000000000000000001) C (C.1.2.2.2.2 _ (List.mem_of_getElem? (i := 2) rfl)) dL_refuses_482 ?_
  refine VJ.lnv (y := kode 1) (by decide) ?_
  refine VJ.lce C (by decide) dL_refuses_485 ?_
  refine VJ.xif_ne_f C 565 (by decide) dL_refuses_486 (by decide) ?_
  refine VJ.aload_n C 2 dL_refuses_489 rfl ?_
  refine VJ.iconst (v := nI 0) C dL_refuses_490 (by decide) ?_
  refine VJ.iload_n C 3 dL_refuses_491 rfl ?_
  refine VJ.n_holds CX hN hM35 (no_holds hc hz h7 hz0) 1 1 up_same (by decide) (by decide +kernel) (vx_cwSW 3 C.1.2.2.2.2 gL_refuses_L_holds rfl rfl rfl hy_L_holds ⟨Nat.le_of_ble_eq_true rfl, Nat.le_of_ble_eq_true rfl⟩) (Nat.le_of_ble_eq_true rfl) dL_refuses_492 ⟨Nat.le_of_ble_eq_true rfl, Nat.le_of_ble_eq_true rfl⟩ (fun M36 hM36 => ?_)
  refine VJ.ldc2 (v := -9000000000000000001) C (C.1.2.2.2.2 _ (List.mem_of_getElem? (i := 2) rfl)) dL_refuses_495 ?_
  refine VJ.lnv (y := kode 1) (by decide) ?_
  refine VJ.lce C (by decide) dL_refuses_498 ?_
  refine VJ.xif_ne_f C 565 (by decide) dL_refuses_499 (by decide) ?_
  refine VJ.aload_n C 2 dL_refuses_502 rfl ?_
  refine VJ.iconst (v := nI 5) C dL_refuses_503 (by decide) ?_
  refine VJ.iconst (v := nI 0) C dL_refuses_504 (by decide) ?_
  refine VJ.n_holdsAnew CX hN hM36 (no_holdsAnew hz h7) 1 1 up_same (by decide) (by decide +kernel) (vx_cwSW 3 C.1.2.2.2.2 gL_refuses_L_holdsAnew rfl rfl rfl hy_L_holdsAnew ⟨Nat.le_of_ble_eq_true rfl, Nat.le_of_ble_eq_true rfl⟩) (Nat.le_of_ble_eq_true rfl) dL_refuses_505 ⟨Nat.le_of_ble_eq_true rfl, Nat.le_of_ble_eq_true rfl⟩ (fun M37 hM37 => ?_)
  refine VJ.ldc2 (v := -9000000000000000001) C (C.1.2.2.2.2 _ (List.mem_of_getElem? (i := 2) rfl)) dL_refuses_508 ?_
  refine VJ.lnv (y := kode 1) (by decide) ?_
  refine VJ.lce C (by decide) dL_refuses_511 ?_
  refine VJ.xif_ne_f C 565 (by decide) dL_refuses_512 (by decide) ?_
  refine VJ.aload_n C 2 dL_refuses_515 rfl ?_
  refine VJ.iload_n C 3 dL_refuses_516 rfl ?_
  refine VJ.iconst (v := nI 1) C dL_refuses_517 (by decide) ?_
  refine VJ.n_bar CX hN hM37 (Or.inr rfl) (no_bar hc 1) 1 1 up_same (fun c hc => up_ne hc) (by decide) (by decide +kernel) (vx_cwSW 3 C.1.2.2.2.2 gL_refuses_L_bar rfl rfl rfl hy_L_bar ⟨Nat.le_of_ble_eq_true rfl, Nat.le_of_ble_eq_true rfl⟩) (Nat.le_of_ble_eq_true rfl) dL_refuses_518 ⟨Nat.le_of_ble_eq_true rfl, Nat.le_of_ble_eq_true rfl⟩ (fun M38 hM38 => ?_)
  refine VJ.ldc2 (v := -9000000000000000001) C (C.1.2.2.2.2 _ (List.mem_of_getElem? (i := 2) rfl)) dL_refuses_521 ?_
  refine VJ.lnv (y := kode 1) (by decide) ?_
  refine VJ.lce C (by decide) dL_refuses_524 ?_
  refine VJ.xif_ne_f C 565 (by decide) dL_refuses_525 (by decide) ?_
  refine VJ.aload_n C 2 dL_refuses_528 rfl ?_
  refine VJ.iconst (v := (-1)) C dL_refuses_529 (by decide) ?_
  refine VJ.iconst (v := nI 0) C dL_refuses_530 (by decide) ?_
  refine VJ.n_look CX hN hM38 (no_look hc (by omega)) 2 2 up_same (fun c hc => up_ne hc) (by decide) (by decide +kernel) (vx_cwSW 3 C.1.2.2.2.2 gL_refuses_L_look rfl rfl rfl hy_L_look ⟨Nat.le_of_ble_eq_true rfl, Nat.le_of_ble_eq_true rfl⟩) (Nat.le_of_ble_eq_true rfl) dL_refuses_531 ⟨Nat.le_of_ble_eq_true rfl, Nat.le_of_ble_eq_true rfl⟩ (fun M39 hM39 => ?_)
  refine VJ.ldc2 (v := -9000000000000000002) C (C.1.2.2.2.2 _ (List.mem_of_getElem? (i := 1) rfl)) dL_refuses_534 ?_
  refine VJ.lnv (y := kode 2) (by decide) ?_
  refine VJ.lce C (by decide) dL_refuses_537 ?_
  refine VJ.xif_ne_f C 565 (by decide) dL_refuses_538 (by decide) ?_
  refine VJ.aload_n C 2 dL_refuses_541 rfl ?_
  refine VJ.iload_n C 3 dL_refuses_542 rfl ?_
  refine VJ.n_looks CX hN hM39 (no_looks hc) 1 1 up_same (by decide) (by decide +kernel) (vx_cwSW 2 C.1.2.2.2.2 gL_refuses_L_looks rfl rfl rfl hy_L_looks ⟨Nat.le_of_ble_eq_true rfl, Nat.le_of_ble_eq_true rfl⟩) (Nat.le_of_ble_eq_true rfl) dL_refuses_543 ⟨Nat.le_of_ble_eq_true rfl, Nat.le_of_ble_eq_true rfl⟩ (fun M40 hM40 => ?_)
  refine VJ.ldc2 (v := -9000000000000000001) C (C.1.2.2.2.2 _ (List.mem_of_getElem? (i := 2) rfl)) dL_refuses_546 ?_
  refine VJ.lnv (y := kode 1) (by decide) ?_
  refine VJ.lce C (by decide) dL_refuses_549 ?_
  refine VJ.xif_ne_f C 565 (by decide) dL_refuses_550 (by decide) ?_
  refine VJ.aload_n C 2 dL_refuses_553 rfl ?_
  refine VJ.a_day CX hN hM40 (cwV 0 C.1.2.2.2.2 gL_refuses_X5_day rfl rfl rfl hyV_X5_day ⟨Nat.le_of_ble_eq_true rfl, Nat.le_of_ble_eq_true rfl⟩) (Nat.le_of_ble_eq_true rfl) dL_refuses_554 ⟨Nat.le_of_ble_eq_true rfl, Nat.le_of_ble_eq_true rfl⟩ (fun M41 hM41 => ?_)
  refine VJ.iload_n C 1 dL_refuses_557 rfl ?_
  refine VJ.xicmp_ne_f C 565 (rfl) dL_refuses_558 (by decide) ?_
  refine VJ.iconst (v := nI 1) C dL_refuses_561 (by decide) ?_
  refine VJ.goto C 566 dL_refuses_562 (by decide) ?_
  exact VJ.zretN C rmL_refuses.cells rmL_refuses.slots rfl (fun _ h9 => h9) ⟨rfl, hM41⟩ hret (Nat.le_of_ble_eq_true rfl) (Nat.le_of_ble_eq_true rfl) dL_refuses_566
end LRf
