section LLt
theorem VJ.a_person {p : Program} {l : Launch} {e : Env} {Rm : Room} {s : State} {m : MethodId} {args : Array Value} {below : List Frame} {meth : Method} {c : Code} {cc : ByteArray} {nL : Nat} {Ts : List Cond} {own : String} {G : va_G} {cI cZ cQ cU cJ : ClassId} {A : Nat → Prop} {O : Type} {Qf : O → State → Prop} {cells slots : Nat} {f : Option O} {M : va_W} {pc : Nat} {lv : List (Nat × Value)} {st : List Value} {t n P d g ox : Nat} {I : OI} {R : RI} (CX : CxX p l s m args meth c cc nL Ts own G vwCl (tys cI cZ cQ cU cJ) nws strs A) (hN : NC s) (hM : LW cI cZ cQ cU 20000 t n P d g ox I R M) {q ss kk : Nat} (hq : q < P) (hs : ss ≤ d) (hk : kk ≤ d) {Rl : RI} {lo : Nat → Nat} (L : LAND 20000 P I R ss kk Rl lo) {index : Nat} {bytes : ByteArray} {maxL : Nat} {ret : Option FieldType} (cw : CallB Rm s args own index yL_personHolds bytes maxL ret wsL_personHolds rmL_personHolds rmL_personHolds.cells rmL_personHolds.slots 5 ∧ (Cond.static yL_personHolds).before args s = true) (hroom : (st.map fun v => v.category).sum ≤ 8) (hdg : decode cc pc = .ok (.invokestatic index, 3)) (hR : cells + 160 ≤ Rm.cells ∧ slots + 960 ≤ Rm.slots) (k : ∀ M1 : va_W, LW cI cZ cQ cU 20000 t n P d g ox I R M1 → VJ p l e Rm s m args below meth c nL G vwCl A Qf (cells + 160) (slots + 960) f M1 (pc + 3) lv (.int 1 :: st)) : VJ p l e Rm s m args below meth c nL G vwCl A Qf cells slots f M pc lv (.int (nI P) :: .int (nI kk) :: .int (nI ss) :: .int (nI q) :: .ref ox :: st) := by
  refine VJ.callP CX hN [.ref ox, .int (nI q), .int (nI ss), .int (nI kk), .int (nI P)] (c_L_personHolds l CX.2.2 G cI cZ cQ cU cJ hM hq hs hk L) cw rfl rfl hroom hdg hR (fun r M1 h => ?_)
  obtain ⟨rfl, h1⟩ := h
  exact k M1 h1
theorem VJ.a_dayh {p : Program} {l : Launch} {e : Env} {Rm : Room} {s : State} {m : MethodId} {args : Array Value} {below : List Frame} {meth : Method} {c : Code} {cc : ByteArray} {nL : Nat} {Ts : List Cond} {own : String} {G : va_G} {cI cZ cQ cU cJ : ClassId} {A : Nat → Prop} {O : Type} {Qf : O → State → Prop} {cells slots : Nat} {f : Option O} {M : va_W} {pc : Nat} {lv : List (Nat × Value)} {st : List Value} {t n P d g ox : Nat} {I : OI} {R : RI} (CX : CxX p l s m args meth c cc nL Ts own G vwCl (tys cI cZ cQ cU cJ) nws strs A) (hN : NC s) (hM : LW cI cZ cQ cU 20000 t n P d g ox I R M) {ss kk w : Nat} (hw : w < 16) (hs : ss ≤ d) (hk : kk ≤ d) {Rl : RI} {lo : Nat → Nat} (L : LAND 20000 P I R ss kk Rl lo) {index : Nat} {bytes : ByteArray} {maxL : Nat} {ret : Option FieldType} (cw : CallB Rm s args own index yL_dayHolds bytes maxL ret wsL_dayHolds rmL_dayHolds rmL_dayHolds.cells rmL_dayHolds.slots 5 ∧ (Cond.static yL_dayHolds).before args s = true) (hroom : (st.map fun v => v.category).sum ≤ 8) (hdg : decode cc pc = .ok (.invokestatic index, 3)) (hR : cells + 500 ≤ Rm.cells ∧ slots + 3000 ≤ Rm.slots) (k : ∀ M1 : va_W, LW cI cZ cQ cU 20000 t n P d g ox I R M1 → VJ p l e Rm s m args below meth c nL G vwCl A Qf (cells + 500) (slots + 3000) f M1 (pc + 3) lv (.int 1 :: st)) : VJ p l e Rm s m args below meth c nL G vwCl A Qf cells slots f M pc lv (.int (nI w) :: .int (nI P) :: .int (nI kk) :: .int (nI ss) :: .ref ox :: st) := by
  refine VJ.callP CX hN [.ref ox, .int (nI ss), .int (nI kk), .int (nI P), .int (nI w)] (c_L_dayHolds l CX.2.2 G cI cZ cQ cU cJ hM hw hs hk L) cw rfl rfl hroom hdg hR (fun r M1 h => ?_)
  obtain ⟨rfl, h1⟩ := h
  exact k M1 h1
theorem VJ.a_refuses {p : Program} {l : Launch} {e : Env} {Rm : Room} {s : State} {m : MethodId} {args : Array Value} {below : List Frame} {meth : Method} {c : Code} {cc : ByteArray} {nL : Nat} {Ts : List Cond} {own : String} {G : va_G} {cI cZ cQ cU cJ : ClassId} {A : Nat → Prop} {O : Type} {Qf : O → State → Prop} {cells slots : Nat} {f : Option O} {M : va_W} {pc : Nat} {lv : List (Nat × Value)} {st : List Value} {t n P d g ox : Nat} {I : OI} {R : RI} (CX : CxX p l s m args meth c cc nL Ts own G vwCl (tys cI cZ cQ cU cJ) nws strs A) (hN : NC s) (hM : LW cI cZ cQ cU 20000 t n P d g ox I R M) (ht : t ≤ 490) (h0n : 0 < n) (h1P : 1 < P) {z : Nat} (hz : z ≤ 5) (hz0 : 0 < z) (h7 : I 7 = nI z) {index : Nat} {bytes : ByteArray} {maxL : Nat} {ret : Option FieldType} (cw : CallB Rm s args own index yL_refuses bytes maxL ret wsL_refuses rmL_refuses rmL_refuses.cells rmL_refuses.slots 2 ∧ (Cond.static yL_refuses).before args s = true) (hroom : (st.map fun v => v.category).sum ≤ 8) (hdg : decode cc pc = .ok (.invokestatic index, 3)) (hR : cells + 400 ≤ Rm.cells ∧ slots + 16000 ≤ Rm.slots) (k : ∀ M1 : va_W, LW cI cZ cQ cU 20000 (t + 10) n P d g ox I R M1 → VJ p l e Rm s m args below meth c nL G vwCl A Qf (cells + 400) (slots + 16000) f M1 (pc + 3) lv (.int 1 :: st)) : VJ p l e Rm s m args below meth c nL G vwCl A Qf cells slots f M pc lv (.int (nI P) :: .ref ox :: st) := by
  refine VJ.callP CX hN [.ref ox, .int (nI P)] (c_L_refuses l CX.2.2 G cI cZ cQ cU cJ hM ht h0n h1P hz hz0 h7) cw rfl rfl hroom hdg hR (fun r M1 h => ?_)
  obtain ⟨rfl, h1⟩ := h
  exact k M1 h1
theorem VJ.a_rollh {p : Program} {l : Launch} {e : Env} {Rm : Room} {s : State} {m : MethodId} {args : Array Value} {below : List Frame} {meth : Method} {c : Code} {cc : ByteArray} {nL : Nat} {Ts : List Cond} {own : String} {G : va_G} {cI cZ cQ cU cJ : ClassId} {A : Nat → Prop} {O : Type} {Qf : O → State → Prop} {cells slots : Nat} {f : Option O} {M : va_W} {pc : Nat} {lv : List (Nat × Value)} {st : List Value} {t n P d g ox : Nat} {I : OI} {R : RI} (CX : CxX p l s m args meth c cc nL Ts own G vwCl (tys cI cZ cQ cU cJ) nws strs A) (hN : NC s) (hM : LW cI cZ cQ cU 20000 t n P d g ox I R M) (ht : t ≤ 511) {z r kd off : Nat} (hz : z ≤ 5) (h7 : I 7 = nI z) (hr : r < z) (hk : kd < 4) (ek : R 22 r = nI kd) (ho : off < 4) (eo : R 23 r = nI off) {Rl : RI} {lo : Nat → Nat} (L : LAND 20000 P I R d d Rl lo) {index : Nat} {bytes : ByteArray} {maxL : Nat} {ret : Option FieldType} (cw : CallB Rm s args own index yL_rollHolds bytes maxL ret wsL_rollHolds rmL_rollHolds rmL_rollHolds.cells rmL_rollHolds.slots 5 ∧ (Cond.static yL_rollHolds).before args s = true) (hroom : (st.map fun v => v.category).sum ≤ 8) (hdg : decode cc pc = .ok (.invokestatic index, 3)) (hR : cells + 1100 ≤ Rm.cells ∧ slots + 20000 ≤ Rm.slots) (k : ∀ (M1 : va_W) (I' : OI) (R' : RI), LW cI cZ cQ cU 20000 (t + 1) n P d g ox I' R' M1 → (∀ c, c ≠ 0 → c ≠ 8 → I' c = I c) → (∀ c, ¬ (11 ≤ c ∧ c ≤ 19) → c ≠ 24 → c ≠ 25 → c ≠ 26 → R' c = R c) → VJ p l e Rm s m args below meth c nL G vwCl A Qf (cells + 1100) (slots + 20000) f M1 (pc + 3) lv (.int 1 :: st)) : VJ p l e Rm s m args below meth c nL G vwCl A Qf cells slots f M pc lv (.int (nI P) :: .int (nI off) :: .int (nI kd) :: .int (nI r) :: .ref ox :: st) := by
  refine VJ.callP CX hN [.ref ox, .int (nI r), .int (nI kd), .int (nI off), .int (nI P)] (c_L_rollHolds l CX.2.2 G cI cZ cQ cU cJ hM ht hz h7 hr hk ek ho eo L) cw rfl rfl hroom hdg hR (fun r M1 h => ?_)
  obtain ⟨rfl, I', R', h1, h2, h3⟩ := h
  exact k M1 I' R' h1 h2 h3
set_option maxHeartbeats 8000000 in
set_option maxRecDepth 100000 in
theorem lw_end {p : Program} {l : Launch} {e : Env} {s : State} {m : MethodId} {args : Array Value} {below : List Frame} {meth : Method} {c : Code} {G : va_G} {cI cZ cQ cU cJ : ClassId} {A : Nat → Prop} {Qf : Unit → State → Prop} {cells slots b : Nat} {L : Nat} {xs : Nat → Int32} {ox t n P d g kd kc kx vy : Nat} {I : OI} {R : RI} {M : va_W} (CX : CxX p l s m args meth c cL_law 23 wsL_law RL G vwCl (tys cI cZ cQ cU cJ) nws strs A) (hN : NC s) (hL : L < 2147483648) (hX : va_X b L xs s s.heap) (hbl : b < s.heap.size) (hbA : ¬ A b) (hS : LSt cI cZ cQ cU t n P d g kd kc ox I R M) (bv : vy < 2147483648) (hkx : kx < 56) (ht : t ≤ 482) (hPn : P ≤ n) (hP1 : 1 ≤ P) (h27 : 27 ≤ kx → 1 < P) (hR : cells + 400 ≤ room_1.cells ∧ slots + 16000 ≤ room_1.slots)  (kk : ∀ (M' : va_W) (I' : OI) (R' : RI) (t' : Nat), LSt cI cZ cQ cU t' n P d g kd kc ox I' R' M' → t' ≤ t + 0 + 10 * ((kx + 1) / 28 - kx / 28) → VJ p l e room_1 s m args below meth c 23 G vwCl A Qf (cells + 400) (slots + 16000) (some ()) M' 53 [(0, .ref b), (1, .ref ox), (2, .int (nI P)), (3, .int (nI n)), (4, .int (nI g)), (5, .int (nI 1)), (6, .int (nI (kx + 1)))] []) : VJ p l e room_1 s m args below meth c 23 G vwCl A Qf cells slots (some ()) M 1279 [(0, .ref b), (1, .ref ox), (2, .int (nI P)), (3, .int (nI n)), (4, .int (nI g)), (5, .int (nI 1)), (6, .int (nI kx))] [] := by
  have C := CX.1
  have hM0 := hS.lw
  obtain ⟨bn, bP, bd, bg, e2, e4, e1, e5⟩ := hM0.iv
  have hR1 := hR.1
  have hR2 := hR.2
  have h7 := hS.2.2.1
  by_cases h28 : kx % 28 = 27
  · refine VJ.iload C 6 dL_law_1279 rfl ?_
    refine VJ.bipush (v := nI 28) C dL_law_1281 (by decide) ?_
    refine VJ.irem C dL_law_1283 (nz (by omega) (by omega)) ?_
    refine VJ.iv (y := nI (kx % 28)) (nI_mod (by omega) (by omega)) ?_
    refine VJ.bipush (v := nI 27) C dL_law_1284 (by decide) ?_
    refine VJ.xicmp_ne_f C 1309 (by rw [h28]) dL_law_1286 (by decide) ?_
    refine VJ.iload C 5 dL_law_1289 rfl ?_
    refine VJ.xif_eq_f C 1306 (by decide) dL_law_1291 (by decide) ?_
    refine VJ.aload_n C 1 dL_law_1294 rfl ?_
    refine VJ.iload_n C 2 dL_law_1295 rfl ?_
    refine VJ.a_refuses CX hN hM0 (by omega) (by omega) (h27 (by omega)) (show 2 ≤ 5 by omega) (by omega) h7 (va_cwS 2 C.1.2.2.2.2 gL_law_L_refuses rfl rfl rfl hy_L_refuses ⟨Nat.le_of_ble_eq_true rfl, Nat.le_of_ble_eq_true rfl⟩) (Nat.le_of_ble_eq_true rfl) dL_law_1296 ⟨by omega, by omega⟩ (fun M1 hM1 => ?_)
    refine VJ.xif_eq_f C 1306 (by decide) dL_law_1299 (by decide) ?_
    refine VJ.iconst (v := nI 1) C dL_law_1302 (by decide) ?_
    refine VJ.goto C 1307 dL_law_1303 (by decide) ?_
    refine VJ.istore C [(5, .int (nI 1)), (0, .ref b), (1, .ref ox), (2, .int (nI P)), (3, .int (nI n)), (4, .int (nI g)), (6, .int (nI kx))] dL_law_1307 (Nat.le_of_ble_eq_true rfl) rfl ?_
    refine VJ.iinc C 6 (nI (kx + 1)) [(6, .int (nI (kx + 1))), (5, .int (nI 1)), (0, .ref b), (1, .ref ox), (2, .int (nI P)), (3, .int (nI n)), (4, .int (nI g))] dL_law_1309 rfl nI_s9 (Nat.le_of_ble_eq_true rfl) rfl ?_
    refine VJ.goto C 53 dL_law_1312 (by decide) ?_
    refine VJ.sub [2, 3, 4, 5, 6, 1, 0] rfl ?_
    exact kk _ _ _ _ (hS.same hM1 rfl rfl rfl rfl rfl rfl) (by omega)
  · refine VJ.iload C 6 dL_law_1279 rfl ?_
    refine VJ.bipush (v := nI 28) C dL_law_1281 (by decide) ?_
    refine VJ.irem C dL_law_1283 (nz (by omega) (by omega)) ?_
    refine VJ.iv (y := nI (kx % 28)) (nI_mod (by omega) (by omega)) ?_
    refine VJ.bipush (v := nI 27) C dL_law_1284 (by decide) ?_
    refine VJ.xicmp_ne_t C 1309 (fun z => h28 ((n_eq (b := 27) (by omega) (by omega)).mp z)) dL_law_1286 (by decide) ?_
    refine VJ.iinc C 6 (nI (kx + 1)) [(6, .int (nI (kx + 1))), (0, .ref b), (1, .ref ox), (2, .int (nI P)), (3, .int (nI n)), (4, .int (nI g)), (5, .int (nI 1))] dL_law_1309 rfl nI_s9 (Nat.le_of_ble_eq_true rfl) rfl ?_
    refine VJ.goto C 53 dL_law_1312 (by decide) ?_
    refine VJ.sub [1, 2, 3, 4, 5, 6, 0] rfl ?_
    exact VJ.widen (by omega) (by omega) (kk _ _ _ _ hS (by omega))
set_option maxHeartbeats 8000000 in
set_option maxRecDepth 100000 in
theorem lw_rolls {p : Program} {l : Launch} {e : Env} {s : State} {m : MethodId} {args : Array Value} {below : List Frame} {meth : Method} {c : Code} {G : va_G} {cI cZ cQ cU cJ : ClassId} {A : Nat → Prop} {Qf : Unit → State → Prop} {cells slots b : Nat} {L : Nat} {xs : Nat → Int32} {ox t n P d g kd kc kx vy : Nat} {I : OI} {R : RI} {M : va_W} (CX : CxX p l s m args meth c cL_law 23 wsL_law RL G vwCl (tys cI cZ cQ cU cJ) nws strs A) (hN : NC s) (hL : L < 2147483648) (hX : va_X b L xs s s.heap) (hbl : b < s.heap.size) (hbA : ¬ A b) (hS : LSt cI cZ cQ cU t n P d g kd kc ox I R M) (bv : vy < 2147483648) (hkx : kx < 56) (ht : t ≤ 480) (hPn : P ≤ n) (hP1 : 1 ≤ P) (h27 : 27 ≤ kx → 1 < P) (hR : cells + 3100 ≤ room_1.cells ∧ slots + 59000 ≤ room_1.slots) {d9 k9 : Nat} (hd9 : d9 ≤ d) (hk9 : k9 ≤ d) (hkd : kd = drw L xs 0 % 3) (kk : ∀ (M' : va_W) (I' : OI) (R' : RI) (t' : Nat), LSt cI cZ cQ cU t' n P d g kd kc ox I' R' M' → t' ≤ t + 2 + 10 * ((kx + 1) / 28 - kx / 28) → VJ p l e room_1 s m args below meth c 23 G vwCl A Qf (cells + 3100) (slots + 59000) (some ()) M' 53 [(0, .ref b), (1, .ref ox), (2, .int (nI P)), (3, .int (nI n)), (4, .int (nI g)), (5, .int (nI 1)), (6, .int (nI (kx + 1)))] []) : VJ p l e room_1 s m args below meth c 23 G vwCl A Qf cells slots (some ()) M 1210 [(0, .ref b), (1, .ref ox), (2, .int (nI P)), (3, .int (nI n)), (4, .int (nI g)), (5, .int (nI 1)), (6, .int (nI kx)), (8, .int (nI vy)), (15, .int (nI d9)), (16, .int (nI k9))] [] := by
  have C := CX.1
  have hM0 := hS.lw
  obtain ⟨bn, bP, bd, bg, e2, e4, e1, e5⟩ := hM0.iv
  have hR1 := hR.1
  have hR2 := hR.2
  by_cases h4 : kx % 4 = 3
  · obtain ⟨Rl, lo, L1, -⟩ := hM0.land hS.nx (s := d9) (by omega) k9
    obtain ⟨Rm, lm, L2, -⟩ := hM0.land hS.nx (s := d) (by omega) d
    obtain ⟨-, -, h7, r220, r230, r221, r231, -⟩ := id hS
    have hk3 : kd < 3 := by rw [hkd]; exact Nat.mod_lt _ (by omega)
    refine VJ.iload C 6 dL_law_1210 rfl ?_
    refine VJ.iconst (v := nI 4) C dL_law_1212 (by decide) ?_
    refine VJ.irem C dL_law_1213 (nz (by omega) (by omega)) ?_
    refine VJ.iv (y := nI (kx % 4)) (nI_mod (by omega) (by omega)) ?_
    refine VJ.iconst (v := nI 3) C dL_law_1214 (by decide) ?_
    refine VJ.xicmp_ne_f C 1279 (by rw [h4]) dL_law_1215 (by decide) ?_
    refine VJ.iload C 5 dL_law_1218 rfl ?_
    refine VJ.xif_eq_f C 1276 (by decide) dL_law_1220 (by decide) ?_
    refine VJ.aload_n C 1 dL_law_1223 rfl ?_
    refine VJ.iload C 8 dL_law_1224 rfl ?_
    refine VJ.iload C 9 dL_law_1226 rfl ?_
    refine VJ.iload_n C 2 dL_law_1228 rfl ?_
    refine VJ.iload C 7 dL_law_1229 rfl ?_
    refine VJ.sipush (v := nI 128) C dL_law_1231 (by decide) ?_
    refine VJ.idiv C dL_law_1234 (nz (by omega) (by omega)) ?_
    refine VJ.iv (y := nI (vy / 128)) (nI_div (by omega) (by omega)) ?_
    refine VJ.bipush (v := nI 16) C dL_law_1235 (by decide) ?_
    refine VJ.irem C dL_law_1237 (nz (by omega) (by omega)) ?_
    refine VJ.iv (y := nI ((vy / 128) % 16)) (nI_mod (by omega) (by omega)) ?_
    refine VJ.a_dayh CX hN hM0 (show vy / 128 % 16 < 16 by omega) hd9 hk9 L1 (va_cwS 5 C.1.2.2.2.2 gL_law_L_dayHolds rfl rfl rfl hy_L_dayHolds ⟨Nat.le_of_ble_eq_true rfl, Nat.le_of_ble_eq_true rfl⟩) (Nat.le_of_ble_eq_true rfl) dL_law_1238 ⟨by omega, by omega⟩ (fun M1 hM1 => ?_)
    refine VJ.xif_eq_f C 1276 (by decide) dL_law_1241 (by decide) ?_
    refine VJ.aload_n C 1 dL_law_1244 rfl ?_
    refine VJ.iconst (v := nI 0) C dL_law_1245 (by decide) ?_
    refine VJ.iconst (v := nI 3) C dL_law_1246 (by decide) ?_
    refine VJ.iconst (v := nI 1) C dL_law_1247 (by decide) ?_
    refine VJ.iload_n C 2 dL_law_1248 rfl ?_
    refine VJ.a_rollh CX hN hM1 (by omega) (show 2 ≤ 5 by omega) h7 (show 0 < 2 by omega) (show 3 < 4 by omega) r220 (show 1 < 4 by omega) r230 L2 (va_cwS 5 C.1.2.2.2.2 gL_law_L_rollHolds rfl rfl rfl hy_L_rollHolds ⟨Nat.le_of_ble_eq_true rfl, Nat.le_of_ble_eq_true rfl⟩) (Nat.le_of_ble_eq_true rfl) dL_law_1249 ⟨by omega, by omega⟩ (fun M2 I1 R1 hM2 i1 q1 => ?_)
    have hS1 := hS.same hM2 (i1 7 (by omega) (by omega)) (q1 0 (by omega) (by omega) (by omega) (by omega)) (q1 6 (by omega) (by omega) (by omega) (by omega)) (q1 22 (by omega) (by omega) (by omega) (by omega)) (q1 23 (by omega) (by omega) (by omega) (by omega)) (q1 28 (by omega) (by omega) (by omega) (by omega))
    have L3 := hM0.mv L2 (I2 := I1) (R2 := R1) (i1 2 (by omega) (by omega)) (i1 3 (by omega) (by omega)) (i1 4 (by omega) (by omega)) (fun c hc => q1 c (by omega) (by omega) (by omega) (by omega))
    obtain ⟨-, -, g7, -, -, g221, g231, -⟩ := id hS1
    refine VJ.xif_eq_f C 1276 (by decide) dL_law_1252 (by decide) ?_
    refine VJ.aload_n C 1 dL_law_1255 rfl ?_
    refine VJ.iconst (v := nI 1) C dL_law_1256 (by decide) ?_
    refine VJ.aload_n C 0 dL_law_1257 rfl ?_
    refine VJ.iconst (v := nI 0) C dL_law_1258 (by decide) ?_
    refine VJ.a_draw C hX hbl hbA hL (by omega) (va_cwS 2 C.1.2.2.2.2 gL_law_L_draw rfl rfl rfl hy_L_draw ⟨Nat.le_of_ble_eq_true rfl, Nat.le_of_ble_eq_true rfl⟩) (Nat.le_of_ble_eq_true rfl) dL_law_1259 ⟨by omega, by omega⟩ ?_
    have hdr := drw_lt L xs 0
    refine VJ.iconst (v := nI 3) C dL_law_1262 (by decide) ?_
    refine VJ.irem C dL_law_1263 (nz (by omega) (by omega)) ?_
    refine VJ.iv (y := nI ((drw L xs 0) % 3)) (nI_mod (by omega) (by omega)) ?_
    refine VJ.iv (y := nI kd) (by rw [hkd]) ?_
    refine VJ.iconst (v := nI 0) C dL_law_1264 (by decide) ?_
    refine VJ.iload_n C 2 dL_law_1265 rfl ?_
    refine VJ.a_rollh CX hN hM2 (by omega) (show 2 ≤ 5 by omega) g7 (show 1 < 2 by omega) (show kd < 4 by omega) g221 (show 0 < 4 by omega) g231 L3 (va_cwS 5 C.1.2.2.2.2 gL_law_L_rollHolds rfl rfl rfl hy_L_rollHolds ⟨Nat.le_of_ble_eq_true rfl, Nat.le_of_ble_eq_true rfl⟩) (Nat.le_of_ble_eq_true rfl) dL_law_1266 ⟨by omega, by omega⟩ (fun M3 I2 R2 hM3 i2 q2 => ?_)
    have hS2 := hS1.same hM3 (i2 7 (by omega) (by omega)) (q2 0 (by omega) (by omega) (by omega) (by omega)) (q2 6 (by omega) (by omega) (by omega) (by omega)) (q2 22 (by omega) (by omega) (by omega) (by omega)) (q2 23 (by omega) (by omega) (by omega) (by omega)) (q2 28 (by omega) (by omega) (by omega) (by omega))
    refine VJ.xif_eq_f C 1276 (by decide) dL_law_1269 (by decide) ?_
    refine VJ.iconst (v := nI 1) C dL_law_1272 (by decide) ?_
    refine VJ.goto C 1277 dL_law_1273 (by decide) ?_
    refine VJ.istore C [(5, .int (nI 1)), (0, .ref b), (1, .ref ox), (2, .int (nI P)), (3, .int (nI n)), (4, .int (nI g)), (6, .int (nI kx)), (8, .int (nI vy)), (15, .int (nI d9)), (16, .int (nI k9))] dL_law_1277 (Nat.le_of_ble_eq_true rfl) rfl ?_
    refine VJ.sub [1, 2, 3, 4, 5, 0, 6] rfl ?_
    exact lw_end CX hN hL hX hbl hbA hS2 bv hkx (by omega) hPn hP1 h27 ⟨by omega, by omega⟩ (fun M9 I9 R9 t9 h9 b9 => VJ.widen (by omega) (by omega) (kk M9 I9 R9 t9 h9 (by omega)))
  · refine VJ.iload C 6 dL_law_1210 rfl ?_
    refine VJ.iconst (v := nI 4) C dL_law_1212 (by decide) ?_
    refine VJ.irem C dL_law_1213 (nz (by omega) (by omega)) ?_
    refine VJ.iv (y := nI (kx % 4)) (nI_mod (by omega) (by omega)) ?_
    refine VJ.iconst (v := nI 3) C dL_law_1214 (by decide) ?_
    refine VJ.xicmp_ne_t C 1279 (fun z => h4 ((n_eq (b := 3) (by omega) (by omega)).mp z)) dL_law_1215 (by decide) ?_
    refine VJ.sub [0, 1, 2, 3, 4, 5, 6] rfl ?_
    exact lw_end CX hN hL hX hbl hbA hS bv hkx (by omega) hPn hP1 h27 ⟨by omega, by omega⟩ (fun M9 I9 R9 t9 h9 b9 => VJ.widen (by omega) (by omega) (kk M9 I9 R9 t9 h9 (by omega)))
set_option maxHeartbeats 8000000 in
set_option maxRecDepth 100000 in
theorem lw_tail {p : Program} {l : Launch} {e : Env} {s : State} {m : MethodId} {args : Array Value} {below : List Frame} {meth : Method} {c : Code} {G : va_G} {cI cZ cQ cU cJ : ClassId} {A : Nat → Prop} {Qf : Unit → State → Prop} {cells slots b : Nat} {L : Nat} {xs : Nat → Int32} {ox t n P d g kd kc kx vx vy : Nat} {I : OI} {R : RI} {M : va_W} (CX : CxX p l s m args meth c cL_law 23 wsL_law RL G vwCl (tys cI cZ cQ cU cJ) nws strs A) (hN : NC s) (hL : L < 2147483648) (hX : va_X b L xs s s.heap) (hbl : b < s.heap.size) (hbA : ¬ A b) (hS : LSt cI cZ cQ cU t n P d g kd kc ox I R M) (bv : vy < 2147483648) (bx : vx < 2147483648) (hd0 : 10000 ≤ d) (hkx : kx < 56) (ht : t ≤ 480) (hPn : P ≤ n) (hP1 : 1 ≤ P) (h27 : 27 ≤ kx → 1 < P) (hR : cells + 3532 ≤ room_1.cells ∧ slots + 61592 ≤ room_1.slots) (hkd : kd = drw L xs 0 % 3) (kk : ∀ (M' : va_W) (I' : OI) (R' : RI) (t' : Nat), LSt cI cZ cQ cU t' n P d g kd kc ox I' R' M' → t' ≤ t + 2 + 10 * ((kx + 1) / 28 - kx / 28) → VJ p l e room_1 s m args below meth c 23 G vwCl A Qf (cells + 3532) (slots + 61592) (some ()) M' 53 [(0, .ref b), (1, .ref ox), (2, .int (nI P)), (3, .int (nI n)), (4, .int (nI g)), (5, .int (nI 1)), (6, .int (nI (kx + 1)))] []) : VJ p l e room_1 s m args below meth c 23 G vwCl A Qf cells slots (some ()) M 1050 [(0, .ref b), (1, .ref ox), (2, .int (nI P)), (3, .int (nI n)), (4, .int (nI g)), (5, .int (nI 1)), (6, .int (nI kx)), (7, .int (nI vx)), (8, .int (nI vy))] [] := by
  have C := CX.1
  have hM0 := hS.lw
  obtain ⟨bn, bP, bd, bg, e2, e4, e1, e5⟩ := hM0.iv
  have hR1 := hR.1
  have hR2 := hR.2
  have hq : vy / 64 % P < P := Nat.mod_lt _ (by omega)
  have hd9 : vy / 16 % (d + 1) ≤ d := Nat.le_of_lt_succ (Nat.mod_lt _ (by omega))
  refine VJ.iload C 8 dL_law_1050 rfl ?_
  refine VJ.bipush (v := nI 64) C dL_law_1052 (by decide) ?_
  refine VJ.idiv C dL_law_1054 (nz (by omega) (by omega)) ?_
  refine VJ.iv (y := nI (vy / 64)) (nI_div (by omega) (by omega)) ?_
  refine VJ.iload_n C 2 dL_law_1055 rfl ?_
  refine VJ.irem C dL_law_1056 (nz (by omega) (by omega)) ?_
  refine VJ.iv (y := nI ((vy / 64) % P)) (nI_mod (by omega) (by omega)) ?_
  refine VJ.istore C [(14, .int (nI ((vy / 64) % P))), (0, .ref b), (1, .ref ox), (2, .int (nI P)), (3, .int (nI n)), (4, .int (nI g)), (5, .int (nI 1)), (6, .int (nI kx)), (7, .int (nI vx)), (8, .int (nI vy))] dL_law_1057 (Nat.le_of_ble_eq_true rfl) rfl ?_
  refine VJ.iload C 9 dL_law_1059 rfl ?_
  refine VJ.bipush (v := nI 16) C dL_law_1061 (by decide) ?_
  refine VJ.idiv C dL_law_1063 (nz (by omega) (by omega)) ?_
  refine VJ.iv (y := nI (vy / 16)) (nI_div (by omega) (by omega)) ?_
  refine VJ.aload_n C 2 dL_law_1064 rfl ?_
  refine VJ.a_day CX hN hM0 (cwV 0 C.1.2.2.2.2 gL_law_X5_day rfl rfl rfl hyV_X5_day ⟨Nat.le_of_ble_eq_true rfl, Nat.le_of_ble_eq_true rfl⟩) (Nat.le_of_ble_eq_true rfl) dL_law_1065 ⟨by omega, by omega⟩ (fun M1 hM1 => ?_)
  refine VJ.iconst (v := nI 1) C dL_law_1068 (by decide) ?_
  refine VJ.iadd C dL_law_1069 ?_
  refine VJ.iv (y := nI (d + 1)) nI_ad ?_
  refine VJ.irem C dL_law_1070 (nz (by omega) (by omega)) ?_
  refine VJ.iv (y := nI ((vy / 16) % (d + 1))) (nI_mod (by omega) (by omega)) ?_
  refine VJ.istore C [(15, .int (nI ((vy / 16) % (d + 1)))), (14, .int (nI ((vy / 64) % P))), (0, .ref b), (1, .ref ox), (2, .int (nI P)), (3, .int (nI n)), (4, .int (nI g)), (5, .int (nI 1)), (6, .int (nI kx)), (7, .int (nI vx)), (8, .int (nI vy))] dL_law_1071 (Nat.le_of_ble_eq_true rfl) rfl ?_
  refine VJ.iload C 9 dL_law_1073 rfl ?_
  refine VJ.bipush (v := nI 32) C dL_law_1075 (by decide) ?_
  refine VJ.idiv C dL_law_1077 (nz (by omega) (by omega)) ?_
  refine VJ.iv (y := nI (vx / 32)) (nI_div (by omega) (by omega)) ?_
  refine VJ.iconst (v := nI 2) C dL_law_1078 (by decide) ?_
  refine VJ.irem C dL_law_1079 (nz (by omega) (by omega)) ?_
  refine VJ.iv (y := nI ((vx / 32) % 2)) (nI_mod (by omega) (by omega)) ?_
  have K : ∀ (k9 : Nat) (M9 : va_W), k9 ≤ d → LW cI cZ cQ cU 20000 t n P d g ox I R M9 → VJ p l e room_1 s m args below meth c 23 G vwCl A Qf cells slots (some ()) M9 1108 [(15, .int (nI ((vy / 16) % (d + 1)))), (14, .int (nI ((vy / 64) % P))), (0, .ref b), (1, .ref ox), (2, .int (nI P)), (3, .int (nI n)), (4, .int (nI g)), (5, .int (nI 1)), (6, .int (nI kx)), (7, .int (nI vx)), (8, .int (nI vy))] [.int (nI k9)] := by
    intro k9 M9 hk9 hM9
    obtain ⟨Rl, lo, L1, -⟩ := hM9.land hS.nx (s := vy / 16 % (d + 1)) (by omega) k9
    obtain ⟨Rm, lm, L2, -⟩ := hM9.land hS.nx (s := d) (by omega) d
    refine VJ.istore C [(16, .int (nI k9)), (15, .int (nI ((vy / 16) % (d + 1)))), (14, .int (nI ((vy / 64) % P))), (0, .ref b), (1, .ref ox), (2, .int (nI P)), (3, .int (nI n)), (4, .int (nI g)), (5, .int (nI 1)), (6, .int (nI kx)), (7, .int (nI vx)), (8, .int (nI vy))] dL_law_1108 (Nat.le_of_ble_eq_true rfl) rfl ?_
    refine VJ.iconst (v := nI 0) C dL_law_1110 (by decide) ?_
    refine VJ.istore C [(17, .int (nI 0)), (16, .int (nI k9)), (15, .int (nI ((vy / 16) % (d + 1)))), (14, .int (nI ((vy / 64) % P))), (0, .ref b), (1, .ref ox), (2, .int (nI P)), (3, .int (nI n)), (4, .int (nI g)), (5, .int (nI 1)), (6, .int (nI kx)), (7, .int (nI vx)), (8, .int (nI vy))] dL_law_1111 (Nat.le_of_ble_eq_true rfl) rfl ?_
    refine VJ.iload C 0 dL_law_1113 rfl ?_
    refine VJ.bipush (v := nI 7) C dL_law_1115 (by decide) ?_
    refine VJ.xicmp_ge_f C 1166 (by decide) dL_law_1117 (by decide) ?_
    refine VJ.iload C 9 dL_law_1120 rfl ?_
    refine VJ.xif_eq_f C 1166 (by decide) dL_law_1122 (by decide) ?_
    refine VJ.aload_n C 5 dL_law_1125 rfl ?_
    refine VJ.iload C 3 dL_law_1126 rfl ?_
    refine VJ.iload C 0 dL_law_1128 rfl ?_
    refine VJ.a_now (w := 0) CX hN hM9 L2 hq (by omega) (vx_cwSW 3 C.1.2.2.2.2 gL_law_L_now rfl rfl rfl hy_L_now ⟨Nat.le_of_ble_eq_true rfl, Nat.le_of_ble_eq_true rfl⟩) (Nat.le_of_ble_eq_true rfl) dL_law_1130 ⟨by omega, by omega⟩ (fun M2 hM2 => ?_)
    refine VJ.aload_n C 5 dL_law_1133 rfl ?_
    refine VJ.iload C 3 dL_law_1134 rfl ?_
    refine VJ.iload C 0 dL_law_1136 rfl ?_
    refine VJ.aload_n C 5 dL_law_1138 rfl ?_
    refine VJ.a_day CX hN hM2 (cwV 0 C.1.2.2.2.2 gL_law_X5_day rfl rfl rfl hyV_X5_day ⟨Nat.le_of_ble_eq_true rfl, Nat.le_of_ble_eq_true rfl⟩) (Nat.le_of_ble_eq_true rfl) dL_law_1139 ⟨by omega, by omega⟩ (fun M3 hM3 => ?_)
    refine VJ.aload_n C 5 dL_law_1142 rfl ?_
    refine VJ.a_day CX hN hM3 (cwV 0 C.1.2.2.2.2 gL_law_X5_day rfl rfl rfl hyV_X5_day ⟨Nat.le_of_ble_eq_true rfl, Nat.le_of_ble_eq_true rfl⟩) (Nat.le_of_ble_eq_true rfl) dL_law_1143 ⟨by omega, by omega⟩ (fun M4 hM4 => ?_)
    refine VJ.a_asOf (w := 0) CX hN hM4 L2 hq (by omega) (Nat.le_refl _) (Nat.le_refl _) (vx_cwSW 5 C.1.2.2.2.2 gL_law_L_asOf rfl rfl rfl hy_L_asOf ⟨Nat.le_of_ble_eq_true rfl, Nat.le_of_ble_eq_true rfl⟩) (Nat.le_of_ble_eq_true rfl) dL_law_1146 ⟨by omega, by omega⟩ (fun M5 hM5 => ?_)
    refine VJ.lce C (rfl) dL_law_1149 ?_
    refine VJ.xif_ne_f C 1157 (by decide) dL_law_1150 (by decide) ?_
    refine VJ.iconst (v := nI 1) C dL_law_1153 (by decide) ?_
    refine VJ.goto C 1158 dL_law_1154 (by decide) ?_
    refine VJ.istore C [(5, .int (nI 1)), (17, .int (nI 0)), (16, .int (nI k9)), (15, .int (nI ((vy / 16) % (d + 1)))), (14, .int (nI ((vy / 64) % P))), (0, .ref b), (1, .ref ox), (2, .int (nI P)), (3, .int (nI n)), (4, .int (nI g)), (6, .int (nI kx)), (7, .int (nI vx)), (8, .int (nI vy))] dL_law_1158 (Nat.le_of_ble_eq_true rfl) rfl ?_
    refine VJ.iinc C 1 (nI 1) [(17, .int (nI 1)), (5, .int (nI 1)), (16, .int (nI k9)), (15, .int (nI ((vy / 16) % (d + 1)))), (14, .int (nI ((vy / 64) % P))), (0, .ref b), (1, .ref ox), (2, .int (nI P)), (3, .int (nI n)), (4, .int (nI g)), (6, .int (nI kx)), (7, .int (nI vx)), (8, .int (nI vy))] dL_law_1160 rfl (by decide) (Nat.le_of_ble_eq_true rfl) rfl ?_
    refine VJ.goto C 1113 dL_law_1163 (by decide) ?_
    refine VJ.sub [5, 6, 7, 8, 9, 1, 10, 11, 12, 4, 3, 2, 0] rfl ?_
    refine VJ.iload C 12 dL_law_1113 rfl ?_
    refine VJ.bipush (v := nI 7) C dL_law_1115 (by decide) ?_
    refine VJ.xicmp_ge_f C 1166 (by decide) dL_law_1117 (by decide) ?_
    refine VJ.iload C 5 dL_law_1120 rfl ?_
    refine VJ.xif_eq_f C 1166 (by decide) dL_law_1122 (by decide) ?_
    refine VJ.aload_n C 1 dL_law_1125 rfl ?_
    refine VJ.iload C 9 dL_law_1126 rfl ?_
    refine VJ.iload C 12 dL_law_1128 rfl ?_
    refine VJ.a_now (w := 1) CX hN hM5 L2 hq (by omega) (vx_cwSW 3 C.1.2.2.2.2 gL_law_L_now rfl rfl rfl hy_L_now ⟨Nat.le_of_ble_eq_true rfl, Nat.le_of_ble_eq_true rfl⟩) (Nat.le_of_ble_eq_true rfl) dL_law_1130 ⟨by omega, by omega⟩ (fun M6 hM6 => ?_)
    refine VJ.aload_n C 1 dL_law_1133 rfl ?_
    refine VJ.iload C 9 dL_law_1134 rfl ?_
    refine VJ.iload C 12 dL_law_1136 rfl ?_
    refine VJ.aload_n C 1 dL_law_1138 rfl ?_
    refine VJ.a_day CX hN hM6 (cwV 0 C.1.2.2.2.2 gL_law_X5_day rfl rfl rfl hyV_X5_day ⟨Nat.le_of_ble_eq_true rfl, Nat.le_of_ble_eq_true rfl⟩) (Nat.le_of_ble_eq_true rfl) dL_law_1139 ⟨by omega, by omega⟩ (fun M7 hM7 => ?_)
    refine VJ.aload_n C 1 dL_law_1142 rfl ?_
    refine VJ.a_day CX hN hM7 (cwV 0 C.1.2.2.2.2 gL_law_X5_day rfl rfl rfl hyV_X5_day ⟨Nat.le_of_ble_eq_true rfl, Nat.le_of_ble_eq_true rfl⟩) (Nat.le_of_ble_eq_true rfl) dL_law_1143 ⟨by omega, by omega⟩ (fun M8 hM8 => ?_)
    refine VJ.a_asOf (w := 1) CX hN hM8 L2 hq (by omega) (Nat.le_refl _) (Nat.le_refl _) (vx_cwSW 5 C.1.2.2.2.2 gL_law_L_asOf rfl rfl rfl hy_L_asOf ⟨Nat.le_of_ble_eq_true rfl, Nat.le_of_ble_eq_true rfl⟩) (Nat.le_of_ble_eq_true rfl) dL_law_1146 ⟨by omega, by omega⟩ (fun M9 hM9 => ?_)
    refine VJ.lce C (rfl) dL_law_1149 ?_
    refine VJ.xif_ne_f C 1157 (by decide) dL_law_1150 (by decide) ?_
    refine VJ.iconst (v := nI 1) C dL_law_1153 (by decide) ?_
    refine VJ.goto C 1158 dL_law_1154 (by decide) ?_
    refine VJ.istore C [(5, .int (nI 1)), (0, .ref b), (1, .ref ox), (2, .int (nI P)), (3, .int (nI n)), (4, .int (nI g)), (6, .int (nI kx)), (7, .int (nI vx)), (8, .int (nI vy)), (14, .int (nI ((vy / 64) % P))), (15, .int (nI ((vy / 16) % (d + 1)))), (16, .int (nI k9)), (17, .int (nI 1))] dL_law_1158 (Nat.le_of_ble_eq_true rfl) rfl ?_
    refine VJ.iinc C 12 (nI 2) [(17, .int (nI 2)), (5, .int (nI 1)), (0, .ref b), (1, .ref ox), (2, .int (nI P)), (3, .int (nI n)), (4, .int (nI g)), (6, .int (nI kx)), (7, .int (nI vx)), (8, .int (nI vy)), (14, .int (nI ((vy / 64) % P))), (15, .int (nI ((vy / 16) % (d + 1)))), (16, .int (nI k9))] dL_law_1160 rfl (by decide) (Nat.le_of_ble_eq_true rfl) rfl ?_
    refine VJ.goto C 1113 dL_law_1163 (by decide) ?_
    refine VJ.sub [2, 3, 4, 5, 6, 1, 7, 8, 9, 10, 11, 12, 0] rfl ?_
    refine VJ.iload C 12 dL_law_1113 rfl ?_
    refine VJ.bipush (v := nI 7) C dL_law_1115 (by decide) ?_
    refine VJ.xicmp_ge_f C 1166 (by decide) dL_law_1117 (by decide) ?_
    refine VJ.iload C 5 dL_law_1120 rfl ?_
    refine VJ.xif_eq_f C 1166 (by decide) dL_law_1122 (by decide) ?_
    refine VJ.aload_n C 1 dL_law_1125 rfl ?_
    refine VJ.iload C 9 dL_law_1126 rfl ?_
    refine VJ.iload C 12 dL_law_1128 rfl ?_
    refine VJ.a_now (w := 2) CX hN hM9 L2 hq (by omega) (vx_cwSW 3 C.1.2.2.2.2 gL_law_L_now rfl rfl rfl hy_L_now ⟨Nat.le_of_ble_eq_true rfl, Nat.le_of_ble_eq_true rfl⟩) (Nat.le_of_ble_eq_true rfl) dL_law_1130 ⟨by omega, by omega⟩ (fun M10 hM10 => ?_)
    refine VJ.aload_n C 1 dL_law_1133 rfl ?_
    refine VJ.iload C 9 dL_law_1134 rfl ?_
    refine VJ.iload C 12 dL_law_1136 rfl ?_
    refine VJ.aload_n C 1 dL_law_1138 rfl ?_
    refine VJ.a_day CX hN hM10 (cwV 0 C.1.2.2.2.2 gL_law_X5_day rfl rfl rfl hyV_X5_day ⟨Nat.le_of_ble_eq_true rfl, Nat.le_of_ble_eq_true rfl⟩) (Nat.le_of_ble_eq_true rfl) dL_law_1139 ⟨by omega, by omega⟩ (fun M11 hM11 => ?_)
    refine VJ.aload_n C 1 dL_law_1142 rfl ?_
    refine VJ.a_day CX hN hM11 (cwV 0 C.1.2.2.2.2 gL_law_X5_day rfl rfl rfl hyV_X5_day ⟨Nat.le_of_ble_eq_true rfl, Nat.le_of_ble_eq_true rfl⟩) (Nat.le_of_ble_eq_true rfl) dL_law_1143 ⟨by omega, by omega⟩ (fun M12 hM12 => ?_)
    refine VJ.a_asOf (w := 2) CX hN hM12 L2 hq (by omega) (Nat.le_refl _) (Nat.le_refl _) (vx_cwSW 5 C.1.2.2.2.2 gL_law_L_asOf rfl rfl rfl hy_L_asOf ⟨Nat.le_of_ble_eq_true rfl, Nat.le_of_ble_eq_true rfl⟩) (Nat.le_of_ble_eq_true rfl) dL_law_1146 ⟨by omega, by omega⟩ (fun M13 hM13 => ?_)
    refine VJ.lce C (rfl) dL_law_1149 ?_
    refine VJ.xif_ne_f C 1157 (by decide) dL_law_1150 (by decide) ?_
    refine VJ.iconst (v := nI 1) C dL_law_1153 (by decide) ?_
    refine VJ.goto C 1158 dL_law_1154 (by decide) ?_
    refine VJ.istore C [(5, .int (nI 1)), (0, .ref b), (1, .ref ox), (2, .int (nI P)), (3, .int (nI n)), (4, .int (nI g)), (6, .int (nI kx)), (7, .int (nI vx)), (8, .int (nI vy)), (14, .int (nI ((vy / 64) % P))), (15, .int (nI ((vy / 16) % (d + 1)))), (16, .int (nI k9)), (17, .int (nI 2))] dL_law_1158 (Nat.le_of_ble_eq_true rfl) rfl ?_
    refine VJ.iinc C 12 (nI 3) [(17, .int (nI 3)), (5, .int (nI 1)), (0, .ref b), (1, .ref ox), (2, .int (nI P)), (3, .int (nI n)), (4, .int (nI g)), (6, .int (nI kx)), (7, .int (nI vx)), (8, .int (nI vy)), (14, .int (nI ((vy / 64) % P))), (15, .int (nI ((vy / 16) % (d + 1)))), (16, .int (nI k9))] dL_law_1160 rfl (by decide) (Nat.le_of_ble_eq_true rfl) rfl ?_
    refine VJ.goto C 1113 dL_law_1163 (by decide) ?_
    refine VJ.sub [2, 3, 4, 5, 6, 1, 7, 8, 9, 10, 11, 12, 0] rfl ?_
    refine VJ.iload C 12 dL_law_1113 rfl ?_
    refine VJ.bipush (v := nI 7) C dL_law_1115 (by decide) ?_
    refine VJ.xicmp_ge_f C 1166 (by decide) dL_law_1117 (by decide) ?_
    refine VJ.iload C 5 dL_law_1120 rfl ?_
    refine VJ.xif_eq_f C 1166 (by decide) dL_law_1122 (by decide) ?_
    refine VJ.aload_n C 1 dL_law_1125 rfl ?_
    refine VJ.iload C 9 dL_law_1126 rfl ?_
    refine VJ.iload C 12 dL_law_1128 rfl ?_
    refine VJ.a_now (w := 3) CX hN hM13 L2 hq (by omega) (vx_cwSW 3 C.1.2.2.2.2 gL_law_L_now rfl rfl rfl hy_L_now ⟨Nat.le_of_ble_eq_true rfl, Nat.le_of_ble_eq_true rfl⟩) (Nat.le_of_ble_eq_true rfl) dL_law_1130 ⟨by omega, by omega⟩ (fun M14 hM14 => ?_)
    refine VJ.aload_n C 1 dL_law_1133 rfl ?_
    refine VJ.iload C 9 dL_law_1134 rfl ?_
    refine VJ.iload C 12 dL_law_1136 rfl ?_
    refine VJ.aload_n C 1 dL_law_1138 rfl ?_
    refine VJ.a_day CX hN hM14 (cwV 0 C.1.2.2.2.2 gL_law_X5_day rfl rfl rfl hyV_X5_day ⟨Nat.le_of_ble_eq_true rfl, Nat.le_of_ble_eq_true rfl⟩) (Nat.le_of_ble_eq_true rfl) dL_law_1139 ⟨by omega, by omega⟩ (fun M15 hM15 => ?_)
    refine VJ.aload_n C 1 dL_law_1142 rfl ?_
    refine VJ.a_day CX hN hM15 (cwV 0 C.1.2.2.2.2 gL_law_X5_day rfl rfl rfl hyV_X5_day ⟨Nat.le_of_ble_eq_true rfl, Nat.le_of_ble_eq_true rfl⟩) (Nat.le_of_ble_eq_true rfl) dL_law_1143 ⟨by omega, by omega⟩ (fun M16 hM16 => ?_)
    refine VJ.a_asOf (w := 3) CX hN hM16 L2 hq (by omega) (Nat.le_refl _) (Nat.le_refl _) (vx_cwSW 5 C.1.2.2.2.2 gL_law_L_asOf rfl rfl rfl hy_L_asOf ⟨Nat.le_of_ble_eq_true rfl, Nat.le_of_ble_eq_true rfl⟩) (Nat.le_of_ble_eq_true rfl) dL_law_1146 ⟨by omega, by omega⟩ (fun M17 hM17 => ?_)
    refine VJ.lce C (rfl) dL_law_1149 ?_
    refine VJ.xif_ne_f C 1157 (by decide) dL_law_1150 (by decide) ?_
    refine VJ.iconst (v := nI 1) C dL_law_1153 (by decide) ?_
    refine VJ.goto C 1158 dL_law_1154 (by decide) ?_
    refine VJ.istore C [(5, .int (nI 1)), (0, .ref b), (1, .ref ox), (2, .int (nI P)), (3, .int (nI n)), (4, .int (nI g)), (6, .int (nI kx)), (7, .int (nI vx)), (8, .int (nI vy)), (14, .int (nI ((vy / 64) % P))), (15, .int (nI ((vy / 16) % (d + 1)))), (16, .int (nI k9)), (17, .int (nI 3))] dL_law_1158 (Nat.le_of_ble_eq_true rfl) rfl ?_
    refine VJ.iinc C 12 (nI 4) [(17, .int (nI 4)), (5, .int (nI 1)), (0, .ref b), (1, .ref ox), (2, .int (nI P)), (3, .int (nI n)), (4, .int (nI g)), (6, .int (nI kx)), (7, .int (nI vx)), (8, .int (nI vy)), (14, .int (nI ((vy / 64) % P))), (15, .int (nI ((vy / 16) % (d + 1)))), (16, .int (nI k9))] dL_law_1160 rfl (by decide) (Nat.le_of_ble_eq_true rfl) rfl ?_
    refine VJ.goto C 1113 dL_law_1163 (by decide) ?_
    refine VJ.sub [2, 3, 4, 5, 6, 1, 7, 8, 9, 10, 11, 12, 0] rfl ?_
    refine VJ.iload C 12 dL_law_1113 rfl ?_
    refine VJ.bipush (v := nI 7) C dL_law_1115 (by decide) ?_
    refine VJ.xicmp_ge_f C 1166 (by decide) dL_law_1117 (by decide) ?_
    refine VJ.iload C 5 dL_law_1120 rfl ?_
    refine VJ.xif_eq_f C 1166 (by decide) dL_law_1122 (by decide) ?_
    refine VJ.aload_n C 1 dL_law_1125 rfl ?_
    refine VJ.iload C 9 dL_law_1126 rfl ?_
    refine VJ.iload C 12 dL_law_1128 rfl ?_
    refine VJ.a_now (w := 4) CX hN hM17 L2 hq (by omega) (vx_cwSW 3 C.1.2.2.2.2 gL_law_L_now rfl rfl rfl hy_L_now ⟨Nat.le_of_ble_eq_true rfl, Nat.le_of_ble_eq_true rfl⟩) (Nat.le_of_ble_eq_true rfl) dL_law_1130 ⟨by omega, by omega⟩ (fun M18 hM18 => ?_)
    refine VJ.aload_n C 1 dL_law_1133 rfl ?_
    refine VJ.iload C 9 dL_law_1134 rfl ?_
    refine VJ.iload C 12 dL_law_1136 rfl ?_
    refine VJ.aload_n C 1 dL_law_1138 rfl ?_
    refine VJ.a_day CX hN hM18 (cwV 0 C.1.2.2.2.2 gL_law_X5_day rfl rfl rfl hyV_X5_day ⟨Nat.le_of_ble_eq_true rfl, Nat.le_of_ble_eq_true rfl⟩) (Nat.le_of_ble_eq_true rfl) dL_law_1139 ⟨by omega, by omega⟩ (fun M19 hM19 => ?_)
    refine VJ.aload_n C 1 dL_law_1142 rfl ?_
    refine VJ.a_day CX hN hM19 (cwV 0 C.1.2.2.2.2 gL_law_X5_day rfl rfl rfl hyV_X5_day ⟨Nat.le_of_ble_eq_true rfl, Nat.le_of_ble_eq_true rfl⟩) (Nat.le_of_ble_eq_true rfl) dL_law_1143 ⟨by omega, by omega⟩ (fun M20 hM20 => ?_)
    refine VJ.a_asOf (w := 4) CX hN hM20 L2 hq (by omega) (Nat.le_refl _) (Nat.le_refl _) (vx_cwSW 5 C.1.2.2.2.2 gL_law_L_asOf rfl rfl rfl hy_L_asOf ⟨Nat.le_of_ble_eq_true rfl, Nat.le_of_ble_eq_true rfl⟩) (Nat.le_of_ble_eq_true rfl) dL_law_1146 ⟨by omega, by omega⟩ (fun M21 hM21 => ?_)
    refine VJ.lce C (rfl) dL_law_1149 ?_
    refine VJ.xif_ne_f C 1157 (by decide) dL_law_1150 (by decide) ?_
    refine VJ.iconst (v := nI 1) C dL_law_1153 (by decide) ?_
    refine VJ.goto C 1158 dL_law_1154 (by decide) ?_
    refine VJ.istore C [(5, .int (nI 1)), (0, .ref b), (1, .ref ox), (2, .int (nI P)), (3, .int (nI n)), (4, .int (nI g)), (6, .int (nI kx)), (7, .int (nI vx)), (8, .int (nI vy)), (14, .int (nI ((vy / 64) % P))), (15, .int (nI ((vy / 16) % (d + 1)))), (16, .int (nI k9)), (17, .int (nI 4))] dL_law_1158 (Nat.le_of_ble_eq_true rfl) rfl ?_
    refine VJ.iinc C 12 (nI 5) [(17, .int (nI 5)), (5, .int (nI 1)), (0, .ref b), (1, .ref ox), (2, .int (nI P)), (3, .int (nI n)), (4, .int (nI g)), (6, .int (nI kx)), (7, .int (nI vx)), (8, .int (nI vy)), (14, .int (nI ((vy / 64) % P))), (15, .int (nI ((vy / 16) % (d + 1)))), (16, .int (nI k9))] dL_law_1160 rfl (by decide) (Nat.le_of_ble_eq_true rfl) rfl ?_
    refine VJ.goto C 1113 dL_law_1163 (by decide) ?_
    refine VJ.sub [2, 3, 4, 5, 6, 1, 7, 8, 9, 10, 11, 12, 0] rfl ?_
    refine VJ.iload C 12 dL_law_1113 rfl ?_
    refine VJ.bipush (v := nI 7) C dL_law_1115 (by decide) ?_
    refine VJ.xicmp_ge_f C 1166 (by decide) dL_law_1117 (by decide) ?_
    refine VJ.iload C 5 dL_law_1120 rfl ?_
    refine VJ.xif_eq_f C 1166 (by decide) dL_law_1122 (by decide) ?_
    refine VJ.aload_n C 1 dL_law_1125 rfl ?_
    refine VJ.iload C 9 dL_law_1126 rfl ?_
    refine VJ.iload C 12 dL_law_1128 rfl ?_
    refine VJ.a_now (w := 5) CX hN hM21 L2 hq (by omega) (vx_cwSW 3 C.1.2.2.2.2 gL_law_L_now rfl rfl rfl hy_L_now ⟨Nat.le_of_ble_eq_true rfl, Nat.le_of_ble_eq_true rfl⟩) (Nat.le_of_ble_eq_true rfl) dL_law_1130 ⟨by omega, by omega⟩ (fun M22 hM22 => ?_)
    refine VJ.aload_n C 1 dL_law_1133 rfl ?_
    refine VJ.iload C 9 dL_law_1134 rfl ?_
    refine VJ.iload C 12 dL_law_1136 rfl ?_
    refine VJ.aload_n C 1 dL_law_1138 rfl ?_
    refine VJ.a_day CX hN hM22 (cwV 0 C.1.2.2.2.2 gL_law_X5_day rfl rfl rfl hyV_X5_day ⟨Nat.le_of_ble_eq_true rfl, Nat.le_of_ble_eq_true rfl⟩) (Nat.le_of_ble_eq_true rfl) dL_law_1139 ⟨by omega, by omega⟩ (fun M23 hM23 => ?_)
    refine VJ.aload_n C 1 dL_law_1142 rfl ?_
    refine VJ.a_day CX hN hM23 (cwV 0 C.1.2.2.2.2 gL_law_X5_day rfl rfl rfl hyV_X5_day ⟨Nat.le_of_ble_eq_true rfl, Nat.le_of_ble_eq_true rfl⟩) (Nat.le_of_ble_eq_true rfl) dL_law_1143 ⟨by omega, by omega⟩ (fun M24 hM24 => ?_)
    refine VJ.a_asOf (w := 5) CX hN hM24 L2 hq (by omega) (Nat.le_refl _) (Nat.le_refl _) (vx_cwSW 5 C.1.2.2.2.2 gL_law_L_asOf rfl rfl rfl hy_L_asOf ⟨Nat.le_of_ble_eq_true rfl, Nat.le_of_ble_eq_true rfl⟩) (Nat.le_of_ble_eq_true rfl) dL_law_1146 ⟨by omega, by omega⟩ (fun M25 hM25 => ?_)
    refine VJ.lce C (rfl) dL_law_1149 ?_
    refine VJ.xif_ne_f C 1157 (by decide) dL_law_1150 (by decide) ?_
    refine VJ.iconst (v := nI 1) C dL_law_1153 (by decide) ?_
    refine VJ.goto C 1158 dL_law_1154 (by decide) ?_
    refine VJ.istore C [(5, .int (nI 1)), (0, .ref b), (1, .ref ox), (2, .int (nI P)), (3, .int (nI n)), (4, .int (nI g)), (6, .int (nI kx)), (7, .int (nI vx)), (8, .int (nI vy)), (14, .int (nI ((vy / 64) % P))), (15, .int (nI ((vy / 16) % (d + 1)))), (16, .int (nI k9)), (17, .int (nI 5))] dL_law_1158 (Nat.le_of_ble_eq_true rfl) rfl ?_
    refine VJ.iinc C 12 (nI 6) [(17, .int (nI 6)), (5, .int (nI 1)), (0, .ref b), (1, .ref ox), (2, .int (nI P)), (3, .int (nI n)), (4, .int (nI g)), (6, .int (nI kx)), (7, .int (nI vx)), (8, .int (nI vy)), (14, .int (nI ((vy / 64) % P))), (15, .int (nI ((vy / 16) % (d + 1)))), (16, .int (nI k9))] dL_law_1160 rfl (by decide) (Nat.le_of_ble_eq_true rfl) rfl ?_
    refine VJ.goto C 1113 dL_law_1163 (by decide) ?_
    refine VJ.sub [2, 3, 4, 5, 6, 1, 7, 8, 9, 10, 11, 12, 0] rfl ?_
    refine VJ.iload C 12 dL_law_1113 rfl ?_
    refine VJ.bipush (v := nI 7) C dL_law_1115 (by decide) ?_
    refine VJ.xicmp_ge_f C 1166 (by decide) dL_law_1117 (by decide) ?_
    refine VJ.iload C 5 dL_law_1120 rfl ?_
    refine VJ.xif_eq_f C 1166 (by decide) dL_law_1122 (by decide) ?_
    refine VJ.aload_n C 1 dL_law_1125 rfl ?_
    refine VJ.iload C 9 dL_law_1126 rfl ?_
    refine VJ.iload C 12 dL_law_1128 rfl ?_
    refine VJ.a_now (w := 6) CX hN hM25 L2 hq (by omega) (vx_cwSW 3 C.1.2.2.2.2 gL_law_L_now rfl rfl rfl hy_L_now ⟨Nat.le_of_ble_eq_true rfl, Nat.le_of_ble_eq_true rfl⟩) (Nat.le_of_ble_eq_true rfl) dL_law_1130 ⟨by omega, by omega⟩ (fun M26 hM26 => ?_)
    refine VJ.aload_n C 1 dL_law_1133 rfl ?_
    refine VJ.iload C 9 dL_law_1134 rfl ?_
    refine VJ.iload C 12 dL_law_1136 rfl ?_
    refine VJ.aload_n C 1 dL_law_1138 rfl ?_
    refine VJ.a_day CX hN hM26 (cwV 0 C.1.2.2.2.2 gL_law_X5_day rfl rfl rfl hyV_X5_day ⟨Nat.le_of_ble_eq_true rfl, Nat.le_of_ble_eq_true rfl⟩) (Nat.le_of_ble_eq_true rfl) dL_law_1139 ⟨by omega, by omega⟩ (fun M27 hM27 => ?_)
    refine VJ.aload_n C 1 dL_law_1142 rfl ?_
    refine VJ.a_day CX hN hM27 (cwV 0 C.1.2.2.2.2 gL_law_X5_day rfl rfl rfl hyV_X5_day ⟨Nat.le_of_ble_eq_true rfl, Nat.le_of_ble_eq_true rfl⟩) (Nat.le_of_ble_eq_true rfl) dL_law_1143 ⟨by omega, by omega⟩ (fun M28 hM28 => ?_)
    refine VJ.a_asOf (w := 6) CX hN hM28 L2 hq (by omega) (Nat.le_refl _) (Nat.le_refl _) (vx_cwSW 5 C.1.2.2.2.2 gL_law_L_asOf rfl rfl rfl hy_L_asOf ⟨Nat.le_of_ble_eq_true rfl, Nat.le_of_ble_eq_true rfl⟩) (Nat.le_of_ble_eq_true rfl) dL_law_1146 ⟨by omega, by omega⟩ (fun M29 hM29 => ?_)
    refine VJ.lce C (rfl) dL_law_1149 ?_
    refine VJ.xif_ne_f C 1157 (by decide) dL_law_1150 (by decide) ?_
    refine VJ.iconst (v := nI 1) C dL_law_1153 (by decide) ?_
    refine VJ.goto C 1158 dL_law_1154 (by decide) ?_
    refine VJ.istore C [(5, .int (nI 1)), (0, .ref b), (1, .ref ox), (2, .int (nI P)), (3, .int (nI n)), (4, .int (nI g)), (6, .int (nI kx)), (7, .int (nI vx)), (8, .int (nI vy)), (14, .int (nI ((vy / 64) % P))), (15, .int (nI ((vy / 16) % (d + 1)))), (16, .int (nI k9)), (17, .int (nI 6))] dL_law_1158 (Nat.le_of_ble_eq_true rfl) rfl ?_
    refine VJ.iinc C 12 (nI 7) [(17, .int (nI 7)), (5, .int (nI 1)), (0, .ref b), (1, .ref ox), (2, .int (nI P)), (3, .int (nI n)), (4, .int (nI g)), (6, .int (nI kx)), (7, .int (nI vx)), (8, .int (nI vy)), (14, .int (nI ((vy / 64) % P))), (15, .int (nI ((vy / 16) % (d + 1)))), (16, .int (nI k9))] dL_law_1160 rfl (by decide) (Nat.le_of_ble_eq_true rfl) rfl ?_
    refine VJ.goto C 1113 dL_law_1163 (by decide) ?_
    refine VJ.sub [2, 3, 4, 5, 6, 1, 7, 8, 9, 10, 11, 12, 0] rfl ?_
    refine VJ.iload C 12 dL_law_1113 rfl ?_
    refine VJ.bipush (v := nI 7) C dL_law_1115 (by decide) ?_
    refine VJ.xicmp_ge_t C 1166 (by decide) dL_law_1117 (by decide) ?_
    refine VJ.iload C 5 dL_law_1166 rfl ?_
    refine VJ.xif_eq_f C 1207 (by decide) dL_law_1168 (by decide) ?_
    refine VJ.aload_n C 1 dL_law_1171 rfl ?_
    refine VJ.iload C 9 dL_law_1172 rfl ?_
    refine VJ.iload C 10 dL_law_1174 rfl ?_
    refine VJ.iload C 11 dL_law_1176 rfl ?_
    refine VJ.iload_n C 2 dL_law_1178 rfl ?_
    refine VJ.a_person CX hN hM29 hq hd9 hk9 L1 (va_cwS 5 C.1.2.2.2.2 gL_law_L_personHolds rfl rfl rfl hy_L_personHolds ⟨Nat.le_of_ble_eq_true rfl, Nat.le_of_ble_eq_true rfl⟩) (Nat.le_of_ble_eq_true rfl) dL_law_1179 ⟨by omega, by omega⟩ (fun M30 hM30 => ?_)
    refine VJ.xif_eq_f C 1207 (by decide) dL_law_1182 (by decide) ?_
    refine VJ.aload_n C 1 dL_law_1185 rfl ?_
    refine VJ.iload C 9 dL_law_1186 rfl ?_
    refine VJ.aload_n C 1 dL_law_1188 rfl ?_
    refine VJ.a_day CX hN hM30 (cwV 0 C.1.2.2.2.2 gL_law_X5_day rfl rfl rfl hyV_X5_day ⟨Nat.le_of_ble_eq_true rfl, Nat.le_of_ble_eq_true rfl⟩) (Nat.le_of_ble_eq_true rfl) dL_law_1189 ⟨by omega, by omega⟩ (fun M31 hM31 => ?_)
    refine VJ.aload_n C 1 dL_law_1192 rfl ?_
    refine VJ.a_day CX hN hM31 (cwV 0 C.1.2.2.2.2 gL_law_X5_day rfl rfl rfl hyV_X5_day ⟨Nat.le_of_ble_eq_true rfl, Nat.le_of_ble_eq_true rfl⟩) (Nat.le_of_ble_eq_true rfl) dL_law_1193 ⟨by omega, by omega⟩ (fun M32 hM32 => ?_)
    refine VJ.iload_n C 2 dL_law_1196 rfl ?_
    refine VJ.a_person CX hN hM32 hq (Nat.le_refl d) (Nat.le_refl d) L2 (va_cwS 5 C.1.2.2.2.2 gL_law_L_personHolds rfl rfl rfl hy_L_personHolds ⟨Nat.le_of_ble_eq_true rfl, Nat.le_of_ble_eq_true rfl⟩) (Nat.le_of_ble_eq_true rfl) dL_law_1197 ⟨by omega, by omega⟩ (fun M33 hM33 => ?_)
    refine VJ.xif_eq_f C 1207 (by decide) dL_law_1200 (by decide) ?_
    refine VJ.iconst (v := nI 1) C dL_law_1203 (by decide) ?_
    refine VJ.goto C 1208 dL_law_1204 (by decide) ?_
    refine VJ.istore C [(5, .int (nI 1)), (0, .ref b), (1, .ref ox), (2, .int (nI P)), (3, .int (nI n)), (4, .int (nI g)), (6, .int (nI kx)), (7, .int (nI vx)), (8, .int (nI vy)), (14, .int (nI ((vy / 64) % P))), (15, .int (nI ((vy / 16) % (d + 1)))), (16, .int (nI k9)), (17, .int (nI 7))] dL_law_1208 (Nat.le_of_ble_eq_true rfl) rfl ?_
    refine VJ.sub [1, 2, 3, 4, 5, 0, 6, 8, 10, 11] rfl ?_
    exact lw_rolls CX hN hL hX hbl hbA (hS.with hM33) bv hkx ht hPn hP1 h27 ⟨by omega, by omega⟩ hd9 hk9 hkd (fun M9 I9 R9 t9 h9 b9 => VJ.widen (by omega) (by omega) (kk M9 I9 R9 t9 h9 b9))
  by_cases hb : vx / 32 % 2 = 0
  · refine VJ.xif_ne_f C 1090 (by rw [hb]; decide) dL_law_1080 (by decide) ?_
    refine VJ.aload_n C 3 dL_law_1083 rfl ?_
    refine VJ.a_day CX hN hM1 (cwV 0 C.1.2.2.2.2 gL_law_X5_day rfl rfl rfl hyV_X5_day ⟨Nat.le_of_ble_eq_true rfl, Nat.le_of_ble_eq_true rfl⟩) (Nat.le_of_ble_eq_true rfl) dL_law_1084 ⟨by omega, by omega⟩ (fun M2 hM2 => ?_)
    refine VJ.goto C 1108 dL_law_1087 (by decide) ?_
    exact K _ _ (Nat.le_refl d) hM2
  · refine VJ.xif_ne_t C 1090 (nz (by omega) (by omega)) dL_law_1080 (by decide) ?_
    refine VJ.sipush (v := nI 10000) C dL_law_1090 (by decide) ?_
    refine VJ.iload C 10 dL_law_1093 rfl ?_
    refine VJ.bipush (v := nI 8) C dL_law_1095 (by decide) ?_
    refine VJ.idiv C dL_law_1097 (nz (by omega) (by omega)) ?_
    refine VJ.iv (y := nI (vy / 8)) (nI_div (by omega) (by omega)) ?_
    refine VJ.aload_n C 3 dL_law_1098 rfl ?_
    refine VJ.a_day CX hN hM1 (cwV 0 C.1.2.2.2.2 gL_law_X5_day rfl rfl rfl hyV_X5_day ⟨Nat.le_of_ble_eq_true rfl, Nat.le_of_ble_eq_true rfl⟩) (Nat.le_of_ble_eq_true rfl) dL_law_1099 ⟨by omega, by omega⟩ (fun M2 hM2 => ?_)
    refine VJ.sipush (v := nI 9999) C dL_law_1102 (by decide) ?_
    refine VJ.isub C dL_law_1105 ?_
    refine VJ.iv (y := nI (d - 9999)) (nI_sb (by omega)) ?_
    refine VJ.irem C dL_law_1106 (nz (by omega) (by omega)) ?_
    refine VJ.iv (y := nI ((vy / 8) % (d - 9999))) (nI_mod (by omega) (by omega)) ?_
    refine VJ.iadd C dL_law_1107 ?_
    refine VJ.iv (y := nI (10000 + ((vy / 8) % (d - 9999)))) nI_ad ?_
    exact K _ _ (have z9 : vy / 8 % (d - 9999) < d - 9999 := Nat.mod_lt _ (by omega); by omega) hM2
end LLt
