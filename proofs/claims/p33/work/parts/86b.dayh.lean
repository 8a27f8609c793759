section LDh
abbrev hqv (Rl : RI) (ss : Nat) (lo : Nat → Nat) (w p : Nat) : Bool := decide (tv Rl ss lo p 1 = nI w ∧ tv Rl ss lo p 6 = nI p)
abbrev mqv (Rl : RI) (ss : Nat) (lo : Nat → Nat) (w p : Nat) : Bool := decide (¬ tv Rl ss lo p 1 = -1 ∧ tv Rl ss lo p 1 / 4 = nI (w / 4))
theorem cnt_sn {q : Nat → Bool} {j : Nat} : cnt q 0 (j + 1) = cnt q 0 j + (if q j = true then 1 else 0) := by
  rw [cnt_add, Nat.zero_add]
  rfl
abbrev rmL_dayHolds : Room := { frames := 10, cells := 500, slots := 3000, locals := 200 }
theorem hy_L_dayHolds : yL_dayHolds.cls ≠ "java/lang/invoke/MethodHandle" ∧ yL_dayHolds.cls ≠ "java/lang/invoke/VarHandle" ∧ (parseMethodDescriptor yL_dayHolds.desc).map (fun d => d.parameters.length) = some 5 := by decide +kernel
set_option maxHeartbeats 8000000 in
set_option maxRecDepth 100000 in
theorem dh_loop {p : Program} {l : Launch} {e : Env} {s : State} {m : MethodId} {args : Array Value} {below : List Frame} {meth : Method} {c : Code} {G : va_G} {cI cZ cQ cU cJ : ClassId} {A : Nat → Prop} {Qf : Unit → State → Prop} {t n P d g ox : Nat} {I : OI} {R : RI} (CX : CxX p l s m args meth c cL_dayHolds 12 wsL_dayHolds RL G vwCl (tys cI cZ cQ cU cJ) nws strs A) (hN : NC s) {ss kk w : Nat} (hw16 : w < 16) (hs : ss ≤ d) (hk : kk ≤ d) {Rl : RI} {lo : Nat → Nat} (L : LAND 20000 P I R ss kk Rl lo) (bP : P ≤ 24) (bd : d ≤ 30000) (kend : ∀ (M : va_W) (cells slots : Nat), cells + 24 ≤ rmL_dayHolds.cells → slots + 144 ≤ rmL_dayHolds.slots → LW cI cZ cQ cU 20000 t n P d g ox I R M → VJ p l e rmL_dayHolds s m args below meth c 12 G vwCl A Qf cells slots (some ()) M 100 [(9, .int (nI P)), (7, .long ((nI (cnt (mqv Rl ss lo w) 0 P)).toInt64)), (5, .long ((nI (cnt (hqv Rl ss lo w) 0 P)).toInt64)), (0, .ref ox), (1, .int (nI ss)), (2, .int (nI kk)), (3, .int (nI P)), (4, .int (nI w))] []) :
    ∀ (c9 j cells slots : Nat) (M : va_W), j + c9 = P → cells + 16 * c9 + 24 ≤ rmL_dayHolds.cells → slots + 96 * c9 + 144 ≤ rmL_dayHolds.slots → LW cI cZ cQ cU 20000 t n P d g ox I R M → VJ p l e rmL_dayHolds s m args below meth c 12 G vwCl A Qf cells slots (some ()) M 9 [(9, .int (nI j)), (7, .long ((nI (cnt (mqv Rl ss lo w) 0 j)).toInt64)), (5, .long ((nI (cnt (hqv Rl ss lo w) 0 j)).toInt64)), (0, .ref ox), (1, .int (nI ss)), (2, .int (nI kk)), (3, .int (nI P)), (4, .int (nI w))] [] := by
  intro c9
  induction c9 with
  | zero =>
    intro j cells slots M hj hc hs9 hM
    have C := CX.1
    obtain rfl : j = P := by omega
    refine VJ.iload C 0 dL_dayHolds_9 rfl ?_
    refine VJ.iload_n C 6 dL_dayHolds_11 rfl ?_
    refine VJ.xicmp_ge_t C 100 (Int32.le_refl _) dL_dayHolds_12 (by decide) ?_
    exact kend M cells slots (by omega) (by omega) hM
  | succ c9 ih =>
    intro j cells slots M hjc hc hs9 hM
    have C := CX.1
    have hj : j < P := by omega
    have hH := cnt_le (hqv Rl ss lo w) j 0
    have hT := cnt_le (mqv Rl ss lo w) j 0
    have t1m : tv Rl ss lo j 1 = -1 ∨ ∃ h, h < 16 ∧ tv Rl ss lo j 1 = nI h := by
      rcases L.cases bP (by omega) hj with ⟨-, t1, -⟩ | ⟨-, t1, -⟩ | ⟨-, ⟨h, x, a, o, hh, t1, -⟩, -⟩
      · exact Or.inl t1
      · exact Or.inl t1
      · exact Or.inr ⟨h, hh, t1⟩
    rcases t1m with t1 | ⟨h, h16, t1⟩
    · have hh : ¬ hqv Rl ss lo w j = true := fun z => by
        have := (of_decide_eq_true z).1
        rw [t1] at this
        exact nI_m1 (by omega) this.symm
      have hm : ¬ mqv Rl ss lo w j = true := fun z => (of_decide_eq_true z).1 t1
      refine VJ.iload C 0 dL_dayHolds_9 rfl ?_
      refine VJ.iload_n C 6 dL_dayHolds_11 rfl ?_
      refine VJ.xicmp_ge_f C 100 (fun e => by have := (n_le (by omega) (by omega)).mp e; omega) dL_dayHolds_12 (by decide) ?_
      refine VJ.aload_n C 3 dL_dayHolds_15 rfl ?_
      refine VJ.iload C 0 dL_dayHolds_16 rfl ?_
      refine VJ.iconst (v := nI 1) C dL_dayHolds_18 (by decide) ?_
      refine VJ.iload_n C 4 dL_dayHolds_19 rfl ?_
      refine VJ.iload_n C 5 dL_dayHolds_20 rfl ?_
      refine VJ.a_asOf (w := 1) CX hN hM L hj (by omega) hs hk (vx_cwSW 5 C.1.2.2.2.2 gL_dayHolds_L_asOf rfl rfl rfl hy_L_asOf ⟨Nat.le_of_ble_eq_true rfl, Nat.le_of_ble_eq_true rfl⟩) (Nat.le_of_ble_eq_true rfl) dL_dayHolds_21 ⟨by omega, by omega⟩ (fun M1 hM1 => ?_)
      refine VJ.lnv (y := (-1 : Int32).toInt64) (congrArg Int32.toInt64 t1) ?_
      refine VJ.lstore C [(10, .long ((-1 : Int32).toInt64)), (9, .int (nI j)), (7, .long ((nI (cnt (mqv Rl ss lo w) 0 j)).toInt64)), (5, .long ((nI (cnt (hqv Rl ss lo w) 0 j)).toInt64)), (0, .ref ox), (1, .int (nI ss)), (2, .int (nI kk)), (3, .int (nI P)), (4, .int (nI w))] dL_dayHolds_24 (Nat.le_of_ble_eq_true rfl) rfl ?_
      refine VJ.lload C 3 dL_dayHolds_26 rfl ?_
      refine VJ.lload C 0 dL_dayHolds_28 rfl ?_
      refine VJ.iload C 8 dL_dayHolds_30 rfl ?_
      refine VJ.i2l C dL_dayHolds_32 ?_
      refine VJ.lcmp C dL_dayHolds_33 ?_
      refine VJ.xif_ne_t C 58 (lc_ne (fun z => nI_m1 (by omega) z.symm)) dL_dayHolds_34 (by decide) ?_
      refine VJ.lconst (v := (nI 0).toInt64) C dL_dayHolds_58 (by decide) ?_
      refine VJ.ladd C dL_dayHolds_59 ?_
      refine VJ.lnv (y := (nI ((cnt (hqv Rl ss lo w) 0 j) + 0)).toInt64) (nl_add (by omega)) ?_
      refine VJ.lnv (y := (nI (cnt (hqv Rl ss lo w) 0 (j + 1))).toInt64) (by rw [cnt_sn, if_neg hh]) ?_
      refine VJ.lstore C [(5, .long ((nI (cnt (hqv Rl ss lo w) 0 (j + 1))).toInt64)), (10, .long ((-1 : Int32).toInt64)), (9, .int (nI j)), (7, .long ((nI (cnt (mqv Rl ss lo w) 0 j)).toInt64)), (0, .ref ox), (1, .int (nI ss)), (2, .int (nI kk)), (3, .int (nI P)), (4, .int (nI w))] dL_dayHolds_60 (Nat.le_of_ble_eq_true rfl) rfl ?_
      refine VJ.lload C 3 dL_dayHolds_62 rfl ?_
      refine VJ.lload C 1 dL_dayHolds_64 rfl ?_
      refine VJ.lconst (v := (nI 0).toInt64) C dL_dayHolds_66 (by decide) ?_
      refine VJ.lcl C (by decide) dL_dayHolds_67 ?_
      refine VJ.xif_lt_t C 90 (by decide) dL_dayHolds_68 (by decide) ?_
      refine VJ.lconst (v := (nI 0).toInt64) C dL_dayHolds_90 (by decide) ?_
      refine VJ.ladd C dL_dayHolds_91 ?_
      refine VJ.lnv (y := (nI ((cnt (mqv Rl ss lo w) 0 j) + 0)).toInt64) (nl_add (by omega)) ?_
      refine VJ.lnv (y := (nI (cnt (mqv Rl ss lo w) 0 (j + 1))).toInt64) (by rw [cnt_sn, if_neg hm]) ?_
      refine VJ.lstore C [(7, .long ((nI (cnt (mqv Rl ss lo w) 0 (j + 1))).toInt64)), (5, .long ((nI (cnt (hqv Rl ss lo w) 0 (j + 1))).toInt64)), (10, .long ((-1 : Int32).toInt64)), (9, .int (nI j)), (0, .ref ox), (1, .int (nI ss)), (2, .int (nI kk)), (3, .int (nI P)), (4, .int (nI w))] dL_dayHolds_92 (Nat.le_of_ble_eq_true rfl) rfl ?_
      refine VJ.iinc C 3 (nI (j + 1)) [(9, .int (nI (j + 1))), (7, .long ((nI (cnt (mqv Rl ss lo w) 0 (j + 1))).toInt64)), (5, .long ((nI (cnt (hqv Rl ss lo w) 0 (j + 1))).toInt64)), (10, .long ((-1 : Int32).toInt64)), (0, .ref ox), (1, .int (nI ss)), (2, .int (nI kk)), (3, .int (nI P)), (4, .int (nI w))] dL_dayHolds_94 rfl nI_s9 (Nat.le_of_ble_eq_true rfl) rfl ?_
      refine VJ.goto C 9 dL_dayHolds_97 (by decide) ?_
      refine VJ.sub [0, 1, 2, 4, 5, 6, 7, 8] rfl ?_
      exact ih (j + 1) _ _ _ (by omega) (by omega) (by omega) hM1
    · have hd4 : nI h / 4 = nI (h / 4) := nI_div (b := 4) (by omega) (by omega)
      by_cases hw : h = w
      · subst hw
        have hm : mqv Rl ss lo h j = true := decide_eq_true ⟨by rw [t1]; exact nI_m1 (by omega), by rw [t1, hd4]⟩
        by_cases h6 : tv Rl ss lo j 6 = nI j
        · have hh : hqv Rl ss lo h j = true := decide_eq_true ⟨t1, h6⟩
          refine VJ.iload C 0 dL_dayHolds_9 rfl ?_
          refine VJ.iload_n C 6 dL_dayHolds_11 rfl ?_
          refine VJ.xicmp_ge_f C 100 (fun e => by have := (n_le (by omega) (by omega)).mp e; omega) dL_dayHolds_12 (by decide) ?_
          refine VJ.aload_n C 3 dL_dayHolds_15 rfl ?_
          refine VJ.iload C 0 dL_dayHolds_16 rfl ?_
          refine VJ.iconst (v := nI 1) C dL_dayHolds_18 (by decide) ?_
          refine VJ.iload_n C 4 dL_dayHolds_19 rfl ?_
          refine VJ.iload_n C 5 dL_dayHolds_20 rfl ?_
          refine VJ.a_asOf (w := 1) CX hN hM L hj (by omega) hs hk (vx_cwSW 5 C.1.2.2.2.2 gL_dayHolds_L_asOf rfl rfl rfl hy_L_asOf ⟨Nat.le_of_ble_eq_true rfl, Nat.le_of_ble_eq_true rfl⟩) (Nat.le_of_ble_eq_true rfl) dL_dayHolds_21 ⟨by omega, by omega⟩ (fun M1 hM1 => ?_)
          refine VJ.lnv (y := (nI h).toInt64) (congrArg Int32.toInt64 t1) ?_
          refine VJ.lstore C [(10, .long ((nI h).toInt64)), (9, .int (nI j)), (7, .long ((nI (cnt (mqv Rl ss lo h) 0 j)).toInt64)), (5, .long ((nI (cnt (hqv Rl ss lo h) 0 j)).toInt64)), (0, .ref ox), (1, .int (nI ss)), (2, .int (nI kk)), (3, .int (nI P)), (4, .int (nI h))] dL_dayHolds_24 (Nat.le_of_ble_eq_true rfl) rfl ?_
          refine VJ.lload C 3 dL_dayHolds_26 rfl ?_
          refine VJ.lload C 0 dL_dayHolds_28 rfl ?_
          refine VJ.iload C 8 dL_dayHolds_30 rfl ?_
          refine VJ.i2l C dL_dayHolds_32 ?_
          refine VJ.lce C (rfl) dL_dayHolds_33 ?_
          refine VJ.xif_ne_f C 58 (by decide) dL_dayHolds_34 (by decide) ?_
          refine VJ.aload_n C 4 dL_dayHolds_37 rfl ?_
          refine VJ.iload C 1 dL_dayHolds_38 rfl ?_
          refine VJ.bipush (v := nI 6) C dL_dayHolds_40 (by decide) ?_
          refine VJ.iload_n C 5 dL_dayHolds_42 rfl ?_
          refine VJ.iload_n C 6 dL_dayHolds_43 rfl ?_
          refine VJ.a_asOf (w := 6) CX hN hM1 L hj (by omega) hs hk (vx_cwSW 5 C.1.2.2.2.2 gL_dayHolds_L_asOf rfl rfl rfl hy_L_asOf ⟨Nat.le_of_ble_eq_true rfl, Nat.le_of_ble_eq_true rfl⟩) (Nat.le_of_ble_eq_true rfl) dL_dayHolds_44 ⟨by omega, by omega⟩ (fun M2 hM2 => ?_)
          refine VJ.lnv (y := (nI j).toInt64) (congrArg Int32.toInt64 h6) ?_
          refine VJ.iload C 1 dL_dayHolds_47 rfl ?_
          refine VJ.i2l C dL_dayHolds_49 ?_
          refine VJ.lce C (rfl) dL_dayHolds_50 ?_
          refine VJ.xif_ne_f C 58 (by decide) dL_dayHolds_51 (by decide) ?_
          refine VJ.lconst (v := (nI 1).toInt64) C dL_dayHolds_54 (by decide) ?_
          refine VJ.goto C 59 dL_dayHolds_55 (by decide) ?_
          refine VJ.ladd C dL_dayHolds_59 ?_
          refine VJ.lnv (y := (nI ((cnt (hqv Rl ss lo h) 0 j) + 1)).toInt64) (nl_add (by omega)) ?_
          refine VJ.lnv (y := (nI (cnt (hqv Rl ss lo h) 0 (j + 1))).toInt64) (by rw [cnt_sn, if_pos hh]) ?_
          refine VJ.lstore C [(5, .long ((nI (cnt (hqv Rl ss lo h) 0 (j + 1))).toInt64)), (10, .long ((nI h).toInt64)), (9, .int (nI j)), (7, .long ((nI (cnt (mqv Rl ss lo h) 0 j)).toInt64)), (0, .ref ox), (1, .int (nI ss)), (2, .int (nI kk)), (3, .int (nI P)), (4, .int (nI h))] dL_dayHolds_60 (Nat.le_of_ble_eq_true rfl) rfl ?_
          refine VJ.lload C 3 dL_dayHolds_62 rfl ?_
          refine VJ.lload C 1 dL_dayHolds_64 rfl ?_
          refine VJ.lconst (v := (nI 0).toInt64) C dL_dayHolds_66 (by decide) ?_
          refine VJ.lcmp C dL_dayHolds_67 ?_
          refine VJ.xif_lt_f C 90 (lc_nn (by omega)) dL_dayHolds_68 (by decide) ?_
          refine VJ.lload C 1 dL_dayHolds_71 rfl ?_
          refine VJ.ldc2 (v := 4) C (C.1.2.2.2.2 _ (List.mem_of_getElem? (i := 1) rfl)) dL_dayHolds_73 ?_
          refine VJ.lnv (y := (nI 4).toInt64) (by decide) ?_
          refine VJ.ldiv C dL_dayHolds_76 (by decide) ?_
          refine VJ.lnv (y := (nI (h / 4)).toInt64) (nl_div (by omega) (by omega) (by omega)) ?_
          refine VJ.iload C 8 dL_dayHolds_77 rfl ?_
          refine VJ.iconst (v := nI 4) C dL_dayHolds_79 (by decide) ?_
          refine VJ.idiv C dL_dayHolds_80 (nz (by omega) (by omega)) ?_
          refine VJ.iv (y := nI (h / 4)) (nI_div (by omega) (by omega)) ?_
          refine VJ.i2l C dL_dayHolds_81 ?_
          refine VJ.lce C (rfl) dL_dayHolds_82 ?_
          refine VJ.xif_ne_f C 90 (by decide) dL_dayHolds_83 (by decide) ?_
          refine VJ.lconst (v := (nI 1).toInt64) C dL_dayHolds_86 (by decide) ?_
          refine VJ.goto C 91 dL_dayHolds_87 (by decide) ?_
          refine VJ.ladd C dL_dayHolds_91 ?_
          refine VJ.lnv (y := (nI ((cnt (mqv Rl ss lo h) 0 j) + 1)).toInt64) (nl_add (by omega)) ?_
          refine VJ.lnv (y := (nI (cnt (mqv Rl ss lo h) 0 (j + 1))).toInt64) (by rw [cnt_sn, if_pos hm]) ?_
          refine VJ.lstore C [(7, .long ((nI (cnt (mqv Rl ss lo h) 0 (j + 1))).toInt64)), (5, .long ((nI (cnt (hqv Rl ss lo h) 0 (j + 1))).toInt64)), (10, .long ((nI h).toInt64)), (9, .int (nI j)), (0, .ref ox), (1, .int (nI ss)), (2, .int (nI kk)), (3, .int (nI P)), (4, .int (nI h))] dL_dayHolds_92 (Nat.le_of_ble_eq_true rfl) rfl ?_
          refine VJ.iinc C 3 (nI (j + 1)) [(9, .int (nI (j + 1))), (7, .long ((nI (cnt (mqv Rl ss lo h) 0 (j + 1))).toInt64)), (5, .long ((nI (cnt (hqv Rl ss lo h) 0 (j + 1))).toInt64)), (10, .long ((nI h).toInt64)), (0, .ref ox), (1, .int (nI ss)), (2, .int (nI kk)), (3, .int (nI P)), (4, .int (nI h))] dL_dayHolds_94 rfl nI_s9 (Nat.le_of_ble_eq_true rfl) rfl ?_
          refine VJ.goto C 9 dL_dayHolds_97 (by decide) ?_
          refine VJ.sub [0, 1, 2, 4, 5, 6, 7, 8] rfl ?_
          exact ih (j + 1) _ _ _ (by omega) (by omega) (by omega) hM2
        · have hh : ¬ hqv Rl ss lo h j = true := fun z => h6 (of_decide_eq_true z).2
          refine VJ.iload C 0 dL_dayHolds_9 rfl ?_
          refine VJ.iload_n C 6 dL_dayHolds_11 rfl ?_
          refine VJ.xicmp_ge_f C 100 (fun e => by have := (n_le (by omega) (by omega)).mp e; omega) dL_dayHolds_12 (by decide) ?_
          refine VJ.aload_n C 3 dL_dayHolds_15 rfl ?_
          refine VJ.iload C 0 dL_dayHolds_16 rfl ?_
          refine VJ.iconst (v := nI 1) C dL_dayHolds_18 (by decide) ?_
          refine VJ.iload_n C 4 dL_dayHolds_19 rfl ?_
          refine VJ.iload_n C 5 dL_dayHolds_20 rfl ?_
          refine VJ.a_asOf (w := 1) CX hN hM L hj (by omega) hs hk (vx_cwSW 5 C.1.2.2.2.2 gL_dayHolds_L_asOf rfl rfl rfl hy_L_asOf ⟨Nat.le_of_ble_eq_true rfl, Nat.le_of_ble_eq_true rfl⟩) (Nat.le_of_ble_eq_true rfl) dL_dayHolds_21 ⟨by omega, by omega⟩ (fun M1 hM1 => ?_)
          refine VJ.lnv (y := (nI h).toInt64) (congrArg Int32.toInt64 t1) ?_
          refine VJ.lstore C [(10, .long ((nI h).toInt64)), (9, .int (nI j)), (7, .long ((nI (cnt (mqv Rl ss lo h) 0 j)).toInt64)), (5, .long ((nI (cnt (hqv Rl ss lo h) 0 j)).toInt64)), (0, .ref ox), (1, .int (nI ss)), (2, .int (nI kk)), (3, .int (nI P)), (4, .int (nI h))] dL_dayHolds_24 (Nat.le_of_ble_eq_true rfl) rfl ?_
          refine VJ.lload C 3 dL_dayHolds_26 rfl ?_
          refine VJ.lload C 0 dL_dayHolds_28 rfl ?_
          refine VJ.iload C 8 dL_dayHolds_30 rfl ?_
          refine VJ.i2l C dL_dayHolds_32 ?_
          refine VJ.lce C (rfl) dL_dayHolds_33 ?_
          refine VJ.xif_ne_f C 58 (by decide) dL_dayHolds_34 (by decide) ?_
          refine VJ.aload_n C 4 dL_dayHolds_37 rfl ?_
          refine VJ.iload C 1 dL_dayHolds_38 rfl ?_
          refine VJ.bipush (v := nI 6) C dL_dayHolds_40 (by decide) ?_
          refine VJ.iload_n C 5 dL_dayHolds_42 rfl ?_
          refine VJ.iload_n C 6 dL_dayHolds_43 rfl ?_
          refine VJ.a_asOf (w := 6) CX hN hM1 L hj (by omega) hs hk (vx_cwSW 5 C.1.2.2.2.2 gL_dayHolds_L_asOf rfl rfl rfl hy_L_asOf ⟨Nat.le_of_ble_eq_true rfl, Nat.le_of_ble_eq_true rfl⟩) (Nat.le_of_ble_eq_true rfl) dL_dayHolds_44 ⟨by omega, by omega⟩ (fun M2 hM2 => ?_)
          refine VJ.iload C 1 dL_dayHolds_47 rfl ?_
          refine VJ.i2l C dL_dayHolds_49 ?_
          refine VJ.lcmp C dL_dayHolds_50 ?_
          refine VJ.xif_ne_t C 58 (lc_ne h6) dL_dayHolds_51 (by decide) ?_
          refine VJ.lconst (v := (nI 0).toInt64) C dL_dayHolds_58 (by decide) ?_
          refine VJ.ladd C dL_dayHolds_59 ?_
          refine VJ.lnv (y := (nI ((cnt (hqv Rl ss lo h) 0 j) + 0)).toInt64) (nl_add (by omega)) ?_
          refine VJ.lnv (y := (nI (cnt (hqv Rl ss lo h) 0 (j + 1))).toInt64) (by rw [cnt_sn, if_neg hh]) ?_
          refine VJ.lstore C [(5, .long ((nI (cnt (hqv Rl ss lo h) 0 (j + 1))).toInt64)), (10, .long ((nI h).toInt64)), (9, .int (nI j)), (7, .long ((nI (cnt (mqv Rl ss lo h) 0 j)).toInt64)), (0, .ref ox), (1, .int (nI ss)), (2, .int (nI kk)), (3, .int (nI P)), (4, .int (nI h))] dL_dayHolds_60 (Nat.le_of_ble_eq_true rfl) rfl ?_
          refine VJ.lload C 3 dL_dayHolds_62 rfl ?_
          refine VJ.lload C 1 dL_dayHolds_64 rfl ?_
          refine VJ.lconst (v := (nI 0).toInt64) C dL_dayHolds_66 (by decide) ?_
          refine VJ.lcmp C dL_dayHolds_67 ?_
          refine VJ.xif_lt_f C 90 (lc_nn (by omega)) dL_dayHolds_68 (by decide) ?_
          refine VJ.lload C 1 dL_dayHolds_71 rfl ?_
          refine VJ.ldc2 (v := 4) C (C.1.2.2.2.2 _ (List.mem_of_getElem? (i := 1) rfl)) dL_dayHolds_73 ?_
          refine VJ.lnv (y := (nI 4).toInt64) (by decide) ?_
          refine VJ.ldiv C dL_dayHolds_76 (by decide) ?_
          refine VJ.lnv (y := (nI (h / 4)).toInt64) (nl_div (by omega) (by omega) (by omega)) ?_
          refine VJ.iload C 8 dL_dayHolds_77 rfl ?_
          refine VJ.iconst (v := nI 4) C dL_dayHolds_79 (by decide) ?_
          refine VJ.idiv C dL_dayHolds_80 (nz (by omega) (by omega)) ?_
          refine VJ.iv (y := nI (h / 4)) (nI_div (by omega) (by omega)) ?_
          refine VJ.i2l C dL_dayHolds_81 ?_
          refine VJ.lce C (rfl) dL_dayHolds_82 ?_
          refine VJ.xif_ne_f C 90 (by decide) dL_dayHolds_83 (by decide) ?_
          refine VJ.lconst (v := (nI 1).toInt64) C dL_dayHolds_86 (by decide) ?_
          refine VJ.goto C 91 dL_dayHolds_87 (by decide) ?_
          refine VJ.ladd C dL_dayHolds_91 ?_
          refine VJ.lnv (y := (nI ((cnt (mqv Rl ss lo h) 0 j) + 1)).toInt64) (nl_add (by omega)) ?_
          refine VJ.lnv (y := (nI (cnt (mqv Rl ss lo h) 0 (j + 1))).toInt64) (by rw [cnt_sn, if_pos hm]) ?_
          refine VJ.lstore C [(7, .long ((nI (cnt (mqv Rl ss lo h) 0 (j + 1))).toInt64)), (5, .long ((nI (cnt (hqv Rl ss lo h) 0 (j + 1))).toInt64)), (10, .long ((nI h).toInt64)), (9, .int (nI j)), (0, .ref ox), (1, .int (nI ss)), (2, .int (nI kk)), (3, .int (nI P)), (4, .int (nI h))] dL_dayHolds_92 (Nat.le_of_ble_eq_true rfl) rfl ?_
          refine VJ.iinc C 3 (nI (j + 1)) [(9, .int (nI (j + 1))), (7, .long ((nI (cnt (mqv Rl ss lo h) 0 (j + 1))).toInt64)), (5, .long ((nI (cnt (hqv Rl ss lo h) 0 (j + 1))).toInt64)), (10, .long ((nI h).toInt64)), (0, .ref ox), (1, .int (nI ss)), (2, .int (nI kk)), (3, .int (nI P)), (4, .int (nI h))] dL_dayHolds_94 rfl nI_s9 (Nat.le_of_ble_eq_true rfl) rfl ?_
          refine VJ.goto C 9 dL_dayHolds_97 (by decide) ?_
          refine VJ.sub [0, 1, 2, 4, 5, 6, 7, 8] rfl ?_
          exact ih (j + 1) _ _ _ (by omega) (by omega) (by omega) hM2
      · have hh : ¬ hqv Rl ss lo w j = true := fun z => by
          have := (of_decide_eq_true z).1
          rw [t1] at this
          exact hw ((n_eq (by omega) (by omega)).mp this)
        by_cases h4 : h / 4 = w / 4
        · have hm : mqv Rl ss lo w j = true := decide_eq_true ⟨by rw [t1]; exact nI_m1 (by omega), by rw [t1, hd4, h4]⟩
          refine VJ.iload C 0 dL_dayHolds_9 rfl ?_
          refine VJ.iload_n C 6 dL_dayHolds_11 rfl ?_
          refine VJ.xicmp_ge_f C 100 (fun e => by have := (n_le (by omega) (by omega)).mp e; omega) dL_dayHolds_12 (by decide) ?_
          refine VJ.aload_n C 3 dL_dayHolds_15 rfl ?_
          refine VJ.iload C 0 dL_dayHolds_16 rfl ?_
          refine VJ.iconst (v := nI 1) C dL_dayHolds_18 (by decide) ?_
          refine VJ.iload_n C 4 dL_dayHolds_19 rfl ?_
          refine VJ.iload_n C 5 dL_dayHolds_20 rfl ?_
          refine VJ.a_asOf (w := 1) CX hN hM L hj (by omega) hs hk (vx_cwSW 5 C.1.2.2.2.2 gL_dayHolds_L_asOf rfl rfl rfl hy_L_asOf ⟨Nat.le_of_ble_eq_true rfl, Nat.le_of_ble_eq_true rfl⟩) (Nat.le_of_ble_eq_true rfl) dL_dayHolds_21 ⟨by omega, by omega⟩ (fun M1 hM1 => ?_)
          refine VJ.lnv (y := (nI h).toInt64) (congrArg Int32.toInt64 t1) ?_
          refine VJ.lstore C [(10, .long ((nI h).toInt64)), (9, .int (nI j)), (7, .long ((nI (cnt (mqv Rl ss lo w) 0 j)).toInt64)), (5, .long ((nI (cnt (hqv Rl ss lo w) 0 j)).toInt64)), (0, .ref ox), (1, .int (nI ss)), (2, .int (nI kk)), (3, .int (nI P)), (4, .int (nI w))] dL_dayHolds_24 (Nat.le_of_ble_eq_true rfl) rfl ?_
          refine VJ.lload C 3 dL_dayHolds_26 rfl ?_
          refine VJ.lload C 0 dL_dayHolds_28 rfl ?_
          refine VJ.iload C 8 dL_dayHolds_30 rfl ?_
          refine VJ.i2l C dL_dayHolds_32 ?_
          refine VJ.lcmp C dL_dayHolds_33 ?_
          refine VJ.xif_ne_t C 58 (lc_ne (fun z => hw ((n_eq (by omega) (by omega)).mp z))) dL_dayHolds_34 (by decide) ?_
          refine VJ.lconst (v := (nI 0).toInt64) C dL_dayHolds_58 (by decide) ?_
          refine VJ.ladd C dL_dayHolds_59 ?_
          refine VJ.lnv (y := (nI ((cnt (hqv Rl ss lo w) 0 j) + 0)).toInt64) (nl_add (by omega)) ?_
          refine VJ.lnv (y := (nI (cnt (hqv Rl ss lo w) 0 (j + 1))).toInt64) (by rw [cnt_sn, if_neg hh]) ?_
          refine VJ.lstore C [(5, .long ((nI (cnt (hqv Rl ss lo w) 0 (j + 1))).toInt64)), (10, .long ((nI h).toInt64)), (9, .int (nI j)), (7, .long ((nI (cnt (mqv Rl ss lo w) 0 j)).toInt64)), (0, .ref ox), (1, .int (nI ss)), (2, .int (nI kk)), (3, .int (nI P)), (4, .int (nI w))] dL_dayHolds_60 (Nat.le_of_ble_eq_true rfl) rfl ?_
          refine VJ.lload C 3 dL_dayHolds_62 rfl ?_
          refine VJ.lload C 1 dL_dayHolds_64 rfl ?_
          refine VJ.lconst (v := (nI 0).toInt64) C dL_dayHolds_66 (by decide) ?_
          refine VJ.lcmp C dL_dayHolds_67 ?_
          refine VJ.xif_lt_f C 90 (lc_nn (by omega)) dL_dayHolds_68 (by decide) ?_
          refine VJ.lload C 1 dL_dayHolds_71 rfl ?_
          refine VJ.ldc2 (v := 4) C (C.1.2.2.2.2 _ (List.mem_of_getElem? (i := 1) rfl)) dL_dayHolds_73 ?_
          refine VJ.lnv (y := (nI 4).toInt64) (by decide) ?_
          refine VJ.ldiv C dL_dayHolds_76 (by decide) ?_
          refine VJ.lnv (y := (nI (h / 4)).toInt64) (nl_div (by omega) (by omega) (by omega)) ?_
          refine VJ.iload C 8 dL_dayHolds_77 rfl ?_
          refine VJ.iconst (v := nI 4) C dL_dayHolds_79 (by decide) ?_
          refine VJ.idiv C dL_dayHolds_80 (nz (by omega) (by omega)) ?_
          refine VJ.iv (y := nI (w / 4)) (nI_div (by omega) (by omega)) ?_
          refine VJ.i2l C dL_dayHolds_81 ?_
          refine VJ.lce C (by rw [h4]) dL_dayHolds_82 ?_
          refine VJ.xif_ne_f C 90 (by decide) dL_dayHolds_83 (by decide) ?_
          refine VJ.lconst (v := (nI 1).toInt64) C dL_dayHolds_86 (by decide) ?_
          refine VJ.goto C 91 dL_dayHolds_87 (by decide) ?_
          refine VJ.ladd C dL_dayHolds_91 ?_
          refine VJ.lnv (y := (nI ((cnt (mqv Rl ss lo w) 0 j) + 1)).toInt64) (nl_add (by omega)) ?_
          refine VJ.lnv (y := (nI (cnt (mqv Rl ss lo w) 0 (j + 1))).toInt64) (by rw [cnt_sn, if_pos hm]) ?_
          refine VJ.lstore C [(7, .long ((nI (cnt (mqv Rl ss lo w) 0 (j + 1))).toInt64)), (5, .long ((nI (cnt (hqv Rl ss lo w) 0 (j + 1))).toInt64)), (10, .long ((nI h).toInt64)), (9, .int (nI j)), (0, .ref ox), (1, .int (nI ss)), (2, .int (nI kk)), (3, .int (nI P)), (4, .int (nI w))] dL_dayHolds_92 (Nat.le_of_ble_eq_true rfl) rfl ?_
          refine VJ.iinc C 3 (nI (j + 1)) [(9, .int (nI (j + 1))), (7, .long ((nI (cnt (mqv Rl ss lo w) 0 (j + 1))).toInt64)), (5, .long ((nI (cnt (hqv Rl ss lo w) 0 (j + 1))).toInt64)), (10, .long ((nI h).toInt64)), (0, .ref ox), (1, .int (nI ss)), (2, .int (nI kk)), (3, .int (nI P)), (4, .int (nI w))] dL_dayHolds_94 rfl nI_s9 (Nat.le_of_ble_eq_true rfl) rfl ?_
          refine VJ.goto C 9 dL_dayHolds_97 (by decide) ?_
          refine VJ.sub [0, 1, 2, 4, 5, 6, 7, 8] rfl ?_
          exact ih (j + 1) _ _ _ (by omega) (by omega) (by omega) hM1
        · have hm : ¬ mqv Rl ss lo w j = true := fun z => by
            have := (of_decide_eq_true z).2
            rw [t1, hd4] at this
            exact h4 ((n_eq (by omega) (by omega)).mp this)
          refine VJ.iload C 0 dL_dayHolds_9 rfl ?_
          refine VJ.iload_n C 6 dL_dayHolds_11 rfl ?_
          refine VJ.xicmp_ge_f C 100 (fun e => by have := (n_le (by omega) (by omega)).mp e; omega) dL_dayHolds_12 (by decide) ?_
          refine VJ.aload_n C 3 dL_dayHolds_15 rfl ?_
          refine VJ.iload C 0 dL_dayHolds_16 rfl ?_
          refine VJ.iconst (v := nI 1) C dL_dayHolds_18 (by decide) ?_
          refine VJ.iload_n C 4 dL_dayHolds_19 rfl ?_
          refine VJ.iload_n C 5 dL_dayHolds_20 rfl ?_
          refine VJ.a_asOf (w := 1) CX hN hM L hj (by omega) hs hk (vx_cwSW 5 C.1.2.2.2.2 gL_dayHolds_L_asOf rfl rfl rfl hy_L_asOf ⟨Nat.le_of_ble_eq_true rfl, Nat.le_of_ble_eq_true rfl⟩) (Nat.le_of_ble_eq_true rfl) dL_dayHolds_21 ⟨by omega, by omega⟩ (fun M1 hM1 => ?_)
          refine VJ.lnv (y := (nI h).toInt64) (congrArg Int32.toInt64 t1) ?_
          refine VJ.lstore C [(10, .long ((nI h).toInt64)), (9, .int (nI j)), (7, .long ((nI (cnt (mqv Rl ss lo w) 0 j)).toInt64)), (5, .long ((nI (cnt (hqv Rl ss lo w) 0 j)).toInt64)), (0, .ref ox), (1, .int (nI ss)), (2, .int (nI kk)), (3, .int (nI P)), (4, .int (nI w))] dL_dayHolds_24 (Nat.le_of_ble_eq_true rfl) rfl ?_
          refine VJ.lload C 3 dL_dayHolds_26 rfl ?_
          refine VJ.lload C 0 dL_dayHolds_28 rfl ?_
          refine VJ.iload C 8 dL_dayHolds_30 rfl ?_
          refine VJ.i2l C dL_dayHolds_32 ?_
          refine VJ.lcmp C dL_dayHolds_33 ?_
          refine VJ.xif_ne_t C 58 (lc_ne (fun z => hw ((n_eq (by omega) (by omega)).mp z))) dL_dayHolds_34 (by decide) ?_
          refine VJ.lconst (v := (nI 0).toInt64) C dL_dayHolds_58 (by decide) ?_
          refine VJ.ladd C dL_dayHolds_59 ?_
          refine VJ.lnv (y := (nI ((cnt (hqv Rl ss lo w) 0 j) + 0)).toInt64) (nl_add (by omega)) ?_
          refine VJ.lnv (y := (nI (cnt (hqv Rl ss lo w) 0 (j + 1))).toInt64) (by rw [cnt_sn, if_neg hh]) ?_
          refine VJ.lstore C [(5, .long ((nI (cnt (hqv Rl ss lo w) 0 (j + 1))).toInt64)), (10, .long ((nI h).toInt64)), (9, .int (nI j)), (7, .long ((nI (cnt (mqv Rl ss lo w) 0 j)).toInt64)), (0, .ref ox), (1, .int (nI ss)), (2, .int (nI kk)), (3, .int (nI P)), (4, .int (nI w))] dL_dayHolds_60 (Nat.le_of_ble_eq_true rfl) rfl ?_
          refine VJ.lload C 3 dL_dayHolds_62 rfl ?_
          refine VJ.lload C 1 dL_dayHolds_64 rfl ?_
          refine VJ.lconst (v := (nI 0).toInt64) C dL_dayHolds_66 (by decide) ?_
          refine VJ.lcmp C dL_dayHolds_67 ?_
          refine VJ.xif_lt_f C 90 (lc_nn (by omega)) dL_dayHolds_68 (by decide) ?_
          refine VJ.lload C 1 dL_dayHolds_71 rfl ?_
          refine VJ.ldc2 (v := 4) C (C.1.2.2.2.2 _ (List.mem_of_getElem? (i := 1) rfl)) dL_dayHolds_73 ?_
          refine VJ.lnv (y := (nI 4).toInt64) (by decide) ?_
          refine VJ.ldiv C dL_dayHolds_76 (by decide) ?_
          refine VJ.lnv (y := (nI (h / 4)).toInt64) (nl_div (by omega) (by omega) (by omega)) ?_
          refine VJ.iload C 8 dL_dayHolds_77 rfl ?_
          refine VJ.iconst (v := nI 4) C dL_dayHolds_79 (by decide) ?_
          refine VJ.idiv C dL_dayHolds_80 (nz (by omega) (by omega)) ?_
          refine VJ.iv (y := nI (w / 4)) (nI_div (by omega) (by omega)) ?_
          refine VJ.i2l C dL_dayHolds_81 ?_
          refine VJ.lcmp C dL_dayHolds_82 ?_
          refine VJ.xif_ne_t C 90 (lc_ne (fun z => h4 ((n_eq (by omega) (by omega)).mp z))) dL_dayHolds_83 (by decide) ?_
          refine VJ.lconst (v := (nI 0).toInt64) C dL_dayHolds_90 (by decide) ?_
          refine VJ.ladd C dL_dayHolds_91 ?_
          refine VJ.lnv (y := (nI ((cnt (mqv Rl ss lo w) 0 j) + 0)).toInt64) (nl_add (by omega)) ?_
          refine VJ.lnv (y := (nI (cnt (mqv Rl ss lo w) 0 (j + 1))).toInt64) (by rw [cnt_sn, if_neg hm]) ?_
          refine VJ.lstore C [(7, .long ((nI (cnt (mqv Rl ss lo w) 0 (j + 1))).toInt64)), (5, .long ((nI (cnt (hqv Rl ss lo w) 0 (j + 1))).toInt64)), (10, .long ((nI h).toInt64)), (9, .int (nI j)), (0, .ref ox), (1, .int (nI ss)), (2, .int (nI kk)), (3, .int (nI P)), (4, .int (nI w))] dL_dayHolds_92 (Nat.le_of_ble_eq_true rfl) rfl ?_
          refine VJ.iinc C 3 (nI (j + 1)) [(9, .int (nI (j + 1))), (7, .long ((nI (cnt (mqv Rl ss lo w) 0 (j + 1))).toInt64)), (5, .long ((nI (cnt (hqv Rl ss lo w) 0 (j + 1))).toInt64)), (10, .long ((nI h).toInt64)), (0, .ref ox), (1, .int (nI ss)), (2, .int (nI kk)), (3, .int (nI P)), (4, .int (nI w))] dL_dayHolds_94 rfl nI_s9 (Nat.le_of_ble_eq_true rfl) rfl ?_
          refine VJ.goto C 9 dL_dayHolds_97 (by decide) ?_
          refine VJ.sub [0, 1, 2, 4, 5, 6, 7, 8] rfl ?_
          exact ih (j + 1) _ _ _ (by omega) (by omega) (by omega) hM1
set_option maxHeartbeats 8000000 in
set_option maxRecDepth 100000 in
theorem c_L_dayHolds (l : Launch) (hl9 : l.stackTraces = false) (G : va_G) (cI cZ cQ cU cJ : ClassId) {t n P d g ox : Nat} {I : OI} {R : RI} {M0 : va_W} (hM0 : LW cI cZ cQ cU 20000 t n P d g ox I R M0) {ss kk w : Nat} (hw : w < 16) (hs : ss ≤ d) (hk : kk ≤ d) {Rl : RI} {lo : Nat → Nat} (L : LAND 20000 P I R ss kk Rl lo) : ConW l yL_dayHolds wsL_dayHolds rmL_dayHolds G vwCl (tys cI cZ cQ cU cJ) nws strs [.ref ox, .int (nI ss), .int (nI kk), .int (nI P), .int (nI w)] M0 (fun _ r M' => r = some (.int 1) ∧ LW cI cZ cQ cU 20000 t n P d g ox I R M') := by
  obtain ⟨bn, bP, bd, bg, -⟩ := hM0.iv
  refine conV_of (cc := cL_dayHolds) (maxL := 12) (own := RL) hl9 rfl (plainFor_of_name (by decide +kernel)) rfl (Nat.le_of_ble_eq_true rfl) ?_
  intro p e s m args below meth c A CX hN hret
  have C := CX.1
  refine VJ.lconst (v := (nI 0).toInt64) C dL_dayHolds_0 (by decide) ?_
  refine VJ.lstore C [(5, .long ((nI 0).toInt64)), (0, .ref ox), (1, .int (nI ss)), (2, .int (nI kk)), (3, .int (nI P)), (4, .int (nI w))] dL_dayHolds_1 (Nat.le_of_ble_eq_true rfl) rfl ?_
  refine VJ.lconst (v := (nI 0).toInt64) C dL_dayHolds_3 (by decide) ?_
  refine VJ.lstore C [(7, .long ((nI 0).toInt64)), (5, .long ((nI 0).toInt64)), (0, .ref ox), (1, .int (nI ss)), (2, .int (nI kk)), (3, .int (nI P)), (4, .int (nI w))] dL_dayHolds_4 (Nat.le_of_ble_eq_true rfl) rfl ?_
  refine VJ.iconst (v := nI 0) C dL_dayHolds_6 (by decide) ?_
  refine VJ.istore C [(9, .int (nI 0)), (7, .long ((nI 0).toInt64)), (5, .long ((nI 0).toInt64)), (0, .ref ox), (1, .int (nI ss)), (2, .int (nI kk)), (3, .int (nI P)), (4, .int (nI w))] dL_dayHolds_7 (Nat.le_of_ble_eq_true rfl) rfl ?_
  refine VJ.sub [0, 1, 2, 3, 4, 5, 6, 7] rfl ?_
  refine dh_loop CX hN hw hs hk L bP bd ?_ P 0 0 0 M0 (by omega) (show 0 + 16 * P + 24 ≤ 500 by omega) (show 0 + 96 * P + 144 ≤ 3000 by omega) hM0
  intro M1 cells slots hcl hsl hM1
  refine VJ.aload_n C 3 dL_dayHolds_100 rfl ?_
  refine VJ.iload C 7 dL_dayHolds_101 rfl ?_
  refine VJ.iload_n C 4 dL_dayHolds_103 rfl ?_
  refine VJ.iload_n C 5 dL_dayHolds_104 rfl ?_
  refine VJ.a_households CX hN hM1 L hw hs hk (vx_cwSW 4 C.1.2.2.2.2 gL_dayHolds_L_households rfl rfl rfl hy_L_households ⟨Nat.le_of_ble_eq_true rfl, Nat.le_of_ble_eq_true rfl⟩) (Nat.le_of_ble_eq_true rfl) dL_dayHolds_105 ⟨by omega, by omega⟩ (fun M2 hM2 => ?_)
  refine VJ.lload C 2 dL_dayHolds_108 rfl ?_
  refine VJ.lce C (rfl) dL_dayHolds_110 ?_
  refine VJ.xif_ne_f C 147 (by decide) dL_dayHolds_111 (by decide) ?_
  refine VJ.aload_n C 3 dL_dayHolds_114 rfl ?_
  refine VJ.iload C 7 dL_dayHolds_115 rfl ?_
  refine VJ.iconst (v := nI 4) C dL_dayHolds_117 (by decide) ?_
  refine VJ.idiv C dL_dayHolds_118 (nz (by omega) (by omega)) ?_
  refine VJ.iv (y := nI (w / 4)) (nI_div (by omega) (by omega)) ?_
  refine VJ.iload_n C 4 dL_dayHolds_119 rfl ?_
  refine VJ.iconst (v := nI 1) C dL_dayHolds_120 (by decide) ?_
  refine VJ.iload_n C 5 dL_dayHolds_121 rfl ?_
  refine VJ.a_money CX hN hM2 L (by omega) hs hk (vx_cwSW 5 C.1.2.2.2.2 gL_dayHolds_L_money rfl rfl rfl hy_L_money ⟨Nat.le_of_ble_eq_true rfl, Nat.le_of_ble_eq_true rfl⟩) (Nat.le_of_ble_eq_true rfl) dL_dayHolds_122 ⟨by omega, by omega⟩ (fun M3 hM3 => ?_)
  refine VJ.lload C 1 dL_dayHolds_125 rfl ?_
  refine VJ.lce C (rfl) dL_dayHolds_127 ?_
  refine VJ.xif_ne_f C 147 (by decide) dL_dayHolds_128 (by decide) ?_
  refine VJ.aload_n C 3 dL_dayHolds_131 rfl ?_
  refine VJ.iload_n C 4 dL_dayHolds_132 rfl ?_
  refine VJ.iload_n C 5 dL_dayHolds_133 rfl ?_
  refine VJ.iload_n C 5 dL_dayHolds_134 rfl ?_
  refine VJ.a_changed CX hN hM3 hs hk (vx_cwSW 4 C.1.2.2.2.2 gL_dayHolds_L_changed rfl rfl rfl hy_L_changed ⟨Nat.le_of_ble_eq_true rfl, Nat.le_of_ble_eq_true rfl⟩) (Nat.le_of_ble_eq_true rfl) dL_dayHolds_135 ⟨by omega, by omega⟩ (fun M4 hM4 => ?_)
  refine VJ.lconst (v := (nI 0).toInt64) C dL_dayHolds_138 (by decide) ?_
  refine VJ.lce C (by decide) dL_dayHolds_139 ?_
  refine VJ.xif_ne_f C 147 (by decide) dL_dayHolds_140 (by decide) ?_
  refine VJ.iconst (v := nI 1) C dL_dayHolds_143 (by decide) ?_
  refine VJ.goto C 148 dL_dayHolds_144 (by decide) ?_
  exact VJ.zretN C rmL_dayHolds.cells rmL_dayHolds.slots rfl (fun _ h9 => h9) ⟨rfl, hM4⟩ hret (by omega) (by omega) dL_dayHolds_148
end LDh
