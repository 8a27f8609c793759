section LRh
abbrev rmL_rollHolds : Room := { frames := 10, cells := 1100, slots := 20000, locals := 200 }
theorem hy_L_rollHolds : yL_rollHolds.cls ≠ "java/lang/invoke/MethodHandle" ∧ yL_rollHolds.cls ≠ "java/lang/invoke/VarHandle" ∧ (parseMethodDescriptor yL_rollHolds.desc).map (fun d => d.parameters.length) = some 5 := by decide +kernel
theorem trg_n {Rl : RI} {lo : Nat → Nat} {d k off j : Nat} (h : tv Rl d lo j 0 ≠ nI 1) : trg Rl d k off j = -1 := by
  unfold trg
  rw [if_neg (fun z => h z.1)]
theorem trg_l {Rl : RI} {lo : Nat → Nat} {d k off j h a : Nat} (hd : d ≤ 30000) (e0 : tv Rl d lo j 0 = nI 1) (h16 : h < 16) (t1 : tv Rl d lo j 1 = nI h) (ha : a < 100) (t5 : tv Rl d lo j 5 = nI a) : trg Rl d k off j = if kindb k off a h = true then nI h else -1 := by
  have q1 : Rl 1 j = 1 := e0
  have q2 : Rl 2 j = nI h := t1
  have q5 : (if Rl 1 j = 1 then nI (agv (Rl 7) d j) else -1) = nI a := t5
  rw [if_pos q1] at q5
  have hg := agv_lt (g := Rl 7) (p := j) hd
  have q6 : agv (Rl 7) d j = a := (n_eq (by omega) (by omega)).mp q5
  unfold trg
  rw [q6, q2, nI_tn (by omega)]
  by_cases z : kindb k off a h = true
  · rw [if_pos ⟨q1, z⟩, if_pos z]
  · rw [if_neg (fun y => z y.2), if_neg z]
theorem lc_ge {a b : Nat} (ha : a < 2147483648) (hb : b < 2147483648) (h : b ≤ a) : 0 ≤ lg_cmp (nI a).toInt64 (nI b).toInt64 := (lg_cmp_ge _ _).mpr (by rw [Int64.le_iff_toInt_le, nl_ti ha, nl_ti hb]; omega)
theorem lc_ge_n {a b : Nat} (ha : a < 2147483648) (hb : b < 2147483648) (h : a < b) : ¬ 0 ≤ lg_cmp (nI a).toInt64 (nI b).toInt64 := fun e => by
  have := (lg_cmp_ge _ _).mp e
  rw [Int64.le_iff_toInt_le, nl_ti ha, nl_ti hb] at this
  omega
theorem lc_lt_n {a b : Nat} (ha : a < 2147483648) (hb : b < 2147483648) (h : b ≤ a) : ¬ lg_cmp (nI a).toInt64 (nI b).toInt64 < 0 := fun e => by
  have := (lg_cmp_lt _ _).mp e
  rw [Int64.lt_iff_toInt_lt, nl_ti ha, nl_ti hb] at this
  omega
theorem lc_lt_y {a b : Nat} (ha : a < 2147483648) (hb : b < 2147483648) (h : a < b) : lg_cmp (nI a).toInt64 (nI b).toInt64 < 0 := (lg_cmp_lt _ _).mpr (lc_lt ha hb h)
theorem lc_le_y {a b : Nat} (ha : a < 2147483648) (hb : b < 2147483648) (h : a ≤ b) : lg_cmp (nI a).toInt64 (nI b).toInt64 ≤ 0 := (lg_cmp_le _ _).mpr (by rw [Int64.le_iff_toInt_le, nl_ti ha, nl_ti hb]; omega)
theorem lc_le_n {a b : Nat} (ha : a < 2147483648) (hb : b < 2147483648) (h : b < a) : ¬ lg_cmp (nI a).toInt64 (nI b).toInt64 ≤ 0 := fun e => by
  have := (lg_cmp_le _ _).mp e
  rw [Int64.le_iff_toInt_le, nl_ti ha, nl_ti hb] at this
  omega
set_option maxHeartbeats 8000000 in
set_option maxRecDepth 100000 in
theorem rh_loop {p : Program} {l : Launch} {e : Env} {s : State} {m : MethodId} {args : Array Value} {below : List Frame} {meth : Method} {c : Code} {G : va_G} {cI cZ cQ cU cJ : ClassId} {A : Nat → Prop} {Qf : Unit → State → Prop} {t n P d g ox : Nat} {I : OI} {R : RI} (CX : CxX p l s m args meth c cL_rollHolds 16 wsL_rollHolds RL G vwCl (tys cI cZ cQ cU cJ) nws strs A) (hN : NC s) {z r kd off : Nat} (hz : z ≤ 5) (h7 : I 7 = nI z) (hr : r < z) (hk4 : kd < 4) (ho : off < 4) {Rl : RI} {lo : Nat → Nat} (L : LAND 20000 P I R d d Rl lo) (bP : P ≤ 24) (bd : d ≤ 30000) (h24a : ∀ j, j < P → R 24 (24 * r + j) = trg Rl d kd off j) (kend : ∀ (M : va_W) (cells slots : Nat), cells ≤ rmL_rollHolds.cells → slots ≤ rmL_rollHolds.slots → LW cI cZ cQ cU 20000 t n P d g ox I R M → VJ p l e rmL_rollHolds s m args below meth c 16 G vwCl A Qf cells slots (some ()) M 199 [(10, .int (nI P)), (9, .int (nI 1)), (0, .ref ox), (1, .int (nI r)), (2, .int (nI kd)), (3, .int (nI off)), (4, .int (nI P))] []) :
    ∀ (c9 j cells slots : Nat) (M : va_W), j + c9 = P → cells + 40 * c9 ≤ rmL_rollHolds.cells → slots + 240 * c9 ≤ rmL_rollHolds.slots → LW cI cZ cQ cU 20000 t n P d g ox I R M → VJ p l e rmL_rollHolds s m args below meth c 16 G vwCl A Qf cells slots (some ()) M 42 [(10, .int (nI j)), (9, .int (nI 1)), (0, .ref ox), (1, .int (nI r)), (2, .int (nI kd)), (3, .int (nI off)), (4, .int (nI P))] [] := by
  intro c9
  induction c9 with
  | zero =>
    intro j cells slots M hj hc hs9 hM
    have C := CX.1
    obtain rfl : j = P := by omega
    refine VJ.iload C 0 dL_rollHolds_42 rfl ?_
    refine VJ.iload C 6 dL_rollHolds_44 rfl ?_
    refine VJ.xicmp_ge_t C 199 (Int32.le_refl _) dL_rollHolds_46 (by decide) ?_
    exact kend M cells slots (by omega) (by omega) hM
  | succ c9 ih =>
    intro j cells slots M hjc hc hs9 hM
    have C := CX.1
    have hj : j < P := by omega
    have h24 := h24a j hj
    have st : (tv Rl d lo j 0 ≠ nI 1 ∧ tv Rl d lo j 1 = -1 ∧ tv Rl d lo j 5 = -1) ∨ (tv Rl d lo j 0 = nI 1 ∧ ∃ h a, h < 16 ∧ tv Rl d lo j 1 = nI h ∧ a < 100 ∧ tv Rl d lo j 5 = nI a) := by
      rcases L.cases bP bd hj with ⟨t0, t1, -, -, -, t5, -⟩ | ⟨t0, t1, -, -, t5, -⟩ | ⟨t0, ⟨h, x, a, o, hh, t1, -, -, ha, t5, -⟩, -⟩
      · refine Or.inl ⟨?_, t1, t5⟩
        rcases t0 with t0 | t0 <;> rw [t0] <;> decide
      · exact Or.inl ⟨by rw [t0]; decide, t1, t5⟩
      · exact Or.inr ⟨t0, h, a, hh, t1, ha, t5⟩
    rcases st with ⟨t0, t1, t5⟩ | ⟨t0, h, a, h16, t1, ha, t5⟩
    · have e24 := trg_n (k := kd) (off := off) t0
      refine VJ.iload C 0 dL_rollHolds_42 rfl ?_
      refine VJ.iload C 6 dL_rollHolds_44 rfl ?_
      refine VJ.xicmp_ge_f C 199 (fun e => by have := (n_le (by omega) (by omega)).mp e; omega) dL_rollHolds_46 (by decide) ?_
      refine VJ.iload C 1 dL_rollHolds_49 rfl ?_
      refine VJ.xif_eq_f C 199 (by decide) dL_rollHolds_51 (by decide) ?_
      refine VJ.aload_n C 2 dL_rollHolds_54 rfl ?_
      refine VJ.iload C 0 dL_rollHolds_55 rfl ?_
      refine VJ.iconst (v := nI 5) C dL_rollHolds_57 (by decide) ?_
      refine VJ.a_now (w := 5) CX hN hM L hj (by omega) (vx_cwSW 3 C.1.2.2.2.2 gL_rollHolds_L_now rfl rfl rfl hy_L_now ⟨Nat.le_of_ble_eq_true rfl, Nat.le_of_ble_eq_true rfl⟩) (Nat.le_of_ble_eq_true rfl) dL_rollHolds_58 ⟨by omega, by omega⟩ (fun M1 hM1 => ?_)
      refine VJ.lnv (y := (-1 : Int32).toInt64) (congrArg Int32.toInt64 t5) ?_
      refine VJ.lstore C [(11, .long ((-1 : Int32).toInt64)), (10, .int (nI j)), (9, .int (nI 1)), (0, .ref ox), (1, .int (nI r)), (2, .int (nI kd)), (3, .int (nI off)), (4, .int (nI P))] dL_rollHolds_61 (Nat.le_of_ble_eq_true rfl) rfl ?_
      refine VJ.aload_n C 3 dL_rollHolds_63 rfl ?_
      refine VJ.iload C 1 dL_rollHolds_64 rfl ?_
      refine VJ.iconst (v := nI 1) C dL_rollHolds_66 (by decide) ?_
      refine VJ.a_now (w := 1) CX hN hM1 L hj (by omega) (vx_cwSW 3 C.1.2.2.2.2 gL_rollHolds_L_now rfl rfl rfl hy_L_now ⟨Nat.le_of_ble_eq_true rfl, Nat.le_of_ble_eq_true rfl⟩) (Nat.le_of_ble_eq_true rfl) dL_rollHolds_67 ⟨by omega, by omega⟩ (fun M2 hM2 => ?_)
      refine VJ.lnv (y := (-1 : Int32).toInt64) (congrArg Int32.toInt64 t1) ?_
      refine VJ.lstore C [(13, .long ((-1 : Int32).toInt64)), (11, .long ((-1 : Int32).toInt64)), (10, .int (nI j)), (9, .int (nI 1)), (0, .ref ox), (1, .int (nI r)), (2, .int (nI kd)), (3, .int (nI off)), (4, .int (nI P))] dL_rollHolds_70 (Nat.le_of_ble_eq_true rfl) rfl ?_
      refine VJ.lload C 1 dL_rollHolds_72 rfl ?_
      refine VJ.lconst (v := (nI 0).toInt64) C dL_rollHolds_74 (by decide) ?_
      refine VJ.lcl C (by decide) dL_rollHolds_75 ?_
      refine VJ.xif_lt_t C 141 (by decide) dL_rollHolds_76 (by decide) ?_
      refine VJ.iconst (v := nI 0) C dL_rollHolds_141 (by decide) ?_
      refine VJ.istore C [(15, .int (nI 0)), (13, .long ((-1 : Int32).toInt64)), (11, .long ((-1 : Int32).toInt64)), (10, .int (nI j)), (9, .int (nI 1)), (0, .ref ox), (1, .int (nI r)), (2, .int (nI kd)), (3, .int (nI off)), (4, .int (nI P))] dL_rollHolds_142 (Nat.le_of_ble_eq_true rfl) rfl ?_
      refine VJ.aload_n C 5 dL_rollHolds_144 rfl ?_
      refine VJ.iload_n C 6 dL_rollHolds_145 rfl ?_
      refine VJ.iload C 3 dL_rollHolds_146 rfl ?_
      refine VJ.a_holds CX hN hM2 hz h7 hr hj (vx_cwSW 3 C.1.2.2.2.2 gL_rollHolds_L_holds rfl rfl rfl hy_L_holds ⟨Nat.le_of_ble_eq_true rfl, Nat.le_of_ble_eq_true rfl⟩) (Nat.le_of_ble_eq_true rfl) dL_rollHolds_148 ⟨by omega, by omega⟩ (fun M3 hM3 => ?_)
      refine VJ.lnv (y := (-1 : Int32).toInt64) (congrArg Int32.toInt64 (h24.trans e24)) ?_
      refine VJ.iload C 0 dL_rollHolds_151 rfl ?_
      refine VJ.xif_eq_t C 161 (by decide) dL_rollHolds_153 (by decide) ?_
      refine VJ.ldc2 (v := -1) C (C.1.2.2.2.2 _ (List.mem_of_getElem? (i := 5) rfl)) dL_rollHolds_161 ?_
      refine VJ.lnv (y := (-1 : Int32).toInt64) (by decide) ?_
      refine VJ.lce C (rfl) dL_rollHolds_164 ?_
      refine VJ.xif_ne_f C 190 (by decide) dL_rollHolds_165 (by decide) ?_
      refine VJ.aload_n C 5 dL_rollHolds_168 rfl ?_
      refine VJ.iload_n C 6 dL_rollHolds_169 rfl ?_
      refine VJ.iload C 3 dL_rollHolds_170 rfl ?_
      refine VJ.a_holdsAnew CX hN hM3 hz h7 hr hj (vx_cwSW 3 C.1.2.2.2.2 gL_rollHolds_L_holdsAnew rfl rfl rfl hy_L_holdsAnew ⟨Nat.le_of_ble_eq_true rfl, Nat.le_of_ble_eq_true rfl⟩) (Nat.le_of_ble_eq_true rfl) dL_rollHolds_172 ⟨by omega, by omega⟩ (fun M4 hM4 => ?_)
      refine VJ.lnv (y := (-1 : Int32).toInt64) (congrArg Int32.toInt64 (h24.trans e24)) ?_
      refine VJ.aload_n C 5 dL_rollHolds_175 rfl ?_
      refine VJ.iload_n C 6 dL_rollHolds_176 rfl ?_
      refine VJ.iload C 3 dL_rollHolds_177 rfl ?_
      refine VJ.a_holds CX hN hM4 hz h7 hr hj (vx_cwSW 3 C.1.2.2.2.2 gL_rollHolds_L_holds rfl rfl rfl hy_L_holds ⟨Nat.le_of_ble_eq_true rfl, Nat.le_of_ble_eq_true rfl⟩) (Nat.le_of_ble_eq_true rfl) dL_rollHolds_179 ⟨by omega, by omega⟩ (fun M5 hM5 => ?_)
      refine VJ.lnv (y := (-1 : Int32).toInt64) (congrArg Int32.toInt64 (h24.trans e24)) ?_
      refine VJ.lce C (rfl) dL_rollHolds_182 ?_
      refine VJ.xif_ne_f C 190 (by decide) dL_rollHolds_183 (by decide) ?_
      refine VJ.iconst (v := nI 1) C dL_rollHolds_186 (by decide) ?_
      refine VJ.goto C 191 dL_rollHolds_187 (by decide) ?_
      refine VJ.istore C [(9, .int (nI 1)), (15, .int (nI 0)), (13, .long ((-1 : Int32).toInt64)), (11, .long ((-1 : Int32).toInt64)), (10, .int (nI j)), (0, .ref ox), (1, .int (nI r)), (2, .int (nI kd)), (3, .int (nI off)), (4, .int (nI P))] dL_rollHolds_191 (Nat.le_of_ble_eq_true rfl) rfl ?_
      refine VJ.iinc C 4 (nI (j + 1)) [(10, .int (nI (j + 1))), (9, .int (nI 1)), (15, .int (nI 0)), (13, .long ((-1 : Int32).toInt64)), (11, .long ((-1 : Int32).toInt64)), (0, .ref ox), (1, .int (nI r)), (2, .int (nI kd)), (3, .int (nI off)), (4, .int (nI P))] dL_rollHolds_193 rfl nI_s9 (Nat.le_of_ble_eq_true rfl) rfl ?_
      refine VJ.goto C 42 dL_rollHolds_196 (by decide) ?_
      refine VJ.sub [0, 1, 5, 6, 7, 8, 9] rfl ?_
      exact ih (j + 1) _ _ _ (by omega) (by omega) (by omega) hM5
    · have e24 := trg_l (k := kd) (off := off) bd t0 h16 t1 ha t5
      rcases (show kd = 0 ∨ kd = 1 ∨ kd = 2 ∨ kd = 3 by omega) with rfl | rfl | rfl | rfl
      · rw [if_pos (show kindb 0 off a h = true from rfl)] at e24
        refine VJ.iload C 0 dL_rollHolds_42 rfl ?_
        refine VJ.iload C 6 dL_rollHolds_44 rfl ?_
        refine VJ.xicmp_ge_f C 199 (fun e => by have := (n_le (by omega) (by omega)).mp e; omega) dL_rollHolds_46 (by decide) ?_
        refine VJ.iload C 1 dL_rollHolds_49 rfl ?_
        refine VJ.xif_eq_f C 199 (by decide) dL_rollHolds_51 (by decide) ?_
        refine VJ.aload_n C 2 dL_rollHolds_54 rfl ?_
        refine VJ.iload C 0 dL_rollHolds_55 rfl ?_
        refine VJ.iconst (v := nI 5) C dL_rollHolds_57 (by decide) ?_
        refine VJ.a_now (w := 5) CX hN hM L hj (by omega) (vx_cwSW 3 C.1.2.2.2.2 gL_rollHolds_L_now rfl rfl rfl hy_L_now ⟨Nat.le_of_ble_eq_true rfl, Nat.le_of_ble_eq_true rfl⟩) (Nat.le_of_ble_eq_true rfl) dL_rollHolds_58 ⟨by omega, by omega⟩ (fun M1 hM1 => ?_)
        refine VJ.lnv (y := (nI a).toInt64) (congrArg Int32.toInt64 t5) ?_
        refine VJ.lstore C [(11, .long ((nI a).toInt64)), (10, .int (nI j)), (9, .int (nI 1)), (0, .ref ox), (1, .int (nI r)), (2, .int (nI 0)), (3, .int (nI off)), (4, .int (nI P))] dL_rollHolds_61 (Nat.le_of_ble_eq_true rfl) rfl ?_
        refine VJ.aload_n C 3 dL_rollHolds_63 rfl ?_
        refine VJ.iload C 1 dL_rollHolds_64 rfl ?_
        refine VJ.iconst (v := nI 1) C dL_rollHolds_66 (by decide) ?_
        refine VJ.a_now (w := 1) CX hN hM1 L hj (by omega) (vx_cwSW 3 C.1.2.2.2.2 gL_rollHolds_L_now rfl rfl rfl hy_L_now ⟨Nat.le_of_ble_eq_true rfl, Nat.le_of_ble_eq_true rfl⟩) (Nat.le_of_ble_eq_true rfl) dL_rollHolds_67 ⟨by omega, by omega⟩ (fun M2 hM2 => ?_)
        refine VJ.lnv (y := (nI h).toInt64) (congrArg Int32.toInt64 t1) ?_
        refine VJ.lstore C [(13, .long ((nI h).toInt64)), (11, .long ((nI a).toInt64)), (10, .int (nI j)), (9, .int (nI 1)), (0, .ref ox), (1, .int (nI r)), (2, .int (nI 0)), (3, .int (nI off)), (4, .int (nI P))] dL_rollHolds_70 (Nat.le_of_ble_eq_true rfl) rfl ?_
        refine VJ.lload C 1 dL_rollHolds_72 rfl ?_
        refine VJ.lconst (v := (nI 0).toInt64) C dL_rollHolds_74 (by decide) ?_
        refine VJ.lcmp C dL_rollHolds_75 ?_
        refine VJ.xif_lt_f C 141 (lc_nn (by omega)) dL_rollHolds_76 (by decide) ?_
        refine VJ.iload_n C 6 dL_rollHolds_79 rfl ?_
        refine VJ.xif_eq_t C 137 (by decide) dL_rollHolds_80 (by decide) ?_
        refine VJ.iconst (v := nI 1) C dL_rollHolds_137 (by decide) ?_
        refine VJ.goto C 142 dL_rollHolds_138 (by decide) ?_
        refine VJ.istore C [(15, .int (nI 1)), (13, .long ((nI h).toInt64)), (11, .long ((nI a).toInt64)), (10, .int (nI j)), (9, .int (nI 1)), (0, .ref ox), (1, .int (nI r)), (2, .int (nI 0)), (3, .int (nI off)), (4, .int (nI P))] dL_rollHolds_142 (Nat.le_of_ble_eq_true rfl) rfl ?_
        refine VJ.aload_n C 5 dL_rollHolds_144 rfl ?_
        refine VJ.iload_n C 6 dL_rollHolds_145 rfl ?_
        refine VJ.iload C 3 dL_rollHolds_146 rfl ?_
        refine VJ.a_holds CX hN hM2 hz h7 hr hj (vx_cwSW 3 C.1.2.2.2.2 gL_rollHolds_L_holds rfl rfl rfl hy_L_holds ⟨Nat.le_of_ble_eq_true rfl, Nat.le_of_ble_eq_true rfl⟩) (Nat.le_of_ble_eq_true rfl) dL_rollHolds_148 ⟨by omega, by omega⟩ (fun M3 hM3 => ?_)
        refine VJ.lnv (y := (nI h).toInt64) (congrArg Int32.toInt64 (h24.trans e24)) ?_
        refine VJ.iload C 0 dL_rollHolds_151 rfl ?_
        refine VJ.xif_eq_f C 161 (by decide) dL_rollHolds_153 (by decide) ?_
        refine VJ.lload C 1 dL_rollHolds_156 rfl ?_
        refine VJ.goto C 164 dL_rollHolds_158 (by decide) ?_
        refine VJ.lce C (rfl) dL_rollHolds_164 ?_
        refine VJ.xif_ne_f C 190 (by decide) dL_rollHolds_165 (by decide) ?_
        refine VJ.aload_n C 5 dL_rollHolds_168 rfl ?_
        refine VJ.iload_n C 6 dL_rollHolds_169 rfl ?_
        refine VJ.iload C 3 dL_rollHolds_170 rfl ?_
        refine VJ.a_holdsAnew CX hN hM3 hz h7 hr hj (vx_cwSW 3 C.1.2.2.2.2 gL_rollHolds_L_holdsAnew rfl rfl rfl hy_L_holdsAnew ⟨Nat.le_of_ble_eq_true rfl, Nat.le_of_ble_eq_true rfl⟩) (Nat.le_of_ble_eq_true rfl) dL_rollHolds_172 ⟨by omega, by omega⟩ (fun M4 hM4 => ?_)
        refine VJ.lnv (y := (nI h).toInt64) (congrArg Int32.toInt64 (h24.trans e24)) ?_
        refine VJ.aload_n C 5 dL_rollHolds_175 rfl ?_
        refine VJ.iload_n C 6 dL_rollHolds_176 rfl ?_
        refine VJ.iload C 3 dL_rollHolds_177 rfl ?_
        refine VJ.a_holds CX hN hM4 hz h7 hr hj (vx_cwSW 3 C.1.2.2.2.2 gL_rollHolds_L_holds rfl rfl rfl hy_L_holds ⟨Nat.le_of_ble_eq_true rfl, Nat.le_of_ble_eq_true rfl⟩) (Nat.le_of_ble_eq_true rfl) dL_rollHolds_179 ⟨by omega, by omega⟩ (fun M5 hM5 => ?_)
        refine VJ.lnv (y := (nI h).toInt64) (congrArg Int32.toInt64 (h24.trans e24)) ?_
        refine VJ.lce C (rfl) dL_rollHolds_182 ?_
        refine VJ.xif_ne_f C 190 (by decide) dL_rollHolds_183 (by decide) ?_
        refine VJ.iconst (v := nI 1) C dL_rollHolds_186 (by decide) ?_
        refine VJ.goto C 191 dL_rollHolds_187 (by decide) ?_
        refine VJ.istore C [(9, .int (nI 1)), (15, .int (nI 1)), (13, .long ((nI h).toInt64)), (11, .long ((nI a).toInt64)), (10, .int (nI j)), (0, .ref ox), (1, .int (nI r)), (2, .int (nI 0)), (3, .int (nI off)), (4, .int (nI P))] dL_rollHolds_191 (Nat.le_of_ble_eq_true rfl) rfl ?_
        refine VJ.iinc C 4 (nI (j + 1)) [(10, .int (nI (j + 1))), (9, .int (nI 1)), (15, .int (nI 1)), (13, .long ((nI h).toInt64)), (11, .long ((nI a).toInt64)), (0, .ref ox), (1, .int (nI r)), (2, .int (nI 0)), (3, .int (nI off)), (4, .int (nI P))] dL_rollHolds_193 rfl nI_s9 (Nat.le_of_ble_eq_true rfl) rfl ?_
        refine VJ.goto C 42 dL_rollHolds_196 (by decide) ?_
        refine VJ.sub [0, 1, 5, 6, 7, 8, 9] rfl ?_
        exact ih (j + 1) _ _ _ (by omega) (by omega) (by omega) hM5
      · rw [show kindb 1 off a h = decide (18 ≤ a) from rfl] at e24
        by_cases z9 : 18 ≤ a
        · rw [if_pos (decide_eq_true z9)] at e24
          have h9 := lc_ge (b := 18) (show a < 2147483648 by omega) (by omega) z9
          refine VJ.iload C 0 dL_rollHolds_42 rfl ?_
          refine VJ.iload C 6 dL_rollHolds_44 rfl ?_
          refine VJ.xicmp_ge_f C 199 (fun e => by have := (n_le (by omega) (by omega)).mp e; omega) dL_rollHolds_46 (by decide) ?_
          refine VJ.iload C 1 dL_rollHolds_49 rfl ?_
          refine VJ.xif_eq_f C 199 (by decide) dL_rollHolds_51 (by decide) ?_
          refine VJ.aload_n C 2 dL_rollHolds_54 rfl ?_
          refine VJ.iload C 0 dL_rollHolds_55 rfl ?_
          refine VJ.iconst (v := nI 5) C dL_rollHolds_57 (by decide) ?_
          refine VJ.a_now (w := 5) CX hN hM L hj (by omega) (vx_cwSW 3 C.1.2.2.2.2 gL_rollHolds_L_now rfl rfl rfl hy_L_now ⟨Nat.le_of_ble_eq_true rfl, Nat.le_of_ble_eq_true rfl⟩) (Nat.le_of_ble_eq_true rfl) dL_rollHolds_58 ⟨by omega, by omega⟩ (fun M1 hM1 => ?_)
          refine VJ.lnv (y := (nI a).toInt64) (congrArg Int32.toInt64 t5) ?_
          refine VJ.lstore C [(11, .long ((nI a).toInt64)), (10, .int (nI j)), (9, .int (nI 1)), (0, .ref ox), (1, .int (nI r)), (2, .int (nI 1)), (3, .int (nI off)), (4, .int (nI P))] dL_rollHolds_61 (Nat.le_of_ble_eq_true rfl) rfl ?_
          refine VJ.aload_n C 3 dL_rollHolds_63 rfl ?_
          refine VJ.iload C 1 dL_rollHolds_64 rfl ?_
          refine VJ.iconst (v := nI 1) C dL_rollHolds_66 (by decide) ?_
          refine VJ.a_now (w := 1) CX hN hM1 L hj (by omega) (vx_cwSW 3 C.1.2.2.2.2 gL_rollHolds_L_now rfl rfl rfl hy_L_now ⟨Nat.le_of_ble_eq_true rfl, Nat.le_of_ble_eq_true rfl⟩) (Nat.le_of_ble_eq_true rfl) dL_rollHolds_67 ⟨by omega, by omega⟩ (fun M2 hM2 => ?_)
          refine VJ.lnv (y := (nI h).toInt64) (congrArg Int32.toInt64 t1) ?_
          refine VJ.lstore C [(13, .long ((nI h).toInt64)), (11, .long ((nI a).toInt64)), (10, .int (nI j)), (9, .int (nI 1)), (0, .ref ox), (1, .int (nI r)), (2, .int (nI 1)), (3, .int (nI off)), (4, .int (nI P))] dL_rollHolds_70 (Nat.le_of_ble_eq_true rfl) rfl ?_
          refine VJ.lload C 1 dL_rollHolds_72 rfl ?_
          refine VJ.lconst (v := (nI 0).toInt64) C dL_rollHolds_74 (by decide) ?_
          refine VJ.lcmp C dL_rollHolds_75 ?_
          refine VJ.xif_lt_f C 141 (lc_nn (by omega)) dL_rollHolds_76 (by decide) ?_
          refine VJ.iload_n C 6 dL_rollHolds_79 rfl ?_
          refine VJ.xif_eq_f C 137 (by decide) dL_rollHolds_80 (by decide) ?_
          refine VJ.iload_n C 6 dL_rollHolds_83 rfl ?_
          refine VJ.iconst (v := nI 1) C dL_rollHolds_84 (by decide) ?_
          refine VJ.xicmp_ne_f C 97 (by decide) dL_rollHolds_85 (by decide) ?_
          refine VJ.lload C 1 dL_rollHolds_88 rfl ?_
          refine VJ.ldc2 (v := 18) C (C.1.2.2.2.2 _ (List.mem_of_getElem? (i := 1) rfl)) dL_rollHolds_90 ?_
          refine VJ.lnv (y := (nI 18).toInt64) (by decide) ?_
          refine VJ.lcmp C dL_rollHolds_93 ?_
          refine VJ.xif_ge_t C 137 (h9) dL_rollHolds_94 (by decide) ?_
          refine VJ.iconst (v := nI 1) C dL_rollHolds_137 (by decide) ?_
          refine VJ.goto C 142 dL_rollHolds_138 (by decide) ?_
          refine VJ.istore C [(15, .int (nI 1)), (13, .long ((nI h).toInt64)), (11, .long ((nI a).toInt64)), (10, .int (nI j)), (9, .int (nI 1)), (0, .ref ox), (1, .int (nI r)), (2, .int (nI 1)), (3, .int (nI off)), (4, .int (nI P))] dL_rollHolds_142 (Nat.le_of_ble_eq_true rfl) rfl ?_
          refine VJ.aload_n C 5 dL_rollHolds_144 rfl ?_
          refine VJ.iload_n C 6 dL_rollHolds_145 rfl ?_
          refine VJ.iload C 3 dL_rollHolds_146 rfl ?_
          refine VJ.a_holds CX hN hM2 hz h7 hr hj (vx_cwSW 3 C.1.2.2.2.2 gL_rollHolds_L_holds rfl rfl rfl hy_L_holds ⟨Nat.le_of_ble_eq_true rfl, Nat.le_of_ble_eq_true rfl⟩) (Nat.le_of_ble_eq_true rfl) dL_rollHolds_148 ⟨by omega, by omega⟩ (fun M3 hM3 => ?_)
          refine VJ.lnv (y := (nI h).toInt64) (congrArg Int32.toInt64 (h24.trans e24)) ?_
          refine VJ.iload C 0 dL_rollHolds_151 rfl ?_
          refine VJ.xif_eq_f C 161 (by decide) dL_rollHolds_153 (by decide) ?_
          refine VJ.lload C 1 dL_rollHolds_156 rfl ?_
          refine VJ.goto C 164 dL_rollHolds_158 (by decide) ?_
          refine VJ.lce C (rfl) dL_rollHolds_164 ?_
          refine VJ.xif_ne_f C 190 (by decide) dL_rollHolds_165 (by decide) ?_
          refine VJ.aload_n C 5 dL_rollHolds_168 rfl ?_
          refine VJ.iload_n C 6 dL_rollHolds_169 rfl ?_
          refine VJ.iload C 3 dL_rollHolds_170 rfl ?_
          refine VJ.a_holdsAnew CX hN hM3 hz h7 hr hj (vx_cwSW 3 C.1.2.2.2.2 gL_rollHolds_L_holdsAnew rfl rfl rfl hy_L_holdsAnew ⟨Nat.le_of_ble_eq_true rfl, Nat.le_of_ble_eq_true rfl⟩) (Nat.le_of_ble_eq_true rfl) dL_rollHolds_172 ⟨by omega, by omega⟩ (fun M4 hM4 => ?_)
          refine VJ.lnv (y := (nI h).toInt64) (congrArg Int32.toInt64 (h24.trans e24)) ?_
          refine VJ.aload_n C 5 dL_rollHolds_175 rfl ?_
          refine VJ.iload_n C 6 dL_rollHolds_176 rfl ?_
          refine VJ.iload C 3 dL_rollHolds_177 rfl ?_
          refine VJ.a_holds CX hN hM4 hz h7 hr hj (vx_cwSW 3 C.1.2.2.2.2 gL_rollHolds_L_holds rfl rfl rfl hy_L_holds ⟨Nat.le_of_ble_eq_true rfl, Nat.le_of_ble_eq_true rfl⟩) (Nat.le_of_ble_eq_true rfl) dL_rollHolds_179 ⟨by omega, by omega⟩ (fun M5 hM5 => ?_)
          refine VJ.lnv (y := (nI h).toInt64) (congrArg Int32.toInt64 (h24.trans e24)) ?_
          refine VJ.lce C (rfl) dL_rollHolds_182 ?_
          refine VJ.xif_ne_f C 190 (by decide) dL_rollHolds_183 (by decide) ?_
          refine VJ.iconst (v := nI 1) C dL_rollHolds_186 (by decide) ?_
          refine VJ.goto C 191 dL_rollHolds_187 (by decide) ?_
          refine VJ.istore C [(9, .int (nI 1)), (15, .int (nI 1)), (13, .long ((nI h).toInt64)), (11, .long ((nI a).toInt64)), (10, .int (nI j)), (0, .ref ox), (1, .int (nI r)), (2, .int (nI 1)), (3, .int (nI off)), (4, .int (nI P))] dL_rollHolds_191 (Nat.le_of_ble_eq_true rfl) rfl ?_
          refine VJ.iinc C 4 (nI (j + 1)) [(10, .int (nI (j + 1))), (9, .int (nI 1)), (15, .int (nI 1)), (13, .long ((nI h).toInt64)), (11, .long ((nI a).toInt64)), (0, .ref ox), (1, .int (nI r)), (2, .int (nI 1)), (3, .int (nI off)), (4, .int (nI P))] dL_rollHolds_193 rfl nI_s9 (Nat.le_of_ble_eq_true rfl) rfl ?_
          refine VJ.goto C 42 dL_rollHolds_196 (by decide) ?_
          refine VJ.sub [0, 1, 5, 6, 7, 8, 9] rfl ?_
          exact ih (j + 1) _ _ _ (by omega) (by omega) (by omega) hM5
        · rw [if_neg (fun e => z9 (of_decide_eq_true e))] at e24
          have h9 := lc_ge_n (b := 18) (show a < 2147483648 by omega) (by omega) (by omega)
          refine VJ.iload C 0 dL_rollHolds_42 rfl ?_
          refine VJ.iload C 6 dL_rollHolds_44 rfl ?_
          refine VJ.xicmp_ge_f C 199 (fun e => by have := (n_le (by omega) (by omega)).mp e; omega) dL_rollHolds_46 (by decide) ?_
          refine VJ.iload C 1 dL_rollHolds_49 rfl ?_
          refine VJ.xif_eq_f C 199 (by decide) dL_rollHolds_51 (by decide) ?_
          refine VJ.aload_n C 2 dL_rollHolds_54 rfl ?_
          refine VJ.iload C 0 dL_rollHolds_55 rfl ?_
          refine VJ.iconst (v := nI 5) C dL_rollHolds_57 (by decide) ?_
          refine VJ.a_now (w := 5) CX hN hM L hj (by omega) (vx_cwSW 3 C.1.2.2.2.2 gL_rollHolds_L_now rfl rfl rfl hy_L_now ⟨Nat.le_of_ble_eq_true rfl, Nat.le_of_ble_eq_true rfl⟩) (Nat.le_of_ble_eq_true rfl) dL_rollHolds_58 ⟨by omega, by omega⟩ (fun M1 hM1 => ?_)
          refine VJ.lnv (y := (nI a).toInt64) (congrArg Int32.toInt64 t5) ?_
          refine VJ.lstore C [(11, .long ((nI a).toInt64)), (10, .int (nI j)), (9, .int (nI 1)), (0, .ref ox), (1, .int (nI r)), (2, .int (nI 1)), (3, .int (nI off)), (4, .int (nI P))] dL_rollHolds_61 (Nat.le_of_ble_eq_true rfl) rfl ?_
          refine VJ.aload_n C 3 dL_rollHolds_63 rfl ?_
          refine VJ.iload C 1 dL_rollHolds_64 rfl ?_
          refine VJ.iconst (v := nI 1) C dL_rollHolds_66 (by decide) ?_
          refine VJ.a_now (w := 1) CX hN hM1 L hj (by omega) (vx_cwSW 3 C.1.2.2.2.2 gL_rollHolds_L_now rfl rfl rfl hy_L_now ⟨Nat.le_of_ble_eq_true rfl, Nat.le_of_ble_eq_true rfl⟩) (Nat.le_of_ble_eq_true rfl) dL_rollHolds_67 ⟨by omega, by omega⟩ (fun M2 hM2 => ?_)
          refine VJ.lnv (y := (nI h).toInt64) (congrArg Int32.toInt64 t1) ?_
          refine VJ.lstore C [(13, .long ((nI h).toInt64)), (11, .long ((nI a).toInt64)), (10, .int (nI j)), (9, .int (nI 1)), (0, .ref ox), (1, .int (nI r)), (2, .int (nI 1)), (3, .int (nI off)), (4, .int (nI P))] dL_rollHolds_70 (Nat.le_of_ble_eq_true rfl) rfl ?_
          refine VJ.lload C 1 dL_rollHolds_72 rfl ?_
          refine VJ.lconst (v := (nI 0).toInt64) C dL_rollHolds_74 (by decide) ?_
          refine VJ.lcmp C dL_rollHolds_75 ?_
          refine VJ.xif_lt_f C 141 (lc_nn (by omega)) dL_rollHolds_76 (by decide) ?_
          refine VJ.iload_n C 6 dL_rollHolds_79 rfl ?_
          refine VJ.xif_eq_f C 137 (by decide) dL_rollHolds_80 (by decide) ?_
          refine VJ.iload_n C 6 dL_rollHolds_83 rfl ?_
          refine VJ.iconst (v := nI 1) C dL_rollHolds_84 (by decide) ?_
          refine VJ.xicmp_ne_f C 97 (by decide) dL_rollHolds_85 (by decide) ?_
          refine VJ.lload C 1 dL_rollHolds_88 rfl ?_
          refine VJ.ldc2 (v := 18) C (C.1.2.2.2.2 _ (List.mem_of_getElem? (i := 1) rfl)) dL_rollHolds_90 ?_
          refine VJ.lnv (y := (nI 18).toInt64) (by decide) ?_
          refine VJ.lcmp C dL_rollHolds_93 ?_
          refine VJ.xif_ge_f C 137 (h9) dL_rollHolds_94 (by decide) ?_
          refine VJ.iload_n C 6 dL_rollHolds_97 rfl ?_
          refine VJ.iconst (v := nI 2) C dL_rollHolds_98 (by decide) ?_
          refine VJ.xicmp_ne_t C 120 (by decide) dL_rollHolds_99 (by decide) ?_
          refine VJ.iload_n C 6 dL_rollHolds_120 rfl ?_
          refine VJ.iconst (v := nI 3) C dL_rollHolds_121 (by decide) ?_
          refine VJ.xicmp_ne_t C 141 (by decide) dL_rollHolds_122 (by decide) ?_
          refine VJ.iconst (v := nI 0) C dL_rollHolds_141 (by decide) ?_
          refine VJ.istore C [(15, .int (nI 0)), (13, .long ((nI h).toInt64)), (11, .long ((nI a).toInt64)), (10, .int (nI j)), (9, .int (nI 1)), (0, .ref ox), (1, .int (nI r)), (2, .int (nI 1)), (3, .int (nI off)), (4, .int (nI P))] dL_rollHolds_142 (Nat.le_of_ble_eq_true rfl) rfl ?_
          refine VJ.aload_n C 5 dL_rollHolds_144 rfl ?_
          refine VJ.iload_n C 6 dL_rollHolds_145 rfl ?_
          refine VJ.iload C 3 dL_rollHolds_146 rfl ?_
          refine VJ.a_holds CX hN hM2 hz h7 hr hj (vx_cwSW 3 C.1.2.2.2.2 gL_rollHolds_L_holds rfl rfl rfl hy_L_holds ⟨Nat.le_of_ble_eq_true rfl, Nat.le_of_ble_eq_true rfl⟩) (Nat.le_of_ble_eq_true rfl) dL_rollHolds_148 ⟨by omega, by omega⟩ (fun M3 hM3 => ?_)
          refine VJ.lnv (y := (-1 : Int32).toInt64) (congrArg Int32.toInt64 (h24.trans e24)) ?_
          refine VJ.iload C 0 dL_rollHolds_151 rfl ?_
          refine VJ.xif_eq_t C 161 (by decide) dL_rollHolds_153 (by decide) ?_
          refine VJ.ldc2 (v := -1) C (C.1.2.2.2.2 _ (List.mem_of_getElem? (i := 5) rfl)) dL_rollHolds_161 ?_
          refine VJ.lnv (y := (-1 : Int32).toInt64) (by decide) ?_
          refine VJ.lce C (rfl) dL_rollHolds_164 ?_
          refine VJ.xif_ne_f C 190 (by decide) dL_rollHolds_165 (by decide) ?_
          refine VJ.aload_n C 5 dL_rollHolds_168 rfl ?_
          refine VJ.iload_n C 6 dL_rollHolds_169 rfl ?_
          refine VJ.iload C 3 dL_rollHolds_170 rfl ?_
          refine VJ.a_holdsAnew CX hN hM3 hz h7 hr hj (vx_cwSW 3 C.1.2.2.2.2 gL_rollHolds_L_holdsAnew rfl rfl rfl hy_L_holdsAnew ⟨Nat.le_of_ble_eq_true rfl, Nat.le_of_ble_eq_true rfl⟩) (Nat.le_of_ble_eq_true rfl) dL_rollHolds_172 ⟨by omega, by omega⟩ (fun M4 hM4 => ?_)
          refine VJ.lnv (y := (-1 : Int32).toInt64) (congrArg Int32.toInt64 (h24.trans e24)) ?_
          refine VJ.aload_n C 5 dL_rollHolds_175 rfl ?_
          refine VJ.iload_n C 6 dL_rollHolds_176 rfl ?_
          refine VJ.iload C 3 dL_rollHolds_177 rfl ?_
          refine VJ.a_holds CX hN hM4 hz h7 hr hj (vx_cwSW 3 C.1.2.2.2.2 gL_rollHolds_L_holds rfl rfl rfl hy_L_holds ⟨Nat.le_of_ble_eq_true rfl, Nat.le_of_ble_eq_true rfl⟩) (Nat.le_of_ble_eq_true rfl) dL_rollHolds_179 ⟨by omega, by omega⟩ (fun M5 hM5 => ?_)
          refine VJ.lnv (y := (-1 : Int32).toInt64) (congrArg Int32.toInt64 (h24.trans e24)) ?_
          refine VJ.lce C (rfl) dL_rollHolds_182 ?_
          refine VJ.xif_ne_f C 190 (by decide) dL_rollHolds_183 (by decide) ?_
          refine VJ.iconst (v := nI 1) C dL_rollHolds_186 (by decide) ?_
          refine VJ.goto C 191 dL_rollHolds_187 (by decide) ?_
          refine VJ.istore C [(9, .int (nI 1)), (15, .int (nI 0)), (13, .long ((nI h).toInt64)), (11, .long ((nI a).toInt64)), (10, .int (nI j)), (0, .ref ox), (1, .int (nI r)), (2, .int (nI 1)), (3, .int (nI off)), (4, .int (nI P))] dL_rollHolds_191 (Nat.le_of_ble_eq_true rfl) rfl ?_
          refine VJ.iinc C 4 (nI (j + 1)) [(10, .int (nI (j + 1))), (9, .int (nI 1)), (15, .int (nI 0)), (13, .long ((nI h).toInt64)), (11, .long ((nI a).toInt64)), (0, .ref ox), (1, .int (nI r)), (2, .int (nI 1)), (3, .int (nI off)), (4, .int (nI P))] dL_rollHolds_193 rfl nI_s9 (Nat.le_of_ble_eq_true rfl) rfl ?_
          refine VJ.goto C 42 dL_rollHolds_196 (by decide) ?_
          refine VJ.sub [0, 1, 5, 6, 7, 8, 9] rfl ?_
          exact ih (j + 1) _ _ _ (by omega) (by omega) (by omega) hM5
      · rw [show kindb 2 off a h = decide (6 ≤ a ∧ a ≤ 15) from rfl] at e24
        by_cases z8 : 6 ≤ a
        · have h8 := lc_lt_n (b := 6) (show a < 2147483648 by omega) (by omega) z8
          by_cases z9 : a ≤ 15
          · rw [if_pos (decide_eq_true ⟨z8, z9⟩)] at e24
            have h9 := lc_le_y (b := 15) (show a < 2147483648 by omega) (by omega) z9
            refine VJ.iload C 0 dL_rollHolds_42 rfl ?_
            refine VJ.iload C 6 dL_rollHolds_44 rfl ?_
            refine VJ.xicmp_ge_f C 199 (fun e => by have := (n_le (by omega) (by omega)).mp e; omega) dL_rollHolds_46 (by decide) ?_
            refine VJ.iload C 1 dL_rollHolds_49 rfl ?_
            refine VJ.xif_eq_f C 199 (by decide) dL_rollHolds_51 (by decide) ?_
            refine VJ.aload_n C 2 dL_rollHolds_54 rfl ?_
            refine VJ.iload C 0 dL_rollHolds_55 rfl ?_
            refine VJ.iconst (v := nI 5) C dL_rollHolds_57 (by decide) ?_
            refine VJ.a_now (w := 5) CX hN hM L hj (by omega) (vx_cwSW 3 C.1.2.2.2.2 gL_rollHolds_L_now rfl rfl rfl hy_L_now ⟨Nat.le_of_ble_eq_true rfl, Nat.le_of_ble_eq_true rfl⟩) (Nat.le_of_ble_eq_true rfl) dL_rollHolds_58 ⟨by omega, by omega⟩ (fun M1 hM1 => ?_)
            refine VJ.lnv (y := (nI a).toInt64) (congrArg Int32.toInt64 t5) ?_
            refine VJ.lstore C [(11, .long ((nI a).toInt64)), (10, .int (nI j)), (9, .int (nI 1)), (0, .ref ox), (1, .int (nI r)), (2, .int (nI 2)), (3, .int (nI off)), (4, .int (nI P))] dL_rollHolds_61 (Nat.le_of_ble_eq_true rfl) rfl ?_
            refine VJ.aload_n C 3 dL_rollHolds_63 rfl ?_
            refine VJ.iload C 1 dL_rollHolds_64 rfl ?_
            refine VJ.iconst (v := nI 1) C dL_rollHolds_66 (by decide) ?_
            refine VJ.a_now (w := 1) CX hN hM1 L hj (by omega) (vx_cwSW 3 C.1.2.2.2.2 gL_rollHolds_L_now rfl rfl rfl hy_L_now ⟨Nat.le_of_ble_eq_true rfl, Nat.le_of_ble_eq_true rfl⟩) (Nat.le_of_ble_eq_true rfl) dL_rollHolds_67 ⟨by omega, by omega⟩ (fun M2 hM2 => ?_)
            refine VJ.lnv (y := (nI h).toInt64) (congrArg Int32.toInt64 t1) ?_
            refine VJ.lstore C [(13, .long ((nI h).toInt64)), (11, .long ((nI a).toInt64)), (10, .int (nI j)), (9, .int (nI 1)), (0, .ref ox), (1, .int (nI r)), (2, .int (nI 2)), (3, .int (nI off)), (4, .int (nI P))] dL_rollHolds_70 (Nat.le_of_ble_eq_true rfl) rfl ?_
            refine VJ.lload C 1 dL_rollHolds_72 rfl ?_
            refine VJ.lconst (v := (nI 0).toInt64) C dL_rollHolds_74 (by decide) ?_
            refine VJ.lcmp C dL_rollHolds_75 ?_
            refine VJ.xif_lt_f C 141 (lc_nn (by omega)) dL_rollHolds_76 (by decide) ?_
            refine VJ.iload_n C 6 dL_rollHolds_79 rfl ?_
            refine VJ.xif_eq_f C 137 (by decide) dL_rollHolds_80 (by decide) ?_
            refine VJ.iload_n C 6 dL_rollHolds_83 rfl ?_
            refine VJ.iconst (v := nI 1) C dL_rollHolds_84 (by decide) ?_
            refine VJ.xicmp_ne_t C 97 (by decide) dL_rollHolds_85 (by decide) ?_
            refine VJ.iload_n C 6 dL_rollHolds_97 rfl ?_
            refine VJ.iconst (v := nI 2) C dL_rollHolds_98 (by decide) ?_
            refine VJ.xicmp_ne_f C 120 (by decide) dL_rollHolds_99 (by decide) ?_
            refine VJ.lload C 1 dL_rollHolds_102 rfl ?_
            refine VJ.ldc2 (v := 6) C (C.1.2.2.2.2 _ (List.mem_of_getElem? (i := 2) rfl)) dL_rollHolds_104 ?_
            refine VJ.lnv (y := (nI 6).toInt64) (by decide) ?_
            refine VJ.lcmp C dL_rollHolds_107 ?_
            refine VJ.xif_lt_f C 120 (h8) dL_rollHolds_108 (by decide) ?_
            refine VJ.lload C 1 dL_rollHolds_111 rfl ?_
            refine VJ.ldc2 (v := 15) C (C.1.2.2.2.2 _ (List.mem_of_getElem? (i := 3) rfl)) dL_rollHolds_113 ?_
            refine VJ.lnv (y := (nI 15).toInt64) (by decide) ?_
            refine VJ.lcmp C dL_rollHolds_116 ?_
            refine VJ.xif_le_t C 137 (h9) dL_rollHolds_117 (by decide) ?_
            refine VJ.iconst (v := nI 1) C dL_rollHolds_137 (by decide) ?_
            refine VJ.goto C 142 dL_rollHolds_138 (by decide) ?_
            refine VJ.istore C [(15, .int (nI 1)), (13, .long ((nI h).toInt64)), (11, .long ((nI a).toInt64)), (10, .int (nI j)), (9, .int (nI 1)), (0, .ref ox), (1, .int (nI r)), (2, .int (nI 2)), (3, .int (nI off)), (4, .int (nI P))] dL_rollHolds_142 (Nat.le_of_ble_eq_true rfl) rfl ?_
            refine VJ.aload_n C 5 dL_rollHolds_144 rfl ?_
            refine VJ.iload_n C 6 dL_rollHolds_145 rfl ?_
            refine VJ.iload C 3 dL_rollHolds_146 rfl ?_
            refine VJ.a_holds CX hN hM2 hz h7 hr hj (vx_cwSW 3 C.1.2.2.2.2 gL_rollHolds_L_holds rfl rfl rfl hy_L_holds ⟨Nat.le_of_ble_eq_true rfl, Nat.le_of_ble_eq_true rfl⟩) (Nat.le_of_ble_eq_true rfl) dL_rollHolds_148 ⟨by omega, by omega⟩ (fun M3 hM3 => ?_)
            refine VJ.lnv (y := (nI h).toInt64) (congrArg Int32.toInt64 (h24.trans e24)) ?_
            refine VJ.iload C 0 dL_rollHolds_151 rfl ?_
            refine VJ.xif_eq_f C 161 (by decide) dL_rollHolds_153 (by decide) ?_
            refine VJ.lload C 1 dL_rollHolds_156 rfl ?_
            refine VJ.goto C 164 dL_rollHolds_158 (by decide) ?_
            refine VJ.lce C (rfl) dL_rollHolds_164 ?_
            refine VJ.xif_ne_f C 190 (by decide) dL_rollHolds_165 (by decide) ?_
            refine VJ.aload_n C 5 dL_rollHolds_168 rfl ?_
            refine VJ.iload_n C 6 dL_rollHolds_169 rfl ?_
            refine VJ.iload C 3 dL_rollHolds_170 rfl ?_
            refine VJ.a_holdsAnew CX hN hM3 hz h7 hr hj (vx_cwSW 3 C.1.2.2.2.2 gL_rollHolds_L_holdsAnew rfl rfl rfl hy_L_holdsAnew ⟨Nat.le_of_ble_eq_true rfl, Nat.le_of_ble_eq_true rfl⟩) (Nat.le_of_ble_eq_true rfl) dL_rollHolds_172 ⟨by omega, by omega⟩ (fun M4 hM4 => ?_)
            refine VJ.lnv (y := (nI h).toInt64) (congrArg Int32.toInt64 (h24.trans e24)) ?_
            refine VJ.aload_n C 5 dL_rollHolds_175 rfl ?_
            refine VJ.iload_n C 6 dL_rollHolds_176 rfl ?_
            refine VJ.iload C 3 dL_rollHolds_177 rfl ?_
            refine VJ.a_holds CX hN hM4 hz h7 hr hj (vx_cwSW 3 C.1.2.2.2.2 gL_rollHolds_L_holds rfl rfl rfl hy_L_holds ⟨Nat.le_of_ble_eq_true rfl, Nat.le_of_ble_eq_true rfl⟩) (Nat.le_of_ble_eq_true rfl) dL_rollHolds_179 ⟨by omega, by omega⟩ (fun M5 hM5 => ?_)
            refine VJ.lnv (y := (nI h).toInt64) (congrArg Int32.toInt64 (h24.trans e24)) ?_
            refine VJ.lce C (rfl) dL_rollHolds_182 ?_
            refine VJ.xif_ne_f C 190 (by decide) dL_rollHolds_183 (by decide) ?_
            refine VJ.iconst (v := nI 1) C dL_rollHolds_186 (by decide) ?_
            refine VJ.goto C 191 dL_rollHolds_187 (by decide) ?_
            refine VJ.istore C [(9, .int (nI 1)), (15, .int (nI 1)), (13, .long ((nI h).toInt64)), (11, .long ((nI a).toInt64)), (10, .int (nI j)), (0, .ref ox), (1, .int (nI r)), (2, .int (nI 2)), (3, .int (nI off)), (4, .int (nI P))] dL_rollHolds_191 (Nat.le_of_ble_eq_true rfl) rfl ?_
            refine VJ.iinc C 4 (nI (j + 1)) [(10, .int (nI (j + 1))), (9, .int (nI 1)), (15, .int (nI 1)), (13, .long ((nI h).toInt64)), (11, .long ((nI a).toInt64)), (0, .ref ox), (1, .int (nI r)), (2, .int (nI 2)), (3, .int (nI off)), (4, .int (nI P))] dL_rollHolds_193 rfl nI_s9 (Nat.le_of_ble_eq_true rfl) rfl ?_
            refine VJ.goto C 42 dL_rollHolds_196 (by decide) ?_
            refine VJ.sub [0, 1, 5, 6, 7, 8, 9] rfl ?_
            exact ih (j + 1) _ _ _ (by omega) (by omega) (by omega) hM5
          · rw [if_neg (fun e => z9 (of_decide_eq_true e).2)] at e24
            have h9 := lc_le_n (b := 15) (show a < 2147483648 by omega) (by omega) (by omega)
            refine VJ.iload C 0 dL_rollHolds_42 rfl ?_
            refine VJ.iload C 6 dL_rollHolds_44 rfl ?_
            refine VJ.xicmp_ge_f C 199 (fun e => by have := (n_le (by omega) (by omega)).mp e; omega) dL_rollHolds_46 (by decide) ?_
            refine VJ.iload C 1 dL_rollHolds_49 rfl ?_
            refine VJ.xif_eq_f C 199 (by decide) dL_rollHolds_51 (by decide) ?_
            refine VJ.aload_n C 2 dL_rollHolds_54 rfl ?_
            refine VJ.iload C 0 dL_rollHolds_55 rfl ?_
            refine VJ.iconst (v := nI 5) C dL_rollHolds_57 (by decide) ?_
            refine VJ.a_now (w := 5) CX hN hM L hj (by omega) (vx_cwSW 3 C.1.2.2.2.2 gL_rollHolds_L_now rfl rfl rfl hy_L_now ⟨Nat.le_of_ble_eq_true rfl, Nat.le_of_ble_eq_true rfl⟩) (Nat.le_of_ble_eq_true rfl) dL_rollHolds_58 ⟨by omega, by omega⟩ (fun M1 hM1 => ?_)
            refine VJ.lnv (y := (nI a).toInt64) (congrArg Int32.toInt64 t5) ?_
            refine VJ.lstore C [(11, .long ((nI a).toInt64)), (10, .int (nI j)), (9, .int (nI 1)), (0, .ref ox), (1, .int (nI r)), (2, .int (nI 2)), (3, .int (nI off)), (4, .int (nI P))] dL_rollHolds_61 (Nat.le_of_ble_eq_true rfl) rfl ?_
            refine VJ.aload_n C 3 dL_rollHolds_63 rfl ?_
            refine VJ.iload C 1 dL_rollHolds_64 rfl ?_
            refine VJ.iconst (v := nI 1) C dL_rollHolds_66 (by decide) ?_
            refine VJ.a_now (w := 1) CX hN hM1 L hj (by omega) (vx_cwSW 3 C.1.2.2.2.2 gL_rollHolds_L_now rfl rfl rfl hy_L_now ⟨Nat.le_of_ble_eq_true rfl, Nat.le_of_ble_eq_true rfl⟩) (Nat.le_of_ble_eq_true rfl) dL_rollHolds_67 ⟨by omega, by omega⟩ (fun M2 hM2 => ?_)
            refine VJ.lnv (y := (nI h).toInt64) (congrArg Int32.toInt64 t1) ?_
            refine VJ.lstore C [(13, .long ((nI h).toInt64)), (11, .long ((nI a).toInt64)), (10, .int (nI j)), (9, .int (nI 1)), (0, .ref ox), (1, .int (nI r)), (2, .int (nI 2)), (3, .int (nI off)), (4, .int (nI P))] dL_rollHolds_70 (Nat.le_of_ble_eq_true rfl) rfl ?_
            refine VJ.lload C 1 dL_rollHolds_72 rfl ?_
            refine VJ.lconst (v := (nI 0).toInt64) C dL_rollHolds_74 (by decide) ?_
            refine VJ.lcmp C dL_rollHolds_75 ?_
            refine VJ.xif_lt_f C 141 (lc_nn (by omega)) dL_rollHolds_76 (by decide) ?_
            refine VJ.iload_n C 6 dL_rollHolds_79 rfl ?_
            refine VJ.xif_eq_f C 137 (by decide) dL_rollHolds_80 (by decide) ?_
            refine VJ.iload_n C 6 dL_rollHolds_83 rfl ?_
            refine VJ.iconst (v := nI 1) C dL_rollHolds_84 (by decide) ?_
            refine VJ.xicmp_ne_t C 97 (by decide) dL_rollHolds_85 (by decide) ?_
            refine VJ.iload_n C 6 dL_rollHolds_97 rfl ?_
            refine VJ.iconst (v := nI 2) C dL_rollHolds_98 (by decide) ?_
            refine VJ.xicmp_ne_f C 120 (by decide) dL_rollHolds_99 (by decide) ?_
            refine VJ.lload C 1 dL_rollHolds_102 rfl ?_
            refine VJ.ldc2 (v := 6) C (C.1.2.2.2.2 _ (List.mem_of_getElem? (i := 2) rfl)) dL_rollHolds_104 ?_
            refine VJ.lnv (y := (nI 6).toInt64) (by decide) ?_
            refine VJ.lcmp C dL_rollHolds_107 ?_
            refine VJ.xif_lt_f C 120 (h8) dL_rollHolds_108 (by decide) ?_
            refine VJ.lload C 1 dL_rollHolds_111 rfl ?_
            refine VJ.ldc2 (v := 15) C (C.1.2.2.2.2 _ (List.mem_of_getElem? (i := 3) rfl)) dL_rollHolds_113 ?_
            refine VJ.lnv (y := (nI 15).toInt64) (by decide) ?_
            refine VJ.lcmp C dL_rollHolds_116 ?_
            refine VJ.xif_le_f C 137 (h9) dL_rollHolds_117 (by decide) ?_
            refine VJ.iload_n C 6 dL_rollHolds_120 rfl ?_
            refine VJ.iconst (v := nI 3) C dL_rollHolds_121 (by decide) ?_
            refine VJ.xicmp_ne_t C 141 (by decide) dL_rollHolds_122 (by decide) ?_
            refine VJ.iconst (v := nI 0) C dL_rollHolds_141 (by decide) ?_
            refine VJ.istore C [(15, .int (nI 0)), (13, .long ((nI h).toInt64)), (11, .long ((nI a).toInt64)), (10, .int (nI j)), (9, .int (nI 1)), (0, .ref ox), (1, .int (nI r)), (2, .int (nI 2)), (3, .int (nI off)), (4, .int (nI P))] dL_rollHolds_142 (Nat.le_of_ble_eq_true rfl) rfl ?_
            refine VJ.aload_n C 5 dL_rollHolds_144 rfl ?_
            refine VJ.iload_n C 6 dL_rollHolds_145 rfl ?_
            refine VJ.iload C 3 dL_rollHolds_146 rfl ?_
            refine VJ.a_holds CX hN hM2 hz h7 hr hj (vx_cwSW 3 C.1.2.2.2.2 gL_rollHolds_L_holds rfl rfl rfl hy_L_holds ⟨Nat.le_of_ble_eq_true rfl, Nat.le_of_ble_eq_true rfl⟩) (Nat.le_of_ble_eq_true rfl) dL_rollHolds_148 ⟨by omega, by omega⟩ (fun M3 hM3 => ?_)
            refine VJ.lnv (y := (-1 : Int32).toInt64) (congrArg Int32.toInt64 (h24.trans e24)) ?_
            refine VJ.iload C 0 dL_rollHolds_151 rfl ?_
            refine VJ.xif_eq_t C 161 (by decide) dL_rollHolds_153 (by decide) ?_
            refine VJ.ldc2 (v := -1) C (C.1.2.2.2.2 _ (List.mem_of_getElem? (i := 5) rfl)) dL_rollHolds_161 ?_
            refine VJ.lnv (y := (-1 : Int32).toInt64) (by decide) ?_
            refine VJ.lce C (rfl) dL_rollHolds_164 ?_
            refine VJ.xif_ne_f C 190 (by decide) dL_rollHolds_165 (by decide) ?_
            refine VJ.aload_n C 5 dL_rollHolds_168 rfl ?_
            refine VJ.iload_n C 6 dL_rollHolds_169 rfl ?_
            refine VJ.iload C 3 dL_rollHolds_170 rfl ?_
            refine VJ.a_holdsAnew CX hN hM3 hz h7 hr hj (vx_cwSW 3 C.1.2.2.2.2 gL_rollHolds_L_holdsAnew rfl rfl rfl hy_L_holdsAnew ⟨Nat.le_of_ble_eq_true rfl, Nat.le_of_ble_eq_true rfl⟩) (Nat.le_of_ble_eq_true rfl) dL_rollHolds_172 ⟨by omega, by omega⟩ (fun M4 hM4 => ?_)
            refine VJ.lnv (y := (-1 : Int32).toInt64) (congrArg Int32.toInt64 (h24.trans e24)) ?_
            refine VJ.aload_n C 5 dL_rollHolds_175 rfl ?_
            refine VJ.iload_n C 6 dL_rollHolds_176 rfl ?_
            refine VJ.iload C 3 dL_rollHolds_177 rfl ?_
            refine VJ.a_holds CX hN hM4 hz h7 hr hj (vx_cwSW 3 C.1.2.2.2.2 gL_rollHolds_L_holds rfl rfl rfl hy_L_holds ⟨Nat.le_of_ble_eq_true rfl, Nat.le_of_ble_eq_true rfl⟩) (Nat.le_of_ble_eq_true rfl) dL_rollHolds_179 ⟨by omega, by omega⟩ (fun M5 hM5 => ?_)
            refine VJ.lnv (y := (-1 : Int32).toInt64) (congrArg Int32.toInt64 (h24.trans e24)) ?_
            refine VJ.lce C (rfl) dL_rollHolds_182 ?_
            refine VJ.xif_ne_f C 190 (by decide) dL_rollHolds_183 (by decide) ?_
            refine VJ.iconst (v := nI 1) C dL_rollHolds_186 (by decide) ?_
            refine VJ.goto C 191 dL_rollHolds_187 (by decide) ?_
            refine VJ.istore C [(9, .int (nI 1)), (15, .int (nI 0)), (13, .long ((nI h).toInt64)), (11, .long ((nI a).toInt64)), (10, .int (nI j)), (0, .ref ox), (1, .int (nI r)), (2, .int (nI 2)), (3, .int (nI off)), (4, .int (nI P))] dL_rollHolds_191 (Nat.le_of_ble_eq_true rfl) rfl ?_
            refine VJ.iinc C 4 (nI (j + 1)) [(10, .int (nI (j + 1))), (9, .int (nI 1)), (15, .int (nI 0)), (13, .long ((nI h).toInt64)), (11, .long ((nI a).toInt64)), (0, .ref ox), (1, .int (nI r)), (2, .int (nI 2)), (3, .int (nI off)), (4, .int (nI P))] dL_rollHolds_193 rfl nI_s9 (Nat.le_of_ble_eq_true rfl) rfl ?_
            refine VJ.goto C 42 dL_rollHolds_196 (by decide) ?_
            refine VJ.sub [0, 1, 5, 6, 7, 8, 9] rfl ?_
            exact ih (j + 1) _ _ _ (by omega) (by omega) (by omega) hM5
        · rw [if_neg (fun e => z8 (of_decide_eq_true e).1)] at e24
          have h8 := lc_lt_y (b := 6) (show a < 2147483648 by omega) (by omega) (by omega)
          refine VJ.iload C 0 dL_rollHolds_42 rfl ?_
          refine VJ.iload C 6 dL_rollHolds_44 rfl ?_
          refine VJ.xicmp_ge_f C 199 (fun e => by have := (n_le (by omega) (by omega)).mp e; omega) dL_rollHolds_46 (by decide) ?_
          refine VJ.iload C 1 dL_rollHolds_49 rfl ?_
          refine VJ.xif_eq_f C 199 (by decide) dL_rollHolds_51 (by decide) ?_
          refine VJ.aload_n C 2 dL_rollHolds_54 rfl ?_
          refine VJ.iload C 0 dL_rollHolds_55 rfl ?_
          refine VJ.iconst (v := nI 5) C dL_rollHolds_57 (by decide) ?_
          refine VJ.a_now (w := 5) CX hN hM L hj (by omega) (vx_cwSW 3 C.1.2.2.2.2 gL_rollHolds_L_now rfl rfl rfl hy_L_now ⟨Nat.le_of_ble_eq_true rfl, Nat.le_of_ble_eq_true rfl⟩) (Nat.le_of_ble_eq_true rfl) dL_rollHolds_58 ⟨by omega, by omega⟩ (fun M1 hM1 => ?_)
          refine VJ.lnv (y := (nI a).toInt64) (congrArg Int32.toInt64 t5) ?_
          refine VJ.lstore C [(11, .long ((nI a).toInt64)), (10, .int (nI j)), (9, .int (nI 1)), (0, .ref ox), (1, .int (nI r)), (2, .int (nI 2)), (3, .int (nI off)), (4, .int (nI P))] dL_rollHolds_61 (Nat.le_of_ble_eq_true rfl) rfl ?_
          refine VJ.aload_n C 3 dL_rollHolds_63 rfl ?_
          refine VJ.iload C 1 dL_rollHolds_64 rfl ?_
          refine VJ.iconst (v := nI 1) C dL_rollHolds_66 (by decide) ?_
          refine VJ.a_now (w := 1) CX hN hM1 L hj (by omega) (vx_cwSW 3 C.1.2.2.2.2 gL_rollHolds_L_now rfl rfl rfl hy_L_now ⟨Nat.le_of_ble_eq_true rfl, Nat.le_of_ble_eq_true rfl⟩) (Nat.le_of_ble_eq_true rfl) dL_rollHolds_67 ⟨by omega, by omega⟩ (fun M2 hM2 => ?_)
          refine VJ.lnv (y := (nI h).toInt64) (congrArg Int32.toInt64 t1) ?_
          refine VJ.lstore C [(13, .long ((nI h).toInt64)), (11, .long ((nI a).toInt64)), (10, .int (nI j)), (9, .int (nI 1)), (0, .ref ox), (1, .int (nI r)), (2, .int (nI 2)), (3, .int (nI off)), (4, .int (nI P))] dL_rollHolds_70 (Nat.le_of_ble_eq_true rfl) rfl ?_
          refine VJ.lload C 1 dL_rollHolds_72 rfl ?_
          refine VJ.lconst (v := (nI 0).toInt64) C dL_rollHolds_74 (by decide) ?_
          refine VJ.lcmp C dL_rollHolds_75 ?_
          refine VJ.xif_lt_f C 141 (lc_nn (by omega)) dL_rollHolds_76 (by decide) ?_
          refine VJ.iload_n C 6 dL_rollHolds_79 rfl ?_
          refine VJ.xif_eq_f C 137 (by decide) dL_rollHolds_80 (by decide) ?_
          refine VJ.iload_n C 6 dL_rollHolds_83 rfl ?_
          refine VJ.iconst (v := nI 1) C dL_rollHolds_84 (by decide) ?_
          refine VJ.xicmp_ne_t C 97 (by decide) dL_rollHolds_85 (by decide) ?_
          refine VJ.iload_n C 6 dL_rollHolds_97 rfl ?_
          refine VJ.iconst (v := nI 2) C dL_rollHolds_98 (by decide) ?_
          refine VJ.xicmp_ne_f C 120 (by decide) dL_rollHolds_99 (by decide) ?_
          refine VJ.lload C 1 dL_rollHolds_102 rfl ?_
          refine VJ.ldc2 (v := 6) C (C.1.2.2.2.2 _ (List.mem_of_getElem? (i := 2) rfl)) dL_rollHolds_104 ?_
          refine VJ.lnv (y := (nI 6).toInt64) (by decide) ?_
          refine VJ.lcmp C dL_rollHolds_107 ?_
          refine VJ.xif_lt_t C 120 (h8) dL_rollHolds_108 (by decide) ?_
          refine VJ.iload_n C 6 dL_rollHolds_120 rfl ?_
          refine VJ.iconst (v := nI 3) C dL_rollHolds_121 (by decide) ?_
          refine VJ.xicmp_ne_t C 141 (by decide) dL_rollHolds_122 (by decide) ?_
          refine VJ.iconst (v := nI 0) C dL_rollHolds_141 (by decide) ?_
          refine VJ.istore C [(15, .int (nI 0)), (13, .long ((nI h).toInt64)), (11, .long ((nI a).toInt64)), (10, .int (nI j)), (9, .int (nI 1)), (0, .ref ox), (1, .int (nI r)), (2, .int (nI 2)), (3, .int (nI off)), (4, .int (nI P))] dL_rollHolds_142 (Nat.le_of_ble_eq_true rfl) rfl ?_
          refine VJ.aload_n C 5 dL_rollHolds_144 rfl ?_
          refine VJ.iload_n C 6 dL_rollHolds_145 rfl ?_
          refine VJ.iload C 3 dL_rollHolds_146 rfl ?_
          refine VJ.a_holds CX hN hM2 hz h7 hr hj (vx_cwSW 3 C.1.2.2.2.2 gL_rollHolds_L_holds rfl rfl rfl hy_L_holds ⟨Nat.le_of_ble_eq_true rfl, Nat.le_of_ble_eq_true rfl⟩) (Nat.le_of_ble_eq_true rfl) dL_rollHolds_148 ⟨by omega, by omega⟩ (fun M3 hM3 => ?_)
          refine VJ.lnv (y := (-1 : Int32).toInt64) (congrArg Int32.toInt64 (h24.trans e24)) ?_
          refine VJ.iload C 0 dL_rollHolds_151 rfl ?_
          refine VJ.xif_eq_t C 161 (by decide) dL_rollHolds_153 (by decide) ?_
          refine VJ.ldc2 (v := -1) C (C.1.2.2.2.2 _ (List.mem_of_getElem? (i := 5) rfl)) dL_rollHolds_161 ?_
          refine VJ.lnv (y := (-1 : Int32).toInt64) (by decide) ?_
          refine VJ.lce C (rfl) dL_rollHolds_164 ?_
          refine VJ.xif_ne_f C 190 (by decide) dL_rollHolds_165 (by decide) ?_
          refine VJ.aload_n C 5 dL_rollHolds_168 rfl ?_
          refine VJ.iload_n C 6 dL_rollHolds_169 rfl ?_
          refine VJ.iload C 3 dL_rollHolds_170 rfl ?_
          refine VJ.a_holdsAnew CX hN hM3 hz h7 hr hj (vx_cwSW 3 C.1.2.2.2.2 gL_rollHolds_L_holdsAnew rfl rfl rfl hy_L_holdsAnew ⟨Nat.le_of_ble_eq_true rfl, Nat.le_of_ble_eq_true rfl⟩) (Nat.le_of_ble_eq_true rfl) dL_rollHolds_172 ⟨by omega, by omega⟩ (fun M4 hM4 => ?_)
          refine VJ.lnv (y := (-1 : Int32).toInt64) (congrArg Int32.toInt64 (h24.trans e24)) ?_
          refine VJ.aload_n C 5 dL_rollHolds_175 rfl ?_
          refine VJ.iload_n C 6 dL_rollHolds_176 rfl ?_
          refine VJ.iload C 3 dL_rollHolds_177 rfl ?_
          refine VJ.a_holds CX hN hM4 hz h7 hr hj (vx_cwSW 3 C.1.2.2.2.2 gL_rollHolds_L_holds rfl rfl rfl hy_L_holds ⟨Nat.le_of_ble_eq_true rfl, Nat.le_of_ble_eq_true rfl⟩) (Nat.le_of_ble_eq_true rfl) dL_rollHolds_179 ⟨by omega, by omega⟩ (fun M5 hM5 => ?_)
          refine VJ.lnv (y := (-1 : Int32).toInt64) (congrArg Int32.toInt64 (h24.trans e24)) ?_
          refine VJ.lce C (rfl) dL_rollHolds_182 ?_
          refine VJ.xif_ne_f C 190 (by decide) dL_rollHolds_183 (by decide) ?_
          refine VJ.iconst (v := nI 1) C dL_rollHolds_186 (by decide) ?_
          refine VJ.goto C 191 dL_rollHolds_187 (by decide) ?_
          refine VJ.istore C [(9, .int (nI 1)), (15, .int (nI 0)), (13, .long ((nI h).toInt64)), (11, .long ((nI a).toInt64)), (10, .int (nI j)), (0, .ref ox), (1, .int (nI r)), (2, .int (nI 2)), (3, .int (nI off)), (4, .int (nI P))] dL_rollHolds_191 (Nat.le_of_ble_eq_true rfl) rfl ?_
          refine VJ.iinc C 4 (nI (j + 1)) [(10, .int (nI (j + 1))), (9, .int (nI 1)), (15, .int (nI 0)), (13, .long ((nI h).toInt64)), (11, .long ((nI a).toInt64)), (0, .ref ox), (1, .int (nI r)), (2, .int (nI 2)), (3, .int (nI off)), (4, .int (nI P))] dL_rollHolds_193 rfl nI_s9 (Nat.le_of_ble_eq_true rfl) rfl ?_
          refine VJ.goto C 42 dL_rollHolds_196 (by decide) ?_
          refine VJ.sub [0, 1, 5, 6, 7, 8, 9] rfl ?_
          exact ih (j + 1) _ _ _ (by omega) (by omega) (by omega) hM5
      · rw [show kindb 3 off a h = decide (h / 4 = off) from rfl] at e24
        by_cases h9 : h / 4 = off
        · rw [if_pos (decide_eq_true h9)] at e24
          refine VJ.iload C 0 dL_rollHolds_42 rfl ?_
          refine VJ.iload C 6 dL_rollHolds_44 rfl ?_
          refine VJ.xicmp_ge_f C 199 (fun e => by have := (n_le (by omega) (by omega)).mp e; omega) dL_rollHolds_46 (by decide) ?_
          refine VJ.iload C 1 dL_rollHolds_49 rfl ?_
          refine VJ.xif_eq_f C 199 (by decide) dL_rollHolds_51 (by decide) ?_
          refine VJ.aload_n C 2 dL_rollHolds_54 rfl ?_
          refine VJ.iload C 0 dL_rollHolds_55 rfl ?_
          refine VJ.iconst (v := nI 5) C dL_rollHolds_57 (by decide) ?_
          refine VJ.a_now (w := 5) CX hN hM L hj (by omega) (vx_cwSW 3 C.1.2.2.2.2 gL_rollHolds_L_now rfl rfl rfl hy_L_now ⟨Nat.le_of_ble_eq_true rfl, Nat.le_of_ble_eq_true rfl⟩) (Nat.le_of_ble_eq_true rfl) dL_rollHolds_58 ⟨by omega, by omega⟩ (fun M1 hM1 => ?_)
          refine VJ.lnv (y := (nI a).toInt64) (congrArg Int32.toInt64 t5) ?_
          refine VJ.lstore C [(11, .long ((nI a).toInt64)), (10, .int (nI j)), (9, .int (nI 1)), (0, .ref ox), (1, .int (nI r)), (2, .int (nI 3)), (3, .int (nI off)), (4, .int (nI P))] dL_rollHolds_61 (Nat.le_of_ble_eq_true rfl) rfl ?_
          refine VJ.aload_n C 3 dL_rollHolds_63 rfl ?_
          refine VJ.iload C 1 dL_rollHolds_64 rfl ?_
          refine VJ.iconst (v := nI 1) C dL_rollHolds_66 (by decide) ?_
          refine VJ.a_now (w := 1) CX hN hM1 L hj (by omega) (vx_cwSW 3 C.1.2.2.2.2 gL_rollHolds_L_now rfl rfl rfl hy_L_now ⟨Nat.le_of_ble_eq_true rfl, Nat.le_of_ble_eq_true rfl⟩) (Nat.le_of_ble_eq_true rfl) dL_rollHolds_67 ⟨by omega, by omega⟩ (fun M2 hM2 => ?_)
          refine VJ.lnv (y := (nI h).toInt64) (congrArg Int32.toInt64 t1) ?_
          refine VJ.lstore C [(13, .long ((nI h).toInt64)), (11, .long ((nI a).toInt64)), (10, .int (nI j)), (9, .int (nI 1)), (0, .ref ox), (1, .int (nI r)), (2, .int (nI 3)), (3, .int (nI off)), (4, .int (nI P))] dL_rollHolds_70 (Nat.le_of_ble_eq_true rfl) rfl ?_
          refine VJ.lload C 1 dL_rollHolds_72 rfl ?_
          refine VJ.lconst (v := (nI 0).toInt64) C dL_rollHolds_74 (by decide) ?_
          refine VJ.lcmp C dL_rollHolds_75 ?_
          refine VJ.xif_lt_f C 141 (lc_nn (by omega)) dL_rollHolds_76 (by decide) ?_
          refine VJ.iload_n C 6 dL_rollHolds_79 rfl ?_
          refine VJ.xif_eq_f C 137 (by decide) dL_rollHolds_80 (by decide) ?_
          refine VJ.iload_n C 6 dL_rollHolds_83 rfl ?_
          refine VJ.iconst (v := nI 1) C dL_rollHolds_84 (by decide) ?_
          refine VJ.xicmp_ne_t C 97 (by decide) dL_rollHolds_85 (by decide) ?_
          refine VJ.iload_n C 6 dL_rollHolds_97 rfl ?_
          refine VJ.iconst (v := nI 2) C dL_rollHolds_98 (by decide) ?_
          refine VJ.xicmp_ne_t C 120 (by decide) dL_rollHolds_99 (by decide) ?_
          refine VJ.iload_n C 6 dL_rollHolds_120 rfl ?_
          refine VJ.iconst (v := nI 3) C dL_rollHolds_121 (by decide) ?_
          refine VJ.xicmp_ne_f C 141 (by decide) dL_rollHolds_122 (by decide) ?_
          refine VJ.lload C 0 dL_rollHolds_125 rfl ?_
          refine VJ.ldc2 (v := 4) C (C.1.2.2.2.2 _ (List.mem_of_getElem? (i := 4) rfl)) dL_rollHolds_127 ?_
          refine VJ.lnv (y := (nI 4).toInt64) (by decide) ?_
          refine VJ.ldiv C dL_rollHolds_130 (by decide) ?_
          refine VJ.lnv (y := (nI (h / 4)).toInt64) (nl_div (by omega) (by omega) (by omega)) ?_
          refine VJ.iload_n C 7 dL_rollHolds_131 rfl ?_
          refine VJ.i2l C dL_rollHolds_132 ?_
          refine VJ.lce C (by rw [h9]) dL_rollHolds_133 ?_
          refine VJ.xif_ne_f C 141 (by decide) dL_rollHolds_134 (by decide) ?_
          refine VJ.iconst (v := nI 1) C dL_rollHolds_137 (by decide) ?_
          refine VJ.goto C 142 dL_rollHolds_138 (by decide) ?_
          refine VJ.istore C [(15, .int (nI 1)), (13, .long ((nI h).toInt64)), (11, .long ((nI a).toInt64)), (10, .int (nI j)), (9, .int (nI 1)), (0, .ref ox), (1, .int (nI r)), (2, .int (nI 3)), (3, .int (nI off)), (4, .int (nI P))] dL_rollHolds_142 (Nat.le_of_ble_eq_true rfl) rfl ?_
          refine VJ.aload_n C 5 dL_rollHolds_144 rfl ?_
          refine VJ.iload_n C 6 dL_rollHolds_145 rfl ?_
          refine VJ.iload C 3 dL_rollHolds_146 rfl ?_
          refine VJ.a_holds CX hN hM2 hz h7 hr hj (vx_cwSW 3 C.1.2.2.2.2 gL_rollHolds_L_holds rfl rfl rfl hy_L_holds ⟨Nat.le_of_ble_eq_true rfl, Nat.le_of_ble_eq_true rfl⟩) (Nat.le_of_ble_eq_true rfl) dL_rollHolds_148 ⟨by omega, by omega⟩ (fun M3 hM3 => ?_)
          refine VJ.lnv (y := (nI h).toInt64) (congrArg Int32.toInt64 (h24.trans e24)) ?_
          refine VJ.iload C 0 dL_rollHolds_151 rfl ?_
          refine VJ.xif_eq_f C 161 (by decide) dL_rollHolds_153 (by decide) ?_
          refine VJ.lload C 1 dL_rollHolds_156 rfl ?_
          refine VJ.goto C 164 dL_rollHolds_158 (by decide) ?_
          refine VJ.lce C (rfl) dL_rollHolds_164 ?_
          refine VJ.xif_ne_f C 190 (by decide) dL_rollHolds_165 (by decide) ?_
          refine VJ.aload_n C 5 dL_rollHolds_168 rfl ?_
          refine VJ.iload_n C 6 dL_rollHolds_169 rfl ?_
          refine VJ.iload C 3 dL_rollHolds_170 rfl ?_
          refine VJ.a_holdsAnew CX hN hM3 hz h7 hr hj (vx_cwSW 3 C.1.2.2.2.2 gL_rollHolds_L_holdsAnew rfl rfl rfl hy_L_holdsAnew ⟨Nat.le_of_ble_eq_true rfl, Nat.le_of_ble_eq_true rfl⟩) (Nat.le_of_ble_eq_true rfl) dL_rollHolds_172 ⟨by omega, by omega⟩ (fun M4 hM4 => ?_)
          refine VJ.lnv (y := (nI h).toInt64) (congrArg Int32.toInt64 (h24.trans e24)) ?_
          refine VJ.aload_n C 5 dL_rollHolds_175 rfl ?_
          refine VJ.iload_n C 6 dL_rollHolds_176 rfl ?_
          refine VJ.iload C 3 dL_rollHolds_177 rfl ?_
          refine VJ.a_holds CX hN hM4 hz h7 hr hj (vx_cwSW 3 C.1.2.2.2.2 gL_rollHolds_L_holds rfl rfl rfl hy_L_holds ⟨Nat.le_of_ble_eq_true rfl, Nat.le_of_ble_eq_true rfl⟩) (Nat.le_of_ble_eq_true rfl) dL_rollHolds_179 ⟨by omega, by omega⟩ (fun M5 hM5 => ?_)
          refine VJ.lnv (y := (nI h).toInt64) (congrArg Int32.toInt64 (h24.trans e24)) ?_
          refine VJ.lce C (rfl) dL_rollHolds_182 ?_
          refine VJ.xif_ne_f C 190 (by decide) dL_rollHolds_183 (by decide) ?_
          refine VJ.iconst (v := nI 1) C dL_rollHolds_186 (by decide) ?_
          refine VJ.goto C 191 dL_rollHolds_187 (by decide) ?_
          refine VJ.istore C [(9, .int (nI 1)), (15, .int (nI 1)), (13, .long ((nI h).toInt64)), (11, .long ((nI a).toInt64)), (10, .int (nI j)), (0, .ref ox), (1, .int (nI r)), (2, .int (nI 3)), (3, .int (nI off)), (4, .int (nI P))] dL_rollHolds_191 (Nat.le_of_ble_eq_true rfl) rfl ?_
          refine VJ.iinc C 4 (nI (j + 1)) [(10, .int (nI (j + 1))), (9, .int (nI 1)), (15, .int (nI 1)), (13, .long ((nI h).toInt64)), (11, .long ((nI a).toInt64)), (0, .ref ox), (1, .int (nI r)), (2, .int (nI 3)), (3, .int (nI off)), (4, .int (nI P))] dL_rollHolds_193 rfl nI_s9 (Nat.le_of_ble_eq_true rfl) rfl ?_
          refine VJ.goto C 42 dL_rollHolds_196 (by decide) ?_
          refine VJ.sub [0, 1, 5, 6, 7, 8, 9] rfl ?_
          exact ih (j + 1) _ _ _ (by omega) (by omega) (by omega) hM5
        · rw [if_neg (fun e => h9 (of_decide_eq_true e))] at e24
          refine VJ.iload C 0 dL_rollHolds_42 rfl ?_
          refine VJ.iload C 6 dL_rollHolds_44 rfl ?_
          refine VJ.xicmp_ge_f C 199 (fun e => by have := (n_le (by omega) (by omega)).mp e; omega) dL_rollHolds_46 (by decide) ?_
          refine VJ.iload C 1 dL_rollHolds_49 rfl ?_
          refine VJ.xif_eq_f C 199 (by decide) dL_rollHolds_51 (by decide) ?_
          refine VJ.aload_n C 2 dL_rollHolds_54 rfl ?_
          refine VJ.iload C 0 dL_rollHolds_55 rfl ?_
          refine VJ.iconst (v := nI 5) C dL_rollHolds_57 (by decide) ?_
          refine VJ.a_now (w := 5) CX hN hM L hj (by omega) (vx_cwSW 3 C.1.2.2.2.2 gL_rollHolds_L_now rfl rfl rfl hy_L_now ⟨Nat.le_of_ble_eq_true rfl, Nat.le_of_ble_eq_true rfl⟩) (Nat.le_of_ble_eq_true rfl) dL_rollHolds_58 ⟨by omega, by omega⟩ (fun M1 hM1 => ?_)
          refine VJ.lnv (y := (nI a).toInt64) (congrArg Int32.toInt64 t5) ?_
          refine VJ.lstore C [(11, .long ((nI a).toInt64)), (10, .int (nI j)), (9, .int (nI 1)), (0, .ref ox), (1, .int (nI r)), (2, .int (nI 3)), (3, .int (nI off)), (4, .int (nI P))] dL_rollHolds_61 (Nat.le_of_ble_eq_true rfl) rfl ?_
          refine VJ.aload_n C 3 dL_rollHolds_63 rfl ?_
          refine VJ.iload C 1 dL_rollHolds_64 rfl ?_
          refine VJ.iconst (v := nI 1) C dL_rollHolds_66 (by decide) ?_
          refine VJ.a_now (w := 1) CX hN hM1 L hj (by omega) (vx_cwSW 3 C.1.2.2.2.2 gL_rollHolds_L_now rfl rfl rfl hy_L_now ⟨Nat.le_of_ble_eq_true rfl, Nat.le_of_ble_eq_true rfl⟩) (Nat.le_of_ble_eq_true rfl) dL_rollHolds_67 ⟨by omega, by omega⟩ (fun M2 hM2 => ?_)
          refine VJ.lnv (y := (nI h).toInt64) (congrArg Int32.toInt64 t1) ?_
          refine VJ.lstore C [(13, .long ((nI h).toInt64)), (11, .long ((nI a).toInt64)), (10, .int (nI j)), (9, .int (nI 1)), (0, .ref ox), (1, .int (nI r)), (2, .int (nI 3)), (3, .int (nI off)), (4, .int (nI P))] dL_rollHolds_70 (Nat.le_of_ble_eq_true rfl) rfl ?_
          refine VJ.lload C 1 dL_rollHolds_72 rfl ?_
          refine VJ.lconst (v := (nI 0).toInt64) C dL_rollHolds_74 (by decide) ?_
          refine VJ.lcmp C dL_rollHolds_75 ?_
          refine VJ.xif_lt_f C 141 (lc_nn (by omega)) dL_rollHolds_76 (by decide) ?_
          refine VJ.iload_n C 6 dL_rollHolds_79 rfl ?_
          refine VJ.xif_eq_f C 137 (by decide) dL_rollHolds_80 (by decide) ?_
          refine VJ.iload_n C 6 dL_rollHolds_83 rfl ?_
          refine VJ.iconst (v := nI 1) C dL_rollHolds_84 (by decide) ?_
          refine VJ.xicmp_ne_t C 97 (by decide) dL_rollHolds_85 (by decide) ?_
          refine VJ.iload_n C 6 dL_rollHolds_97 rfl ?_
          refine VJ.iconst (v := nI 2) C dL_rollHolds_98 (by decide) ?_
          refine VJ.xicmp_ne_t C 120 (by decide) dL_rollHolds_99 (by decide) ?_
          refine VJ.iload_n C 6 dL_rollHolds_120 rfl ?_
          refine VJ.iconst (v := nI 3) C dL_rollHolds_121 (by decide) ?_
          refine VJ.xicmp_ne_f C 141 (by decide) dL_rollHolds_122 (by decide) ?_
          refine VJ.lload C 0 dL_rollHolds_125 rfl ?_
          refine VJ.ldc2 (v := 4) C (C.1.2.2.2.2 _ (List.mem_of_getElem? (i := 4) rfl)) dL_rollHolds_127 ?_
          refine VJ.lnv (y := (nI 4).toInt64) (by decide) ?_
          refine VJ.ldiv C dL_rollHolds_130 (by decide) ?_
          refine VJ.lnv (y := (nI (h / 4)).toInt64) (nl_div (by omega) (by omega) (by omega)) ?_
          refine VJ.iload_n C 7 dL_rollHolds_131 rfl ?_
          refine VJ.i2l C dL_rollHolds_132 ?_
          refine VJ.lcmp C dL_rollHolds_133 ?_
          refine VJ.xif_ne_t C 141 (lc_ne (fun z => h9 ((n_eq (by omega) (by omega)).mp z))) dL_rollHolds_134 (by decide) ?_
          refine VJ.iconst (v := nI 0) C dL_rollHolds_141 (by decide) ?_
          refine VJ.istore C [(15, .int (nI 0)), (13, .long ((nI h).toInt64)), (11, .long ((nI a).toInt64)), (10, .int (nI j)), (9, .int (nI 1)), (0, .ref ox), (1, .int (nI r)), (2, .int (nI 3)), (3, .int (nI off)), (4, .int (nI P))] dL_rollHolds_142 (Nat.le_of_ble_eq_true rfl) rfl ?_
          refine VJ.aload_n C 5 dL_rollHolds_144 rfl ?_
          refine VJ.iload_n C 6 dL_rollHolds_145 rfl ?_
          refine VJ.iload C 3 dL_rollHolds_146 rfl ?_
          refine VJ.a_holds CX hN hM2 hz h7 hr hj (vx_cwSW 3 C.1.2.2.2.2 gL_rollHolds_L_holds rfl rfl rfl hy_L_holds ⟨Nat.le_of_ble_eq_true rfl, Nat.le_of_ble_eq_true rfl⟩) (Nat.le_of_ble_eq_true rfl) dL_rollHolds_148 ⟨by omega, by omega⟩ (fun M3 hM3 => ?_)
          refine VJ.lnv (y := (-1 : Int32).toInt64) (congrArg Int32.toInt64 (h24.trans e24)) ?_
          refine VJ.iload C 0 dL_rollHolds_151 rfl ?_
          refine VJ.xif_eq_t C 161 (by decide) dL_rollHolds_153 (by decide) ?_
          refine VJ.ldc2 (v := -1) C (C.1.2.2.2.2 _ (List.mem_of_getElem? (i := 5) rfl)) dL_rollHolds_161 ?_
          refine VJ.lnv (y := (-1 : Int32).toInt64) (by decide) ?_
          refine VJ.lce C (rfl) dL_rollHolds_164 ?_
          refine VJ.xif_ne_f C 190 (by decide) dL_rollHolds_165 (by decide) ?_
          refine VJ.aload_n C 5 dL_rollHolds_168 rfl ?_
          refine VJ.iload_n C 6 dL_rollHolds_169 rfl ?_
          refine VJ.iload C 3 dL_rollHolds_170 rfl ?_
          refine VJ.a_holdsAnew CX hN hM3 hz h7 hr hj (vx_cwSW 3 C.1.2.2.2.2 gL_rollHolds_L_holdsAnew rfl rfl rfl hy_L_holdsAnew ⟨Nat.le_of_ble_eq_true rfl, Nat.le_of_ble_eq_true rfl⟩) (Nat.le_of_ble_eq_true rfl) dL_rollHolds_172 ⟨by omega, by omega⟩ (fun M4 hM4 => ?_)
          refine VJ.lnv (y := (-1 : Int32).toInt64) (congrArg Int32.toInt64 (h24.trans e24)) ?_
          refine VJ.aload_n C 5 dL_rollHolds_175 rfl ?_
          refine VJ.iload_n C 6 dL_rollHolds_176 rfl ?_
          refine VJ.iload C 3 dL_rollHolds_177 rfl ?_
          refine VJ.a_holds CX hN hM4 hz h7 hr hj (vx_cwSW 3 C.1.2.2.2.2 gL_rollHolds_L_holds rfl rfl rfl hy_L_holds ⟨Nat.le_of_ble_eq_true rfl, Nat.le_of_ble_eq_true rfl⟩) (Nat.le_of_ble_eq_true rfl) dL_rollHolds_179 ⟨by omega, by omega⟩ (fun M5 hM5 => ?_)
          refine VJ.lnv (y := (-1 : Int32).toInt64) (congrArg Int32.toInt64 (h24.trans e24)) ?_
          refine VJ.lce C (rfl) dL_rollHolds_182 ?_
          refine VJ.xif_ne_f C 190 (by decide) dL_rollHolds_183 (by decide) ?_
          refine VJ.iconst (v := nI 1) C dL_rollHolds_186 (by decide) ?_
          refine VJ.goto C 191 dL_rollHolds_187 (by decide) ?_
          refine VJ.istore C [(9, .int (nI 1)), (15, .int (nI 0)), (13, .long ((nI h).toInt64)), (11, .long ((nI a).toInt64)), (10, .int (nI j)), (0, .ref ox), (1, .int (nI r)), (2, .int (nI 3)), (3, .int (nI off)), (4, .int (nI P))] dL_rollHolds_191 (Nat.le_of_ble_eq_true rfl) rfl ?_
          refine VJ.iinc C 4 (nI (j + 1)) [(10, .int (nI (j + 1))), (9, .int (nI 1)), (15, .int (nI 0)), (13, .long ((nI h).toInt64)), (11, .long ((nI a).toInt64)), (0, .ref ox), (1, .int (nI r)), (2, .int (nI 3)), (3, .int (nI off)), (4, .int (nI P))] dL_rollHolds_193 rfl nI_s9 (Nat.le_of_ble_eq_true rfl) rfl ?_
          refine VJ.goto C 42 dL_rollHolds_196 (by decide) ?_
          refine VJ.sub [0, 1, 5, 6, 7, 8, 9] rfl ?_
          exact ih (j + 1) _ _ _ (by omega) (by omega) (by omega) hM5
set_option maxHeartbeats 8000000 in
set_option maxRecDepth 100000 in
theorem c_L_rollHolds (l : Launch) (hl9 : l.stackTraces = false) (G : va_G) (cI cZ cQ cU cJ : ClassId) {t n P d g ox : Nat} {I : OI} {R : RI} {M0 : va_W} (hM0 : LW cI cZ cQ cU 20000 t n P d g ox I R M0) (ht : t ≤ 511) {z r kd off : Nat} (hz : z ≤ 5) (h7 : I 7 = nI z) (hr : r < z) (hk : kd < 4) (ek : R 22 r = nI kd) (ho : off < 4) (eo : R 23 r = nI off) {Rl : RI} {lo : Nat → Nat} (L : LAND 20000 P I R d d Rl lo) : ConW l yL_rollHolds wsL_rollHolds rmL_rollHolds G vwCl (tys cI cZ cQ cU cJ) nws strs [.ref ox, .int (nI r), .int (nI kd), .int (nI off), .int (nI P)] M0 (fun _ r9 M' => r9 = some (.int 1) ∧ ∃ I' R', LW cI cZ cQ cU 20000 (t + 1) n P d g ox I' R' M' ∧ (∀ c, c ≠ 0 → c ≠ 8 → I' c = I c) ∧ (∀ c, ¬ (11 ≤ c ∧ c ≤ 19) → c ≠ 24 → c ≠ 25 → c ≠ 26 → R' c = R c)) := by
  obtain ⟨bn, bP, bd, bg, -⟩ := hM0.iv
  refine conV_of (cc := cL_rollHolds) (maxL := 16) (own := RL) hl9 rfl (plainFor_of_name (by decide +kernel)) rfl (Nat.le_of_ble_eq_true rfl) ?_
  intro p e s m args below meth c A CX hN hret
  have C := CX.1
  refine VJ.aload_n C 0 dL_rollHolds_0 rfl ?_
  refine VJ.iload_n C 1 dL_rollHolds_1 rfl ?_
  refine VJ.a_owes CX hN hM0 L hz h7 hr hk ek ho eo (vx_cwSW 2 C.1.2.2.2.2 gL_rollHolds_L_owes rfl rfl rfl hy_L_owes ⟨Nat.le_of_ble_eq_true rfl, Nat.le_of_ble_eq_true rfl⟩) (Nat.le_of_ble_eq_true rfl) dL_rollHolds_2 ⟨Nat.le_of_ble_eq_true rfl, Nat.le_of_ble_eq_true rfl⟩ (fun M1 hM1 => ?_)
  refine VJ.lstore C [(5, .long ((nI (cnt (dueq Rl R d kd off r) 0 P)).toInt64)), (0, .ref ox), (1, .int (nI r)), (2, .int (nI kd)), (3, .int (nI off)), (4, .int (nI P))] dL_rollHolds_5 (Nat.le_of_ble_eq_true rfl) rfl ?_
  refine VJ.aload_n C 1 dL_rollHolds_7 rfl ?_
  refine VJ.iload_n C 2 dL_rollHolds_8 rfl ?_
  refine VJ.a_deliver CX hN hM1 ht L hz h7 hr hk ek ho eo (vx_cwSW 2 C.1.2.2.2.2 gL_rollHolds_L_deliver rfl rfl rfl hy_L_deliver ⟨Nat.le_of_ble_eq_true rfl, Nat.le_of_ble_eq_true rfl⟩) (Nat.le_of_ble_eq_true rfl) dL_rollHolds_9 ⟨Nat.le_of_ble_eq_true rfl, Nat.le_of_ble_eq_true rfl⟩ (fun M2 I' R' hM2 ic rc r24 => ?_)
  have L2 := hM1.mv L (I2 := I') (R2 := R') (ic 2 (by omega) (by omega)) (ic 3 (by omega) (by omega)) (ic 4 (by omega) (by omega)) (fun c hc => rc c (by omega) (by omega) (by omega) (by omega))
  have h7' : I' 7 = nI z := (ic 7 (by omega) (by omega)).trans h7
  have ek' : R' 22 r = nI kd := by rw [rc 22 (by omega) (by omega) (by omega) (by omega)]; exact ek
  have eo' : R' 23 r = nI off := by rw [rc 23 (by omega) (by omega) (by omega) (by omega)]; exact eo
  refine VJ.lstore C [(7, .long ((nI (cnt (dueq Rl R d kd off r) 0 P)).toInt64)), (5, .long ((nI (cnt (dueq Rl R d kd off r) 0 P)).toInt64)), (0, .ref ox), (1, .int (nI r)), (2, .int (nI kd)), (3, .int (nI off)), (4, .int (nI P))] dL_rollHolds_12 (Nat.le_of_ble_eq_true rfl) rfl ?_
  refine VJ.lload C 1 dL_rollHolds_14 rfl ?_
  refine VJ.lload C 0 dL_rollHolds_16 rfl ?_
  refine VJ.lce C (rfl) dL_rollHolds_18 ?_
  refine VJ.xif_ne_f C 36 (by decide) dL_rollHolds_19 (by decide) ?_
  refine VJ.aload_n C 2 dL_rollHolds_22 rfl ?_
  refine VJ.iload_n C 3 dL_rollHolds_23 rfl ?_
  refine VJ.a_owes CX hN hM2 L2 hz h7' hr hk ek' ho eo' (vx_cwSW 2 C.1.2.2.2.2 gL_rollHolds_L_owes rfl rfl rfl hy_L_owes ⟨Nat.le_of_ble_eq_true rfl, Nat.le_of_ble_eq_true rfl⟩) (Nat.le_of_ble_eq_true rfl) dL_rollHolds_24 ⟨Nat.le_of_ble_eq_true rfl, Nat.le_of_ble_eq_true rfl⟩ (fun M3 hM3 => ?_)
  refine VJ.lnv (y := (nI 0).toInt64) (by rw [cnt_none (q := dueq Rl R' d kd off r) P 0 (fun i _ hi => decide_eq_false (fun z => z (r24 i (by omega))))]) ?_
  refine VJ.lconst (v := (nI 0).toInt64) C dL_rollHolds_27 (by decide) ?_
  refine VJ.lce C (by decide) dL_rollHolds_28 ?_
  refine VJ.xif_ne_f C 36 (by decide) dL_rollHolds_29 (by decide) ?_
  refine VJ.iconst (v := nI 1) C dL_rollHolds_32 (by decide) ?_
  refine VJ.goto C 37 dL_rollHolds_33 (by decide) ?_
  refine VJ.istore C [(9, .int (nI 1)), (7, .long ((nI (cnt (dueq Rl R d kd off r) 0 P)).toInt64)), (5, .long ((nI (cnt (dueq Rl R d kd off r) 0 P)).toInt64)), (0, .ref ox), (1, .int (nI r)), (2, .int (nI kd)), (3, .int (nI off)), (4, .int (nI P))] dL_rollHolds_37 (Nat.le_of_ble_eq_true rfl) rfl ?_
  refine VJ.iconst (v := nI 0) C dL_rollHolds_39 (by decide) ?_
  refine VJ.istore C [(10, .int (nI 0)), (9, .int (nI 1)), (7, .long ((nI (cnt (dueq Rl R d kd off r) 0 P)).toInt64)), (5, .long ((nI (cnt (dueq Rl R d kd off r) 0 P)).toInt64)), (0, .ref ox), (1, .int (nI r)), (2, .int (nI kd)), (3, .int (nI off)), (4, .int (nI P))] dL_rollHolds_40 (Nat.le_of_ble_eq_true rfl) rfl ?_
  refine VJ.sub [0, 1, 4, 5, 6, 7, 8] rfl ?_
  refine rh_loop CX hN hz h7' hr hk ho L2 bP bd r24 ?_ P 0 _ _ _ (by omega) (show 0 + 8 + 8 + 8 + 40 * P ≤ 1100 by omega) (show 0 + 48 + 12400 + 48 + 240 * P ≤ 20000 by omega) hM3
  intro M9 cells slots hcl hsl hM9
  refine VJ.iload C 1 dL_rollHolds_199 rfl ?_
  exact VJ.zretN C rmL_rollHolds.cells rmL_rollHolds.slots rfl (fun _ h9 => h9) ⟨rfl, I', R', hM9, ic, rc⟩ hret hcl hsl dL_rollHolds_201
end LRh
