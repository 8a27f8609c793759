section LLo
theorem lp_c {a r j : Nat} (h : a + 4000 * (j + 1) ≤ r) : a + 300 ≤ r ∧ a + 300 + 3532 ≤ r ∧ a + 300 + 3532 + 4000 * j ≤ r := by omega
theorem lp_s {a r j : Nat} (h : a + 70000 * (j + 1) ≤ r) : a + 3000 ≤ r ∧ a + 3000 + 61592 ≤ r ∧ a + 3000 + 61592 + 70000 * j ≤ r := by omega
set_option maxHeartbeats 8000000 in
set_option maxRecDepth 100000 in
theorem lw_loop {p : Program} {l : Launch} {e : Env} {s : State} {m : MethodId} {args : Array Value} {below : List Frame} {meth : Method} {c : Code} {G : va_G} {cI cZ cQ cU cJ : ClassId} {A : Nat → Prop} {Qf : Unit → State → Prop} {b L : Nat} {xs : Nat → Int32} {ox kd : Nat} (CX : CxX p l s m args meth c cL_law 23 wsL_law RL G vwCl (tys cI cZ cQ cU cJ) nws strs A) (hN : NC s) (hL : L < 2147483648) (hX : va_X b L xs s s.heap) (hbl : b < s.heap.size) (hbA : ¬ A b) (hkd : kd = drw L xs 0 % 3)
    (kend : ∀ (M : va_W) (cells slots : Nat), cells ≤ room_1.cells → slots ≤ room_1.slots → VJ p l e room_1 s m args below meth c 23 G vwCl A Qf cells slots (some ()) M 1315 [(5, .int (nI 1))] []) :
    ∀ (j kx t n P d g cells slots : Nat) (I : OI) (R : RI) (M : va_W), kx + j = 56 → LSt cI cZ cQ cU t n P d g kd kx ox I R M → n ≤ kx → g ≤ kx → P ≤ n → (P = kx ∨ 3 ≤ P) → 10000 ≤ d → t ≤ 2 + 5 * kx + 10 * (kx / 28) → cells + 4000 * j ≤ room_1.cells → slots + 70000 * j ≤ room_1.slots → VJ p l e room_1 s m args below meth c 23 G vwCl A Qf cells slots (some ()) M 53 [(0, .ref b), (1, .ref ox), (2, .int (nI P)), (3, .int (nI n)), (4, .int (nI g)), (5, .int (nI 1)), (6, .int (nI kx))] [] := by
  intro j
  induction j with
  | zero =>
    intro kx t n P d g cells slots I R M hj hS hn hg hPn hPk hd0 ht hc hs
    have C := CX.1
    refine VJ.iload C 6 dL_law_53 rfl ?_
    refine VJ.bipush (v := nI 56) C dL_law_55 (by decide) ?_
    refine VJ.xicmp_ge_t C 1315 ((n_le (a := 56) (by omega) (by omega)).mpr (by omega)) dL_law_57 (by decide) ?_
    refine VJ.sub [5] rfl ?_
    exact kend M cells slots (by omega) (by omega)
  | succ j ih =>
    intro kx t n P d g cells slots I R M hj hS hn hg hPn hPk hd0 ht hc hs
    have C := CX.1
    have hM0 := hS.lw
    have hR1 : cells ≤ room_1.cells := Nat.le_trans (Nat.le_add_right _ _) hc
    have hR2 : slots ≤ room_1.slots := Nat.le_trans (Nat.le_add_right _ _) hs
    obtain ⟨hU1, hT1, hV1⟩ := lp_c hc
    obtain ⟨hU2, hT2, hV2⟩ := lp_s hs
    clear hc hs
    have hX1 := drw_lt L xs (2 * kx + 1)
    have hX2 := drw_lt L xs (2 * kx + 2)
    refine VJ.iload C 6 dL_law_53 rfl ?_
    refine VJ.bipush (v := nI 56) C dL_law_55 (by decide) ?_
    refine VJ.xicmp_ge_f C 1315 (fun z => by have := (n_le (a := 56) (by omega) (by omega)).mp z; omega) dL_law_57 (by decide) ?_
    refine VJ.iload C 5 dL_law_60 rfl ?_
    refine VJ.xif_eq_f C 1315 (by decide) dL_law_62 (by decide) ?_
    refine VJ.aload_n C 0 dL_law_65 rfl ?_
    refine VJ.iconst (v := nI 2) C dL_law_66 (by decide) ?_
    refine VJ.iload C 6 dL_law_67 rfl ?_
    refine VJ.imul C dL_law_69 ?_
    refine VJ.iv (y := nI (2 * kx)) nI_mul ?_
    refine VJ.iconst (v := nI 1) C dL_law_70 (by decide) ?_
    refine VJ.iadd C dL_law_71 ?_
    refine VJ.iv (y := nI ((2 * kx) + 1)) nI_ad ?_
    refine VJ.a_draw C hX hbl hbA hL (by omega) (va_cwS 2 C.1.2.2.2.2 gL_law_L_draw rfl rfl rfl hy_L_draw ⟨Nat.le_of_ble_eq_true rfl, Nat.le_of_ble_eq_true rfl⟩) (Nat.le_of_ble_eq_true rfl) dL_law_72 ⟨by omega, by omega⟩ ?_
    refine VJ.istore C [(7, .int (nI (drw L xs (2 * kx + 1)))), (0, .ref b), (1, .ref ox), (2, .int (nI P)), (3, .int (nI n)), (4, .int (nI g)), (5, .int (nI 1)), (6, .int (nI kx))] dL_law_75 (Nat.le_of_ble_eq_true rfl) rfl ?_
    refine VJ.aload_n C 1 dL_law_77 rfl ?_
    refine VJ.iconst (v := nI 2) C dL_law_78 (by decide) ?_
    refine VJ.iload C 7 dL_law_79 rfl ?_
    refine VJ.imul C dL_law_81 ?_
    refine VJ.iv (y := nI (2 * kx)) nI_mul ?_
    refine VJ.iconst (v := nI 2) C dL_law_82 (by decide) ?_
    refine VJ.iadd C dL_law_83 ?_
    refine VJ.iv (y := nI ((2 * kx) + 2)) nI_ad ?_
    refine VJ.a_draw C hX hbl hbA hL (by omega) (va_cwS 2 C.1.2.2.2.2 gL_law_L_draw rfl rfl rfl hy_L_draw ⟨Nat.le_of_ble_eq_true rfl, Nat.le_of_ble_eq_true rfl⟩) (Nat.le_of_ble_eq_true rfl) dL_law_84 ⟨by omega, by omega⟩ ?_
    refine VJ.istore C [(8, .int (nI (drw L xs (2 * kx + 2)))), (7, .int (nI (drw L xs (2 * kx + 1)))), (0, .ref b), (1, .ref ox), (2, .int (nI P)), (3, .int (nI n)), (4, .int (nI g)), (5, .int (nI 1)), (6, .int (nI kx))] dL_law_87 (Nat.le_of_ble_eq_true rfl) rfl ?_
    refine VJ.sub [2, 3, 4, 5, 6, 7, 8, 1, 0] rfl ?_
    generalize drw L xs (2 * kx + 1) = vx at hX1 ⊢
    generalize drw L xs (2 * kx + 2) = vy at hX2 ⊢
    refine lw_turn CX hN hS hX1 hX2 (by omega) (by omega) hPn (by omega) (by omega) (by omega) hd0 ⟨hU1, hU2⟩ (fun M1 I1 R1 t1 n1 P1 d1 g1 hS1 c1 c2 c3 c4 c5 c6 c7 c8 => ?_)
    refine lw_tail CX hN hL hX hbl hbA hS1 hX2 hX1 (by omega) (by omega) (by omega) c5 (by omega) (by omega) ⟨hT1, hT2⟩ hkd (fun M2 I2 R2 t2 hS2 b2 => ?_)
    exact ih (kx + 1) t2 n1 P1 d1 g1 _ _ I2 R2 M2 (by omega) hS2 (by omega) (by omega) c5 (by omega) (by omega) (by omega) hV1 hV2
end LLo
