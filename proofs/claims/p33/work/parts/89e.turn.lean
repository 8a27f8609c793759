section LLu
set_option maxHeartbeats 8000000 in
set_option maxRecDepth 100000 in
theorem lw_case {p : Program} {l : Launch} {e : Env} {s : State} {m : MethodId} {args : Array Value} {below : List Frame} {meth : Method} {c : Code} {G : va_G} {cI cZ cQ cU cJ : ClassId} {A : Nat → Prop} {Qf : Unit → State → Prop} {cells slots b : Nat} {ox t n P d g kd kc kx vx vy sd : Nat} {I : OI} {R : RI} {M : va_W} (CX : CxX p l s m args meth c cL_law 23 wsL_law RL G vwCl (tys cI cZ cQ cU cJ) nws strs A) (hN : NC s) (hS : LSt cI cZ cQ cU t n P d g kd kc ox I R M) (bx : vx < 2147483648) (bv : vy < 2147483648) (hn60 : n < 60) (hg60 : g < 60) (hPn : P ≤ n) (hd0 : 10000 ≤ d) (hsd : sd ≤ d) (hR : cells + 300 ≤ room_1.cells ∧ slots + 3000 ≤ room_1.slots) {wh : Nat} (hw : wh < 13) (h3 : 3 ≤ wh → 3 ≤ P) (hkc : kc < 60) (kk : ∀ (M' : va_W) (I' : OI) (R' : RI) (t' n' P' d' g' : Nat), LSt cI cZ cQ cU t' n' P' d' g' kd (kc + 1) ox I' R' M' → t' ≤ t + 3 → n ≤ n' → n' ≤ n + 1 → P ≤ P' → P' ≤ n' → d ≤ d' → g' ≤ g + 1 → (P' = P + 1 ∨ 3 ≤ P') → VJ p l e room_1 s m args below meth c 23 G vwCl A Qf (cells + 300) (slots + 3000) (some ()) M' 1050 [(0, .ref b), (1, .ref ox), (2, .int (nI P')), (3, .int (nI n')), (4, .int (nI g')), (5, .int (nI 1)), (6, .int (nI kx)), (7, .int (nI vx)), (8, .int (nI vy))] []) : VJ p l e room_1 s m args below meth c 23 G vwCl A Qf cells slots (some ()) M 142 [(0, .ref b), (1, .ref ox), (2, .int (nI P)), (3, .int (nI n)), (4, .int (nI g)), (5, .int (nI 1)), (6, .int (nI kx)), (7, .int (nI vx)), (8, .int (nI vy)), (9, .int (nI d)), (10, .int (nI sd))] [.int (nI wh)] := by
  have C := CX.1
  have hM0 := hS.lw
  obtain ⟨bn, bP, bd, bg, e2, e4, e1, e5⟩ := hM0.iv
  have hR1 := hR.1
  have hR2 := hR.2
  refine VJ.istore C [(11, .int (nI wh)), (0, .ref b), (1, .ref ox), (2, .int (nI P)), (3, .int (nI n)), (4, .int (nI g)), (5, .int (nI 1)), (6, .int (nI kx)), (7, .int (nI vx)), (8, .int (nI vy)), (9, .int (nI d)), (10, .int (nI sd))] dL_law_142 (Nat.le_of_ble_eq_true rfl) rfl ?_
  refine VJ.ldc2 (v := -1) C (C.1.2.2.2.2 _ lwk_124) dL_law_144 ?_
  refine VJ.lnv (y := (-1 : Int32).toInt64) (by decide) ?_
  refine VJ.lstore C [(12, .long ((-1 : Int32).toInt64)), (11, .int (nI wh)), (0, .ref b), (1, .ref ox), (2, .int (nI P)), (3, .int (nI n)), (4, .int (nI g)), (5, .int (nI 1)), (6, .int (nI kx)), (7, .int (nI vx)), (8, .int (nI vy)), (9, .int (nI d)), (10, .int (nI sd))] dL_law_147 (Nat.le_of_ble_eq_true rfl) rfl ?_
  refine VJ.iload C 1 dL_law_149 rfl ?_
  refine VJ.iconst (v := nI 3) C dL_law_151 (by decide) ?_
  by_cases w0 : wh < 3
  · refine VJ.xicmp_ge_f C 325 (fun z => by have := (n_le (a := 3) (by omega) (by omega)).mp z; omega) dL_law_152 (by decide) ?_
    refine VJ.sub [2, 3, 4, 5, 6, 7, 8, 9, 10, 11, 12] rfl ?_
    exact lw_birth CX hN hS bx bv hn60 hg60 hPn hd0 hsd hR kk
  · refine VJ.xicmp_ge_t C 325 ((n_le (a := 3) (by omega) (by omega)).mpr (by omega)) dL_law_152 (by decide) ?_
    refine VJ.iload C 1 dL_law_325 rfl ?_
    refine VJ.iconst (v := nI 3) C dL_law_327 (by decide) ?_
    by_cases w1 : wh = 3
    · refine VJ.xicmp_ne_f C 368 (by rw [w1]) dL_law_328 (by decide) ?_
      refine VJ.sub [2, 3, 4, 5, 6, 7, 8, 9, 10, 11, 12] rfl ?_
      exact lw_move CX hN hS bx bv hn60 hg60 hPn hd0 hsd hR (h3 (by omega)) kk
    · refine VJ.xicmp_ne_t C 368 (fun z => w1 ((n_eq (b := 3) (by omega) (by omega)).mp z)) dL_law_328 (by decide) ?_
      refine VJ.iload C 1 dL_law_368 rfl ?_
      refine VJ.iconst (v := nI 4) C dL_law_370 (by decide) ?_
      by_cases w2 : wh = 4
      · refine VJ.xicmp_ne_f C 410 (by rw [w2]) dL_law_371 (by decide) ?_
        refine VJ.sub [2, 3, 4, 5, 6, 7, 8, 9, 10, 11, 12] rfl ?_
        exact lw_naming CX hN hS bx bv hn60 hg60 hPn hd0 hsd hR (h3 (by omega)) kk
      · refine VJ.xicmp_ne_t C 410 (fun z => w2 ((n_eq (b := 4) (by omega) (by omega)).mp z)) dL_law_371 (by decide) ?_
        refine VJ.iload C 1 dL_law_410 rfl ?_
        refine VJ.bipush (v := nI 8) C dL_law_412 (by decide) ?_
        by_cases w3 : wh < 8
        · refine VJ.xicmp_ge_f C 523 (fun z => by have := (n_le (a := 8) (by omega) (by omega)).mp z; omega) dL_law_414 (by decide) ?_
          refine VJ.sub [2, 3, 4, 5, 6, 7, 8, 9, 10, 11, 12, 1] rfl ?_
          have wz : wh = 5 ∨ wh = 6 ∨ wh = 7 := by omega
          rcases wz with rfl | rfl | rfl
          · exact lw_tie5 CX hN hS bx bv hn60 hg60 hPn hd0 hsd hR (h3 (by omega)) kk
          · exact lw_tie6 CX hN hS bx bv hn60 hg60 hPn hd0 hsd hR (h3 (by omega)) kk
          · exact lw_tie7 CX hN hS bx bv hn60 hg60 hPn hd0 hsd hR (h3 (by omega)) kk
        · refine VJ.xicmp_ge_t C 523 ((n_le (a := 8) (by omega) (by omega)).mpr (by omega)) dL_law_414 (by decide) ?_
          refine VJ.iload C 1 dL_law_523 rfl ?_
          refine VJ.bipush (v := nI 8) C dL_law_525 (by decide) ?_
          by_cases w4 : wh = 8
          · refine VJ.xicmp_ne_f C 559 (by rw [w4]) dL_law_527 (by decide) ?_
            refine VJ.sub [2, 3, 4, 5, 6, 7, 8, 9, 10, 11, 12] rfl ?_
            exact lw_death CX hN hS bx bv hn60 hg60 hPn hd0 hsd hR (h3 (by omega)) kk
          · refine VJ.xicmp_ne_t C 559 (fun z => w4 ((n_eq (b := 8) (by omega) (by omega)).mp z)) dL_law_527 (by decide) ?_
            refine VJ.iload C 1 dL_law_559 rfl ?_
            refine VJ.bipush (v := nI 9) C dL_law_561 (by decide) ?_
            by_cases w5 : wh = 9
            · refine VJ.xicmp_ne_f C 675 (by rw [w5]) dL_law_563 (by decide) ?_
              refine VJ.sub [2, 3, 4, 5, 6, 7, 8, 9, 10, 11, 12] rfl ?_
              exact lw_join CX hN hS bx bv hn60 hg60 hPn hd0 hsd hR (h3 (by omega)) kk
            · refine VJ.xicmp_ne_t C 675 (fun z => w5 ((n_eq (b := 9) (by omega) (by omega)).mp z)) dL_law_563 (by decide) ?_
              refine VJ.iload C 1 dL_law_675 rfl ?_
              refine VJ.bipush (v := nI 10) C dL_law_677 (by decide) ?_
              by_cases w6 : wh = 10
              · refine VJ.xicmp_ne_f C 787 (by rw [w6]) dL_law_679 (by decide) ?_
                refine VJ.sub [2, 3, 4, 5, 6, 7, 8, 9, 10, 11, 12] rfl ?_
                exact lw_strike CX hN hS bx bv hn60 hg60 hPn hd0 hsd hR (h3 (by omega)) kk
              · refine VJ.xicmp_ne_t C 787 (fun z => w6 ((n_eq (b := 10) (by omega) (by omega)).mp z)) dL_law_679 (by decide) ?_
                refine VJ.iload C 1 dL_law_787 rfl ?_
                refine VJ.bipush (v := nI 11) C dL_law_789 (by decide) ?_
                by_cases w7 : wh = 11
                · refine VJ.xicmp_ne_f C 854 (by rw [w7]) dL_law_791 (by decide) ?_
                  refine VJ.sub [2, 3, 4, 5, 6, 7, 8, 9, 10, 11, 12] rfl ?_
                  exact lw_pass CX hN hS bx bv hn60 hg60 hPn hd0 hsd hR (h3 (by omega)) kk
                · refine VJ.xicmp_ne_t C 854 (fun z => w7 ((n_eq (b := 11) (by omega) (by omega)).mp z)) dL_law_791 (by decide) ?_
                  refine VJ.sub [2, 3, 4, 5, 6, 7, 8, 9, 10, 11, 12] rfl ?_
                  exact lw_lookcase CX hN hS bx bv hn60 hg60 hPn hd0 hsd hR (h3 (by omega)) hkc kk
set_option maxHeartbeats 8000000 in
set_option maxRecDepth 100000 in
theorem lw_turn {p : Program} {l : Launch} {e : Env} {s : State} {m : MethodId} {args : Array Value} {below : List Frame} {meth : Method} {c : Code} {G : va_G} {cI cZ cQ cU cJ : ClassId} {A : Nat → Prop} {Qf : Unit → State → Prop} {cells slots b : Nat} {ox t n P d g kd kc kx vx vy : Nat} {I : OI} {R : RI} {M : va_W} (CX : CxX p l s m args meth c cL_law 23 wsL_law RL G vwCl (tys cI cZ cQ cU cJ) nws strs A) (hN : NC s) (hS : LSt cI cZ cQ cU t n P d g kd kc ox I R M) (bx : vx < 2147483648) (bv : vy < 2147483648) (hn60 : n < 60) (hg60 : g < 60) (hPn : P ≤ n) (hkx : kx < 56) (hP3 : 3 ≤ kx → 3 ≤ P) (hkc : kc < 60) (hd0 : 10000 ≤ d) (hR : cells + 300 ≤ room_1.cells ∧ slots + 3000 ≤ room_1.slots)  (kk : ∀ (M' : va_W) (I' : OI) (R' : RI) (t' n' P' d' g' : Nat), LSt cI cZ cQ cU t' n' P' d' g' kd (kc + 1) ox I' R' M' → t' ≤ t + 3 → n ≤ n' → n' ≤ n + 1 → P ≤ P' → P' ≤ n' → d ≤ d' → g' ≤ g + 1 → (P' = P + 1 ∨ 3 ≤ P') → VJ p l e room_1 s m args below meth c 23 G vwCl A Qf (cells + 300) (slots + 3000) (some ()) M' 1050 [(0, .ref b), (1, .ref ox), (2, .int (nI P')), (3, .int (nI n')), (4, .int (nI g')), (5, .int (nI 1)), (6, .int (nI kx)), (7, .int (nI vx)), (8, .int (nI vy))] []) : VJ p l e room_1 s m args below meth c 23 G vwCl A Qf cells slots (some ()) M 89 [(0, .ref b), (1, .ref ox), (2, .int (nI P)), (3, .int (nI n)), (4, .int (nI g)), (5, .int (nI 1)), (6, .int (nI kx)), (7, .int (nI vx)), (8, .int (nI vy))] [] := by
  have C := CX.1
  have hM0 := hS.lw
  obtain ⟨bn, bP, bd, bg, e2, e4, e1, e5⟩ := hM0.iv
  have hR1 := hR.1
  have hR2 := hR.2
  refine VJ.aload_n C 1 dL_law_89 rfl ?_
  refine VJ.a_day CX hN hM0 (cwV 0 C.1.2.2.2.2 gL_law_X5_day rfl rfl rfl hyV_X5_day ⟨Nat.le_of_ble_eq_true rfl, Nat.le_of_ble_eq_true rfl⟩) (Nat.le_of_ble_eq_true rfl) dL_law_90 ⟨by omega, by omega⟩ (fun M1 hM1 => ?_)
  refine VJ.istore C [(9, .int (nI d)), (0, .ref b), (1, .ref ox), (2, .int (nI P)), (3, .int (nI n)), (4, .int (nI g)), (5, .int (nI 1)), (6, .int (nI kx)), (7, .int (nI vx)), (8, .int (nI vy))] dL_law_93 (Nat.le_of_ble_eq_true rfl) rfl ?_
  refine VJ.iload C 8 dL_law_95 rfl ?_
  refine VJ.bipush (v := nI 16) C dL_law_97 (by decide) ?_
  refine VJ.idiv C dL_law_99 (nz (by omega) (by omega)) ?_
  refine VJ.iv (y := nI (vx / 16)) (nI_div (by omega) (by omega)) ?_
  refine VJ.iconst (v := nI 3) C dL_law_100 (by decide) ?_
  refine VJ.irem C dL_law_101 (nz (by omega) (by omega)) ?_
  refine VJ.iv (y := nI ((vx / 16) % 3)) (nI_mod (by omega) (by omega)) ?_
  have hS1 := hS.with hM1
  have K : ∀ sd : Nat, sd ≤ d → VJ p l e room_1 s m args below meth c 23 G vwCl A Qf cells slots (some ()) M1 125 [(9, .int (nI d)), (0, .ref b), (1, .ref ox), (2, .int (nI P)), (3, .int (nI n)), (4, .int (nI g)), (5, .int (nI 1)), (6, .int (nI kx)), (7, .int (nI vx)), (8, .int (nI vy))] [.int (nI sd)] := by
    intro sd hsd
    refine VJ.istore C [(10, .int (nI sd)), (9, .int (nI d)), (0, .ref b), (1, .ref ox), (2, .int (nI P)), (3, .int (nI n)), (4, .int (nI g)), (5, .int (nI 1)), (6, .int (nI kx)), (7, .int (nI vx)), (8, .int (nI vy))] dL_law_125 (Nat.le_of_ble_eq_true rfl) rfl ?_
    refine VJ.iload C 8 dL_law_127 rfl ?_
    refine VJ.iconst (v := nI 3) C dL_law_129 (by decide) ?_
    refine VJ.sub [2, 3, 4, 5, 6, 7, 8, 9, 10, 1, 0] rfl ?_
    by_cases h3 : kx < 3
    · refine VJ.xicmp_ge_f C 137 (fun z => by have := (n_le (a := 3) (by omega) (by omega)).mp z; omega) dL_law_130 (by decide) ?_
      refine VJ.iconst (v := nI 0) C dL_law_133 (by decide) ?_
      refine VJ.goto C 142 dL_law_134 (by decide) ?_
      exact lw_case CX hN hS1 bx bv hn60 hg60 hPn hd0 hsd hR (wh := 0) (by omega) (by omega) hkc kk
    · refine VJ.xicmp_ge_t C 137 ((n_le (a := 3) (by omega) (by omega)).mpr (by omega)) dL_law_130 (by decide) ?_
      refine VJ.iload C 7 dL_law_137 rfl ?_
      refine VJ.bipush (v := nI 13) C dL_law_139 (by decide) ?_
      refine VJ.irem C dL_law_141 (nz (by omega) (by omega)) ?_
      refine VJ.iv (y := nI (vx % 13)) (nI_mod (by omega) (by omega)) ?_
      exact lw_case CX hN hS1 bx bv hn60 hg60 hPn hd0 hsd hR (wh := vx % 13) (by omega) (fun _ => hP3 (by omega)) hkc kk
  by_cases hb : vx / 16 % 3 = 0
  · refine VJ.xif_ne_f C 115 (by rw [hb]; decide) dL_law_102 (by decide) ?_
    refine VJ.iload C 0 dL_law_105 rfl ?_
    refine VJ.iload C 9 dL_law_107 rfl ?_
    refine VJ.iconst (v := nI 3) C dL_law_109 (by decide) ?_
    refine VJ.irem C dL_law_110 (nz (by omega) (by omega)) ?_
    refine VJ.iv (y := nI (vy % 3)) (nI_mod (by omega) (by omega)) ?_
    refine VJ.isub C dL_law_111 ?_
    refine VJ.iv (y := nI (d - (vy % 3))) (nI_sb (by omega)) ?_
    refine VJ.goto C 125 dL_law_112 (by decide) ?_
    exact K _ (by omega)
  · refine VJ.xif_ne_t C 115 (nz (by omega) (by omega)) dL_law_102 (by decide) ?_
    refine VJ.iload C 8 dL_law_115 rfl ?_
    refine VJ.bipush (v := nI 64) C dL_law_117 (by decide) ?_
    refine VJ.idiv C dL_law_119 (nz (by omega) (by omega)) ?_
    refine VJ.iv (y := nI (vx / 64)) (nI_div (by omega) (by omega)) ?_
    refine VJ.iload C 0 dL_law_120 rfl ?_
    refine VJ.iconst (v := nI 1) C dL_law_122 (by decide) ?_
    refine VJ.iadd C dL_law_123 ?_
    refine VJ.iv (y := nI (d + 1)) nI_ad ?_
    refine VJ.irem C dL_law_124 (nz (by omega) (by omega)) ?_
    refine VJ.iv (y := nI ((vx / 64) % (d + 1))) (nI_mod (by omega) (by omega)) ?_
    exact K _ (Nat.le_of_lt_succ (Nat.mod_lt _ (by omega)))
end LLu
