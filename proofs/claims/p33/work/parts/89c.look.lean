section LLk
set_option maxHeartbeats 8000000 in
set_option maxRecDepth 100000 in
theorem lw_look {p : Program} {l : Launch} {e : Env} {s : State} {m : MethodId} {args : Array Value} {below : List Frame} {meth : Method} {c : Code} {G : va_G} {cI cZ cQ cU cJ : ClassId} {A : Nat → Prop} {Qf : Unit → State → Prop} {cells slots b : Nat} {ox t n P d g kd kc kx vx vy sd : Nat} {I : OI} {R : RI} {M : va_W} (CX : CxX p l s m args meth c cL_law 23 wsL_law RL G vwCl (tys cI cZ cQ cU cJ) nws strs A) (hN : NC s) (hS : LSt cI cZ cQ cU t n P d g kd kc ox I R M) (bx : vx < 2147483648) (bv : vy < 2147483648) (hn60 : n < 60) (hg60 : g < 60) (hPn : P ≤ n) (hd0 : 10000 ≤ d) (hsd : sd ≤ d) (hR : cells + 100 ≤ room_1.cells ∧ slots + 1000 ≤ room_1.slots) (h3 : 3 ≤ P) (hkc : kc < 60) (kl : ∀ (M' : va_W) (I' : OI) (R' : RI), LSt cI cZ cQ cU (t + 2) n P d g kd (kc + 1) ox I' R' M' → VJ p l e room_1 s m args below meth c 23 G vwCl A Qf (cells + 100) (slots + 1000) (some ()) M' 953 [(0, .ref b), (1, .ref ox), (2, .int (nI P)), (3, .int (nI n)), (4, .int (nI g)), (5, .int (nI 1)), (6, .int (nI kx)), (7, .int (nI vx)), (8, .int (nI vy)), (9, .int (nI d)), (10, .int (nI sd)), (14, .int (nI (vy % P)))] []) : VJ p l e room_1 s m args below meth c 23 G vwCl A Qf cells slots (some ()) M 854 [(0, .ref b), (1, .ref ox), (2, .int (nI P)), (3, .int (nI n)), (4, .int (nI g)), (5, .int (nI 1)), (6, .int (nI kx)), (7, .int (nI vx)), (8, .int (nI vy)), (9, .int (nI d)), (10, .int (nI sd))] [] := by
  have C := CX.1
  have hM0 := hS.lw
  obtain ⟨bn, bP, bd, bg, e2, e4, e1, e5⟩ := hM0.iv
  have hR1 := hR.1
  have hR2 := hR.2
  have hq : vy % P < P := Nat.mod_lt _ (by omega)
  obtain ⟨Rl, lo, L, -⟩ := hM0.land hS.nx (s := d) (by omega) d
  obtain ⟨z0, hz0, ez0⟩ := hS.lk (vy % P) (by omega)
  refine VJ.iload C 8 dL_law_854 rfl ?_
  refine VJ.iload_n C 2 dL_law_856 rfl ?_
  refine VJ.irem C dL_law_857 (nz (by omega) (by omega)) ?_
  refine VJ.iv (y := nI (vy % P)) (nI_mod (by omega) (by omega)) ?_
  refine VJ.istore C [(14, .int (nI (vy % P))), (0, .ref b), (1, .ref ox), (2, .int (nI P)), (3, .int (nI n)), (4, .int (nI g)), (5, .int (nI 1)), (6, .int (nI kx)), (7, .int (nI vx)), (8, .int (nI vy)), (9, .int (nI d)), (10, .int (nI sd))] dL_law_858 (Nat.le_of_ble_eq_true rfl) rfl ?_
  refine VJ.aload_n C 2 dL_law_860 rfl ?_
  refine VJ.iload C 0 dL_law_861 rfl ?_
  refine VJ.a_looks CX hN hM0 hq (vx_cwSW 2 C.1.2.2.2.2 gL_law_L_looks rfl rfl rfl hy_L_looks ⟨Nat.le_of_ble_eq_true rfl, Nat.le_of_ble_eq_true rfl⟩) (Nat.le_of_ble_eq_true rfl) dL_law_863 ⟨by omega, by omega⟩ (fun M1 hM1 => ?_)
  refine VJ.lnv (y := (nI z0).toInt64) (by rw [ez0]) ?_
  refine VJ.lstore C [(15, .long ((nI z0).toInt64)), (14, .int (nI (vy % P))), (0, .ref b), (1, .ref ox), (2, .int (nI P)), (3, .int (nI n)), (4, .int (nI g)), (5, .int (nI 1)), (6, .int (nI kx)), (7, .int (nI vx)), (8, .int (nI vy)), (9, .int (nI d)), (10, .int (nI sd))] dL_law_866 (Nat.le_of_ble_eq_true rfl) rfl ?_
  refine VJ.aload_n C 3 dL_law_868 rfl ?_
  refine VJ.iload C 10 dL_law_869 rfl ?_
  refine VJ.bipush (v := nI 32) C dL_law_871 (by decide) ?_
  refine VJ.idiv C dL_law_873 (nz (by omega) (by omega)) ?_
  refine VJ.iv (y := nI (vy / 32)) (nI_div (by omega) (by omega)) ?_
  refine VJ.iconst (v := nI 4) C dL_law_874 (by decide) ?_
  refine VJ.irem C dL_law_875 (nz (by omega) (by omega)) ?_
  refine VJ.iv (y := nI ((vy / 32) % 4)) (nI_mod (by omega) (by omega)) ?_
  refine VJ.iload C 1 dL_law_876 rfl ?_
  refine VJ.a_look2 CX hN hM1 L (by omega) hq (vx_cwSW 3 C.1.2.2.2.2 gL_law_L_look rfl rfl rfl hy_L_look ⟨Nat.le_of_ble_eq_true rfl, Nat.le_of_ble_eq_true rfl⟩) (Nat.le_of_ble_eq_true rfl) dL_law_878 ⟨by omega, by omega⟩ (fun M2 I1 R1 v hM2 hv r28 ic rc => ?_)
  refine VJ.lstore C [(17, .long v.toInt64), (15, .long ((nI z0).toInt64)), (14, .int (nI (vy % P))), (0, .ref b), (1, .ref ox), (2, .int (nI P)), (3, .int (nI n)), (4, .int (nI g)), (5, .int (nI 1)), (6, .int (nI kx)), (7, .int (nI vx)), (8, .int (nI vy)), (9, .int (nI d)), (10, .int (nI sd))] dL_law_881 (Nat.le_of_ble_eq_true rfl) rfl ?_
  refine VJ.aload_n C 4 dL_law_883 rfl ?_
  refine VJ.iload C 2 dL_law_884 rfl ?_
  refine VJ.iload C 11 dL_law_886 rfl ?_
  refine VJ.sipush (v := nI 128) C dL_law_888 (by decide) ?_
  refine VJ.idiv C dL_law_891 (nz (by omega) (by omega)) ?_
  refine VJ.iv (y := nI (vy / 128)) (nI_div (by omega) (by omega)) ?_
  refine VJ.iconst (v := nI 2) C dL_law_892 (by decide) ?_
  refine VJ.irem C dL_law_893 (nz (by omega) (by omega)) ?_
  refine VJ.iv (y := nI ((vy / 128) % 2)) (nI_mod (by omega) (by omega)) ?_
  have K : ∀ x2 : Int32, x2 = 0 ∨ x2 = 1 → VJ p l e room_1 s m args below meth c 23 G vwCl A Qf (cells + 8 + 8) (slots + 48 + 48) (some ()) M2 902 [(17, .long v.toInt64), (15, .long ((nI z0).toInt64)), (14, .int (nI (vy % P))), (0, .ref b), (1, .ref ox), (2, .int (nI P)), (3, .int (nI n)), (4, .int (nI g)), (5, .int (nI 1)), (6, .int (nI kx)), (7, .int (nI vx)), (8, .int (nI vy)), (9, .int (nI d)), (10, .int (nI sd))] [.int x2, .int (nI (vy % P)), .ref ox] := by
    intro x2 hx2
    refine VJ.a_bar CX hN hM2 hx2 hq (vx_cwSW 3 C.1.2.2.2.2 gL_law_L_bar rfl rfl rfl hy_L_bar ⟨Nat.le_of_ble_eq_true rfl, Nat.le_of_ble_eq_true rfl⟩) (Nat.le_of_ble_eq_true rfl) dL_law_902 ⟨by omega, by omega⟩ (fun M3 I2 R2 L9 hM3 hL9 ic2 rc2 => ?_)
    have e28 : R2 28 = upd (R 28) (vy % P) (R 28 (vy % P) + 1) := by rw [rc2 28 (by omega), r28]
    have hS2 := hS.looked hM3 ((ic2 7 (by omega)).trans (ic 7 (by omega))) (by rw [rc2 0 (by omega), rc 0 (by omega) (by omega)]) (by rw [rc2 6 (by omega), rc 6 (by omega) (by omega)]) (by rw [rc2 22 (by omega), rc 22 (by omega) (by omega)]) (by rw [rc2 23 (by omega), rc 23 (by omega) (by omega)]) e28
    have L2 := hM0.mv L (I2 := I2) (R2 := R2) ((ic2 2 (by omega)).trans (ic 2 (by omega))) ((ic2 3 (by omega)).trans (ic 3 (by omega))) ((ic2 4 (by omega)).trans (ic 4 (by omega))) (fun c hc => by rw [rc2 c (by omega), rc c (by omega) (by omega)])
    refine VJ.lconst (v := (nI 0).toInt64) C dL_law_905 (by decide) ?_
    refine VJ.lcmp C dL_law_906 ?_
    refine VJ.xif_lt_f C 950 (bar_nn hL9) dL_law_907 (by decide) ?_
    refine VJ.aload_n C 4 dL_law_910 rfl ?_
    refine VJ.iload C 2 dL_law_911 rfl ?_
    refine VJ.a_looks CX hN hM3 hq (vx_cwSW 2 C.1.2.2.2.2 gL_law_L_looks rfl rfl rfl hy_L_looks ⟨Nat.le_of_ble_eq_true rfl, Nat.le_of_ble_eq_true rfl⟩) (Nat.le_of_ble_eq_true rfl) dL_law_913 ⟨by omega, by omega⟩ (fun M4 hM4 => ?_)
    refine VJ.lnv (y := (nI (z0 + 1)).toInt64) (by rw [e28, upd_same, ez0, nI_s1]) ?_
    refine VJ.lload C 1 dL_law_916 rfl ?_
    refine VJ.lconst (v := (nI 1).toInt64) C dL_law_918 (by decide) ?_
    refine VJ.ladd C dL_law_919 ?_
    refine VJ.lnv (y := (nI (z0 + 1)).toInt64) (nl_add (by omega)) ?_
    refine VJ.lce C (rfl) dL_law_920 ?_
    refine VJ.xif_ne_f C 950 (by decide) dL_law_921 (by decide) ?_
    refine VJ.lload C 0 dL_law_924 rfl ?_
    refine VJ.ldc2 (v := -2) C (C.1.2.2.2.2 _ lwk_205) dL_law_926 ?_
    refine VJ.lnv (y := (-2 : Int32).toInt64) (by decide) ?_
    refine VJ.lcmp C dL_law_929 ?_
    by_cases hv2 : v = -2
    · refine VJ.xif_eq_t C 946 (lcmp_e (congrArg Int32.toInt64 hv2)) dL_law_930 (by decide) ?_
      refine VJ.iconst (v := nI 1) C dL_law_946 (by decide) ?_
      refine VJ.goto C 951 dL_law_947 (by decide) ?_
      refine VJ.istore C [(5, .int (nI 1)), (17, .long v.toInt64), (15, .long ((nI z0).toInt64)), (14, .int (nI (vy % P))), (0, .ref b), (1, .ref ox), (2, .int (nI P)), (3, .int (nI n)), (4, .int (nI g)), (6, .int (nI kx)), (7, .int (nI vx)), (8, .int (nI vy)), (9, .int (nI d)), (10, .int (nI sd))] dL_law_951 (Nat.le_of_ble_eq_true rfl) rfl ?_
      refine VJ.sub [4, 5, 6, 7, 8, 0, 9, 10, 11, 12, 13, 3] rfl ?_
      exact VJ.widen (by omega) (by omega) (kl _ _ _ (hS2.with hM4))
    · refine VJ.xif_eq_f C 946 (lc_ne hv2) dL_law_930 (by decide) ?_
      refine VJ.lload C 0 dL_law_933 rfl ?_
      refine VJ.aload_n C 4 dL_law_935 rfl ?_
      refine VJ.iload C 2 dL_law_936 rfl ?_
      refine VJ.iconst (v := nI 1) C dL_law_938 (by decide) ?_
      refine VJ.a_now (w := 1) CX hN hM4 L2 hq (by omega) (vx_cwSW 3 C.1.2.2.2.2 gL_law_L_now rfl rfl rfl hy_L_now ⟨Nat.le_of_ble_eq_true rfl, Nat.le_of_ble_eq_true rfl⟩) (Nat.le_of_ble_eq_true rfl) dL_law_939 ⟨by omega, by omega⟩ (fun M5 hM5 => ?_)
      refine VJ.lce C (congrArg Int32.toInt64 (hv.resolve_left hv2)) dL_law_942 ?_
      refine VJ.xif_ne_f C 950 (by decide) dL_law_943 (by decide) ?_
      refine VJ.iconst (v := nI 1) C dL_law_946 (by decide) ?_
      refine VJ.goto C 951 dL_law_947 (by decide) ?_
      refine VJ.istore C [(5, .int (nI 1)), (17, .long v.toInt64), (15, .long ((nI z0).toInt64)), (14, .int (nI (vy % P))), (0, .ref b), (1, .ref ox), (2, .int (nI P)), (3, .int (nI n)), (4, .int (nI g)), (6, .int (nI kx)), (7, .int (nI vx)), (8, .int (nI vy)), (9, .int (nI d)), (10, .int (nI sd))] dL_law_951 (Nat.le_of_ble_eq_true rfl) rfl ?_
      refine VJ.sub [4, 5, 6, 7, 8, 0, 9, 10, 11, 12, 13, 3] rfl ?_
      exact VJ.widen (by omega) (by omega) (kl _ _ _ (hS2.with hM5))
  by_cases hb : vy / 128 % 2 = 0
  · refine VJ.xif_ne_f C 901 (by rw [hb]; decide) dL_law_894 (by decide) ?_
    refine VJ.iconst (v := nI 1) C dL_law_897 (by decide) ?_
    refine VJ.goto C 902 dL_law_898 (by decide) ?_
    exact K _ (Or.inr rfl)
  · refine VJ.xif_ne_t C 901 (nz (by omega) (by omega)) dL_law_894 (by decide) ?_
    refine VJ.iconst (v := nI 0) C dL_law_901 (by decide) ?_
    exact K _ (Or.inl rfl)
set_option maxHeartbeats 8000000 in
set_option maxRecDepth 100000 in
theorem lw_lookcase {p : Program} {l : Launch} {e : Env} {s : State} {m : MethodId} {args : Array Value} {below : List Frame} {meth : Method} {c : Code} {G : va_G} {cI cZ cQ cU cJ : ClassId} {A : Nat → Prop} {Qf : Unit → State → Prop} {cells slots b : Nat} {ox t n P d g kd kc kx vx vy sd : Nat} {I : OI} {R : RI} {M : va_W} (CX : CxX p l s m args meth c cL_law 23 wsL_law RL G vwCl (tys cI cZ cQ cU cJ) nws strs A) (hN : NC s) (hS : LSt cI cZ cQ cU t n P d g kd kc ox I R M) (bx : vx < 2147483648) (bv : vy < 2147483648) (hn60 : n < 60) (hg60 : g < 60) (hPn : P ≤ n) (hd0 : 10000 ≤ d) (hsd : sd ≤ d) (hR : cells + 300 ≤ room_1.cells ∧ slots + 3000 ≤ room_1.slots) (h3 : 3 ≤ P) (hkc : kc < 60) (kk : ∀ (M' : va_W) (I' : OI) (R' : RI) (t' n' P' d' g' : Nat), LSt cI cZ cQ cU t' n' P' d' g' kd (kc + 1) ox I' R' M' → t' ≤ t + 3 → n ≤ n' → n' ≤ n + 1 → P ≤ P' → P' ≤ n' → d ≤ d' → g' ≤ g + 1 → (P' = P + 1 ∨ 3 ≤ P') → VJ p l e room_1 s m args below meth c 23 G vwCl A Qf (cells + 300) (slots + 3000) (some ()) M' 1050 [(0, .ref b), (1, .ref ox), (2, .int (nI P')), (3, .int (nI n')), (4, .int (nI g')), (5, .int (nI 1)), (6, .int (nI kx)), (7, .int (nI vx)), (8, .int (nI vy))] []) : VJ p l e room_1 s m args below meth c 23 G vwCl A Qf cells slots (some ()) M 854 [(0, .ref b), (1, .ref ox), (2, .int (nI P)), (3, .int (nI n)), (4, .int (nI g)), (5, .int (nI 1)), (6, .int (nI kx)), (7, .int (nI vx)), (8, .int (nI vy)), (9, .int (nI d)), (10, .int (nI sd))] [] := by
  have C := CX.1
  have hM0 := hS.lw
  obtain ⟨bn, bP, bd, bg, e2, e4, e1, e5⟩ := hM0.iv
  have hR1 := hR.1
  have hR2 := hR.2
  refine lw_look CX hN hS bx bv hn60 hg60 hPn hd0 hsd ⟨by omega, by omega⟩ h3 hkc (fun M1 I1 R1 hS1 => ?_)
  refine lw_renum CX hN hS1 bx bv hn60 hg60 hPn hd0 hsd ⟨by omega, by omega⟩ h3 (fun M2 I2 R2 t' n' P' d' g' hS2 c1 c2 c3 c4 c5 c6 c7 c8 => ?_)
  exact VJ.widen (by omega) (by omega) (kk _ _ _ _ _ _ _ _ hS2 (by omega) c2 c3 c4 c5 c6 c7 c8)
end LLk
