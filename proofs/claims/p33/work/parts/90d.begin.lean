section LB
theorem init_z {N : Nat} (hN : 200 ≤ N) {R0 : RI} (h6 : f_X6_init N = some R0) : ∀ c, c ≠ 24 → R0 c = fun _ => 0 := by
  obtain ⟨R1, h1, h2, h3⟩ := init_l (N := N) 120 0 (fun _ _ => 0) N rfl (fun _ _ => rfl) (fun i hi => absurd hi (Nat.not_lt_zero i)) (by omega)
  have e : f_X6_init N = some R1 := by
    unfold f_X6_init
    exact h1
  obtain rfl : R0 = R1 := Option.some.inj (h6.symm.trans e)
  exact h2
set_option maxHeartbeats 8000000 in
set_option maxRecDepth 100000 in
theorem law_begin {p : Program} {l : Launch} {e : Env} {s : State} {m : MethodId} {args : Array Value} {below : List Frame} {meth : Method} {c : Code} {G : va_G} {cI cZ cQ cU cJ : ClassId} {A : Nat → Prop} {Qf : Unit → State → Prop} {b L : Nat} {xs : Nat → Int32} {R0 : RI} {out : OI × RI × Option Nat}  (CX : CxX p l s m args meth c cL_law 23 wsL_law RL G vwCl (tys cI cZ cQ cU cJ) nws strs A) (hN : NC s) (hL : L < 2147483648) (hX : va_X b L xs s s.heap) (hbl : b < s.heap.size) (hbA : ¬ A b) (h6 : f_X6_init 20000 = some R0) (h5 : f_X5_init 20000 = some out) (hIV : IV 20000 0 (va_up (fun _ => 0) 0 10000) (fun _ _ => 0) 0 none (fun _ => none) out.1 out.2.1 out.2.2 (va_up (fun _ => 0) 1 1001) (fun _ _ => 0) [] (fun _ _ => 0) (fun _ _ => none) (fun _ => none) [] (va_up (va_up (fun _ => 0) 1 10000) 6 1000) R0)
    (kend : ∀ (M : va_W) (cells slots : Nat), cells ≤ room_1.cells → slots ≤ room_1.slots → VJ p l e room_1 s m args below meth c 23 G vwCl A Qf cells slots (some ()) M 1315 [(5, .int (nI 1))] []) : VJ p l e room_1 s m args below meth c 23 G vwCl A Qf 0 0 (some ()) [] 0 [(0, .ref b)] [] := by
  have C := CX.1
  have hZ := init_z (Nat.le_of_ble_eq_true rfl) h6
  refine VJ.newO (ci := 5) (fs := [.null, .null, .null, .null, .null, .null, .null, .null, .int 0, .int 0, .int 0]) (T := TX5) (N := 11) C (fun q1 => pf [[(q1, .inr (5, [.null, .null, .null, .null, .null, .null, .null, .null, .int 0, .int 0, .int 0]))]]) (fun _ => rfl) inlX5 tyX5 tyX5_ok (C.1.2.2.2.2 _ (List.mem_of_getElem? (i := 0) (by decide +kernel))) (C.1.2.2.2.2 _ (List.mem_of_getElem? (i := 1) (by decide +kernel))) (C.1.2.2.2.2 _ (List.mem_of_getElem? (i := 2) (by decide +kernel))) rfl (fun j hj => by
    match j, hj with
    | 0, _ => rfl
    | 1, _ => rfl
    | 2, _ => rfl
    | 3, _ => rfl
    | 4, _ => rfl
    | 5, _ => rfl
    | 6, _ => rfl
    | 7, _ => rfl
    | 8, _ => rfl
    | 9, _ => rfl
    | 10, _ => rfl) (Nat.le_of_ble_eq_true rfl) (Nat.le_of_ble_eq_true rfl) dL_law_0 (fun ox => ?_)
  refine VJ.dup C dL_law_3 rfl ?_
  refine VJ.initS C [] (pf [[(ox, .inr (5, [.null, .null, .null, .null, .null, .null, .null, .null, .int 0, .int 0, .int 0]))]]) (pf []) (c_X5_init l G cI cZ cQ cU cJ 20000 ox out h5) (fun _ _ h9 => h9.1) (vj_p0 _) (cwI 0 C.1.2.2.2.2 gL_law_X5_init rfl rfl rfl (C.1.2.2.2.2 _ (List.mem_of_getElem? (i := 2) (by decide +kernel))) (C.1.2.2.2.2 _ (List.mem_of_getElem? (i := 8) (by decide +kernel))) (C.1.2.2.2.2 _ (List.mem_of_getElem? (i := 9) (by decide +kernel))) rfl hy_X5_init ⟨Nat.le_of_ble_eq_true rfl, Nat.le_of_ble_eq_true rfl⟩) rfl rfl (Nat.le_of_ble_eq_true rfl) dL_law_4 ⟨Nat.le_of_ble_eq_true rfl, Nat.le_of_ble_eq_true rfl⟩ (fun r M1 h9 => ?_)
  obtain ⟨-, ad, rf, ra, adk, adq, adc, adn, rfl⟩ := h9
  refine VJ.astore_n C [(1, .ref ox), (0, .ref b)] dL_law_7 (Nat.le_of_ble_eq_true rfl) rfl ?_
  refine VJ.perm (vj_p0' _) ?_
  obtain ⟨n9, m9, P9, d9, g9, od9, ao9, hc⟩ := hIV
  have hP9 : pf [xW cI cZ ox ad (va_up (fun _ => 0) 0 10000) (fun _ _ => 0) rf, aW cQ (rf 0) ra 0 none (fun _ => none), lW cI cZ (rf 1) adk out.1 out.2.1 out.2.2, lW cI cZ (rf 2) adq (fun _ => 0) (fun _ _ => 0) none, lW cI cZ (rf 3) adc (fun _ => 0) (fun _ _ => 0) none, nW cI cZ (rf 4) adn (va_up (fun _ => 0) 1 1001) (fun _ _ => 0), qW cU (rf 5) (fun _ => none), pW [] (fun _ _ => 0) (fun _ _ => none), RW cI cZ []] = pf [xW cI cZ ox ad (va_up (fun _ => 0) 0 10000) (fun _ _ => 0) rf, aW cQ (rf 0) ra 0 none (fun _ => none), lW cI cZ (rf 1) adk out.1 out.2.1 out.2.2, lW cI cZ (rf 2) adq (fun _ => 0) (fun _ _ => 0) none, lW cI cZ (rf 3) adc (fun _ => 0) (fun _ _ => 0) none, nW cI cZ (rf 4) adn (va_up (fun _ => 0) 1 1001) (fun _ _ => 0), qW cU (rf 5) (fun _ => none), pW [] (fun _ _ => 0) (fun _ _ => none)] := by simp [pf]
  have hLe : LWe cI cZ cQ cU 20000 0 ox (va_up (va_up (fun _ => 0) 1 10000) 6 1000) R0 (pf [xW cI cZ ox ad (va_up (fun _ => 0) 0 10000) (fun _ _ => 0) rf, aW cQ (rf 0) ra 0 none (fun _ => none), lW cI cZ (rf 1) adk out.1 out.2.1 out.2.2, lW cI cZ (rf 2) adq (fun _ => 0) (fun _ _ => 0) none, lW cI cZ (rf 3) adc (fun _ => 0) (fun _ _ => 0) none, nW cI cZ (rf 4) adn (va_up (fun _ => 0) 1 1001) (fun _ _ => 0), qW cU (rf 5) (fun _ => none), pW [] (fun _ _ => 0) (fun _ _ => none)]) := ⟨n9, P9, d9, g9, ad, va_up (fun _ => 0) 0 10000, fun _ _ => 0, rf, ra, 0, none, fun _ => none, adk, out.1, out.2.1, out.2.2, adq, fun _ => 0, fun _ _ => 0, none, adc, fun _ => 0, fun _ _ => 0, none, adn, va_up (fun _ => 0) 1 1001, fun _ _ => 0, [], fun _ _ => 0, fun _ _ => none, fun _ => none, [], m9, od9, ao9, hc, by rw [hP9]⟩
  have hM0 : LW cI cZ cQ cU 20000 0 0 0 10000 0 ox (va_up (va_up (fun _ => 0) 1 10000) 6 1000) R0 (pf [xW cI cZ ox ad (va_up (fun _ => 0) 0 10000) (fun _ _ => 0) rf, aW cQ (rf 0) ra 0 none (fun _ => none), lW cI cZ (rf 1) adk out.1 out.2.1 out.2.2, lW cI cZ (rf 2) adq (fun _ => 0) (fun _ _ => 0) none, lW cI cZ (rf 3) adc (fun _ => 0) (fun _ _ => 0) none, nW cI cZ (rf 4) adn (va_up (fun _ => 0) 1 1001) (fun _ _ => 0), qW cU (rf 5) (fun _ => none), pW [] (fun _ _ => 0) (fun _ _ => none)]) := hLe.at (by rw [up_ne (by omega), up_ne (by omega)]; rfl) (Nat.zero_le _) (by rw [up_ne (by omega), up_ne (by omega)]; rfl) (Nat.zero_le _) (by rw [up_ne (by omega), up_same]; rfl) (by omega) (by rw [up_ne (by omega), up_ne (by omega)]; rfl) (Nat.zero_le _)
  refine VJ.iconst (v := nI 0) C dL_law_8 (by decide) ?_
  refine VJ.istore_n C [(2, .int (nI 0)), (1, .ref ox), (0, .ref b)] dL_law_9 (Nat.le_of_ble_eq_true rfl) rfl ?_
  refine VJ.iconst (v := nI 0) C dL_law_10 (by decide) ?_
  refine VJ.istore_n C [(3, .int (nI 0)), (2, .int (nI 0)), (1, .ref ox), (0, .ref b)] dL_law_11 (Nat.le_of_ble_eq_true rfl) rfl ?_
  refine VJ.iconst (v := nI 0) C dL_law_12 (by decide) ?_
  refine VJ.istore C [(4, .int (nI 0)), (3, .int (nI 0)), (2, .int (nI 0)), (1, .ref ox), (0, .ref b)] dL_law_13 (Nat.le_of_ble_eq_true rfl) rfl ?_
  refine VJ.aload_n C 3 dL_law_15 rfl ?_
  refine VJ.iconst (v := nI 3) C dL_law_16 (by decide) ?_
  refine VJ.iconst (v := nI 1) C dL_law_17 (by decide) ?_
  refine VJ.a_roll CX hN hM0 (z := 0) (kd := 3) (off := 1) (by omega) (by rw [up_ne (by omega), up_ne (by omega)]; rfl) (by omega) (by omega) (vx_cwSW 3 C.1.2.2.2.2 gL_law_L_roll rfl rfl rfl hy_L_roll ⟨Nat.le_of_ble_eq_true rfl, Nat.le_of_ble_eq_true rfl⟩) (Nat.le_of_ble_eq_true rfl) dL_law_18 ⟨Nat.le_of_ble_eq_true rfl, Nat.le_of_ble_eq_true rfl⟩ (fun M1 I1 R1 hM1 a7 ac a22 a23 ar => ?_)
  refine VJ.lconst (v := (nI 0).toInt64) C dL_law_21 (by decide) ?_
  refine VJ.lce C (by decide) dL_law_22 ?_
  refine VJ.xif_ne_f C 47 (by decide) dL_law_23 (by decide) ?_
  refine VJ.aload_n C 3 dL_law_26 rfl ?_
  refine VJ.aload_n C 4 dL_law_27 rfl ?_
  refine VJ.iconst (v := nI 0) C dL_law_28 (by decide) ?_
  refine VJ.a_draw C hX hbl hbA hL (by omega) (va_cwS 2 C.1.2.2.2.2 gL_law_L_draw rfl rfl rfl hy_L_draw ⟨Nat.le_of_ble_eq_true rfl, Nat.le_of_ble_eq_true rfl⟩) (Nat.le_of_ble_eq_true rfl) dL_law_29 ⟨Nat.le_of_ble_eq_true rfl, Nat.le_of_ble_eq_true rfl⟩ ?_
  have hdr := drw_lt L xs 0
  refine VJ.iconst (v := nI 3) C dL_law_32 (by decide) ?_
  refine VJ.irem C dL_law_33 (nz (by omega) (by omega)) ?_
  refine VJ.iv (y := nI ((drw L xs 0) % 3)) (nI_mod (by omega) (by omega)) ?_
  refine VJ.iconst (v := nI 0) C dL_law_34 (by decide) ?_
  refine VJ.a_roll CX hN hM1 (z := 1) (kd := drw L xs 0 % 3) (off := 0) (by omega) a7 (by omega) (by omega) (vx_cwSW 3 C.1.2.2.2.2 gL_law_L_roll rfl rfl rfl hy_L_roll ⟨Nat.le_of_ble_eq_true rfl, Nat.le_of_ble_eq_true rfl⟩) (Nat.le_of_ble_eq_true rfl) dL_law_35 ⟨Nat.le_of_ble_eq_true rfl, Nat.le_of_ble_eq_true rfl⟩ (fun M2 I2 R2 hM2 b7 bc b22 b23 br => ?_)
  refine VJ.lconst (v := (nI 1).toInt64) C dL_law_38 (by decide) ?_
  refine VJ.lce C (by decide) dL_law_39 ?_
  refine VJ.xif_ne_f C 47 (by decide) dL_law_40 (by decide) ?_
  refine VJ.iconst (v := nI 1) C dL_law_43 (by decide) ?_
  refine VJ.goto C 48 dL_law_44 (by decide) ?_
  refine VJ.istore C [(5, .int (nI 1)), (4, .int (nI 0)), (3, .int (nI 0)), (2, .int (nI 0)), (1, .ref ox), (0, .ref b)] dL_law_48 (Nat.le_of_ble_eq_true rfl) rfl ?_
  refine VJ.iconst (v := nI 0) C dL_law_50 (by decide) ?_
  refine VJ.istore C [(6, .int (nI 0)), (5, .int (nI 1)), (4, .int (nI 0)), (3, .int (nI 0)), (2, .int (nI 0)), (1, .ref ox), (0, .ref b)] dL_law_51 (Nat.le_of_ble_eq_true rfl) rfl ?_
  refine VJ.sub [6, 5, 4, 3, 2, 1, 0] rfl ?_
  have hS : LSt cI cZ cQ cU 2 0 0 10000 0 (drw L xs 0 % 3) 0 ox I2 R2 M2 := by
    refine ⟨hM2, fun i hi => absurd hi (Nat.not_lt_zero i), b7, ?_, ?_, ?_, ?_, fun q hq => ⟨0, Nat.le_refl 0, ?_⟩⟩
    · rw [b22, upd_ne (by omega), a22, upd_same]
    · rw [b23, upd_ne (by omega), a23, upd_same]
    · rw [b22, upd_same]
    · rw [b23, upd_same]
    · rw [br 28 (by omega) (by omega), ar 28 (by omega) (by omega), hZ 28 (by omega)]; rfl
  exact lw_loop CX hN hL hX hbl hbA rfl kend 56 0 2 0 0 10000 0 _ _ I2 R2 M2 rfl hS (Nat.le_refl 0) (Nat.le_refl 0) (Nat.le_refl 0) (Or.inl rfl) (Nat.le_refl _) (by omega) (Nat.le_of_ble_eq_true rfl) (Nat.le_of_ble_eq_true rfl)
end LB
