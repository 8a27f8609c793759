section LB
set_option maxHeartbeats 8000000 in
set_option maxRecDepth 100000 in
theorem law_begin {p : Program} {l : Launch} {e : Env} {s : State} {m : MethodId} {args : Array Value} {below : List Frame} {meth : Method} {c : Code} {G : va_G} {cI cZ cQ cU cJ : ClassId} {A : Nat → Prop} {Qf : Unit → State → Prop} {b L : Nat} {xs : Nat → Int32} {R0 : RI} {out : OI × RI × Option Nat} (hL : L ≤ 2560) (CX : CxX p l s m args meth c cL_law 7 wsL_law RL G vwCl (tys cI cZ cQ cU cJ) nws strs A) (hN : NC s) (hX : va_X b L xs s s.heap) (hbl : b < s.heap.size) (hbA : ¬ A b) (h6 : f_X6_init 20000 = some R0) (h5 : f_X5_init 20000 = some out) (hIV : IV 20000 0 (va_up (fun _ => 0) 0 10000) (fun _ _ => 0) 0 none (fun _ => none) out.1 out.2.1 out.2.2 (va_up (fun _ => 0) 1 1001) (fun _ _ => 0) [] (fun _ _ => 0) (fun _ _ => none) (fun _ => none) [] (va_up (va_up (fun _ => 0) 1 10000) 6 1000) R0)
    (kend : ∀ (ox om oj : Nat) (M : va_W) (cells slots : Nat) (i : Int32), cells ≤ room_1.cells → slots ≤ room_1.slots → VJ p l e room_1 s m args below meth c 7 G vwCl A Qf cells slots (some ()) M 2222 [(0, .ref b), (1, .ref ox), (2, .ref om), (3, .ref oj), (4, .int i)] []) : VJ p l e room_1 s m args below meth c 7 G vwCl A Qf 0 0 (some ()) [] 0 [(0, .ref b)] [] := by
  have C := CX.1
  refine VJ.newO (ci := 5) (fs := [.null, .null, .null, .null, .null, .null, .null, .null, .int 0, .int 0, .int 0]) (T := TX5) (N := 11) C (fun q1 => pf [[(q1, .inr (5, [.null, .null, .null, .null, .null, .null, .null, .null, .int 0, .int 0, .int 0]))]]) (fun _ => rfl) inlX5 tyX5 tyX5_ok (C.1.2.2.2.2 _ (List.mem_of_getElem? (i := 0) (by decide +kernel))) (C.1.2.2.2.2 _ (List.mem_of_getElem? (i := 1) (by decide +kernel))) (C.1.2.2.2.2 _ (List.mem_of_getElem? (i := 2) (by decide +kernel))) rfl (fun j hj => by
    match j, hj with
    | 0, _ => rfl
    | 1, _ => rfl
    | 2, _ => rfl
    | 3, _ => rfl
    | 4, _ => rfl
    | 5, _ => rfl
    | 6, _ => rfl
    | 7, _ => rfl
    | 8, _ => rfl
    | 9, _ => rfl
    | 10, _ => rfl) (Nat.le_of_ble_eq_true rfl) (Nat.le_of_ble_eq_true rfl) dL_law_0 (fun ox => ?_)
  refine VJ.dup C dL_law_3 rfl ?_
  refine VJ.initS C [] (pf [[(ox, .inr (5, [.null, .null, .null, .null, .null, .null, .null, .null, .int 0, .int 0, .int 0]))]]) (pf []) (c_X5_init l G cI cZ cQ cU cJ 20000 ox out h5) (fun _ _ h9 => h9.1) (vj_p0 _) (cwI 0 C.1.2.2.2.2 gL_law_X5_init rfl rfl rfl (C.1.2.2.2.2 _ (List.mem_of_getElem? (i := 2) (by decide +kernel))) (C.1.2.2.2.2 _ (List.mem_of_getElem? (i := 7) (by decide +kernel))) (C.1.2.2.2.2 _ (List.mem_of_getElem? (i := 8) (by decide +kernel))) rfl hy_X5_init ⟨Nat.le_of_ble_eq_true rfl, Nat.le_of_ble_eq_true rfl⟩) rfl rfl (Nat.le_of_ble_eq_true rfl) dL_law_4 ⟨Nat.le_of_ble_eq_true rfl, Nat.le_of_ble_eq_true rfl⟩ (fun r M1 h9 => ?_)
  obtain ⟨-, ad, rf, ra, adk, adq, adc, adn, rfl⟩ := h9
  refine VJ.astore_n C [(1, .ref ox), (0, .ref b)] dL_law_7 (Nat.le_of_ble_eq_true rfl) rfl ?_
  refine VJ.perm (vj_p0' _) ?_
  refine VJ.newO (ci := 6) (fs := [.int 0, .int 0, .int 0, .null, .null, .null, .null, .null, .null, .null, .null, .int 0, .null, .int 0, .int 0, .int 0, .null, .null, .null, .null, .null, .null, .null, .null, .null, .null, .null, .null, .null, .int 0, .null, .null, .null, .int 0, .null, .null, .null, .null]) (T := TX6) (N := 38) C (fun q1 => pf [xW cI cZ ox ad (va_up (fun _ => 0) 0 10000) (fun _ _ => 0) rf, aW cQ (rf 0) ra 0 none (fun _ => none), lW cI cZ (rf 1) adk out.1 out.2.1 out.2.2, lW cI cZ (rf 2) adq (fun _ => 0) (fun _ _ => 0) none, lW cI cZ (rf 3) adc (fun _ => 0) (fun _ _ => 0) none, nW cI cZ (rf 4) adn (va_up (fun _ => 0) 1 1001) (fun _ _ => 0), qW cU (rf 5) (fun _ => none), pW [] (fun _ _ => 0) (fun _ _ => none)] ++ [(q1, .inr (6, [.int 0, .int 0, .int 0, .null, .null, .null, .null, .null, .null, .null, .null, .int 0, .null, .int 0, .int 0, .int 0, .null, .null, .null, .null, .null, .null, .null, .null, .null, .null, .null, .null, .null, .int 0, .null, .null, .null, .int 0, .null, .null, .null, .null]))]) (fun _ => rfl) inlX6 tyX6 tyX6_ok (C.1.2.2.2.2 _ (List.mem_of_getElem? (i := 3) (by decide +kernel))) (C.1.2.2.2.2 _ (List.mem_of_getElem? (i := 4) (by decide +kernel))) (C.1.2.2.2.2 _ (List.mem_of_getElem? (i := 5) (by decide +kernel))) rfl (fun j hj => by
    match j, hj with
    | 0, _ => rfl
    | 1, _ => rfl
    | 2, _ => rfl
    | 3, _ => rfl
    | 4, _ => rfl
    | 5, _ => rfl
    | 6, _ => rfl
    | 7, _ => rfl
    | 8, _ => rfl
    | 9, _ => rfl
    | 10, _ => rfl
    | 11, _ => rfl
    | 12, _ => rfl
    | 13, _ => rfl
    | 14, _ => rfl
    | 15, _ => rfl
    | 16, _ => rfl
    | 17, _ => rfl
    | 18, _ => rfl
    | 19, _ => rfl
    | 20, _ => rfl
    | 21, _ => rfl
    | 22, _ => rfl
    | 23, _ => rfl
    | 24, _ => rfl
    | 25, _ => rfl
    | 26, _ => rfl
    | 27, _ => rfl
    | 28, _ => rfl
    | 29, _ => rfl
    | 30, _ => rfl
    | 31, _ => rfl
    | 32, _ => rfl
    | 33, _ => rfl
    | 34, _ => rfl
    | 35, _ => rfl
    | 36, _ => rfl
    | 37, _ => rfl
    | k + 38, h => exact absurd h (by omega)) (Nat.le_of_ble_eq_true rfl) (Nat.le_of_ble_eq_true rfl) dL_law_8 (fun om => ?_)
  refine VJ.dup C dL_law_11 rfl ?_
  refine VJ.initS C [] (pf [[(om, .inr (6, [.int 0, .int 0, .int 0, .null, .null, .null, .null, .null, .null, .null, .null, .int 0, .null, .int 0, .int 0, .int 0, .null, .null, .null, .null, .null, .null, .null, .null, .null, .null, .null, .null, .null, .int 0, .null, .null, .null, .int 0, .null, .null, .null, .null]))]]) (pf [xW cI cZ ox ad (va_up (fun _ => 0) 0 10000) (fun _ _ => 0) rf, aW cQ (rf 0) ra 0 none (fun _ => none), lW cI cZ (rf 1) adk out.1 out.2.1 out.2.2, lW cI cZ (rf 2) adq (fun _ => 0) (fun _ _ => 0) none, lW cI cZ (rf 3) adc (fun _ => 0) (fun _ _ => 0) none, nW cI cZ (rf 4) adn (va_up (fun _ => 0) 1 1001) (fun _ _ => 0), qW cU (rf 5) (fun _ => none), pW [] (fun _ _ => 0) (fun _ _ => none)]) (c_X6_init l G cI cZ cQ cU cJ 20000 om R0 h6) (fun _ _ h9 => h9.1) List.perm_append_comm (cwI 0 C.1.2.2.2.2 gL_law_X6_init rfl rfl rfl (C.1.2.2.2.2 _ (List.mem_of_getElem? (i := 5) (by decide +kernel))) (C.1.2.2.2.2 _ (List.mem_of_getElem? (i := 131) (by decide +kernel))) (C.1.2.2.2.2 _ (List.mem_of_getElem? (i := 132) (by decide +kernel))) rfl hy_X6_init ⟨Nat.le_of_ble_eq_true rfl, Nat.le_of_ble_eq_true rfl⟩) rfl rfl (Nat.le_of_ble_eq_true rfl) dL_law_12 ⟨Nat.le_of_ble_eq_true rfl, Nat.le_of_ble_eq_true rfl⟩ (fun r M1 h9 => ?_)
  obtain ⟨-, adm, rfl⟩ := h9
  refine VJ.astore_n C [(2, .ref om), (1, .ref ox), (0, .ref b)] dL_law_15 (Nat.le_of_ble_eq_true rfl) rfl ?_
  refine VJ.iconst (v := 1) C dL_law_16 (by decide) ?_
  refine VJ.newarr C 4 (1, .inr (.inl (fun _ => 0))) (fun q1 => (pf [mW cI cZ om adm (va_up (va_up (fun _ => 0) 1 10000) 6 1000) R0] ++ pf [xW cI cZ ox ad (va_up (fun _ => 0) 0 10000) (fun _ _ => 0) rf, aW cQ (rf 0) ra 0 none (fun _ => none), lW cI cZ (rf 1) adk out.1 out.2.1 out.2.2, lW cI cZ (rf 2) adq (fun _ => 0) (fun _ _ => 0) none, lW cI cZ (rf 3) adc (fun _ => 0) (fun _ _ => 0) none, nW cI cZ (rf 4) adn (va_up (fun _ => 0) 1 1001) (fun _ _ => 0), qW cU (rf 5) (fun _ => none), pW [] (fun _ _ => 0) (fun _ _ => none)]) ++ jW cJ q1 (fun _ => 0)) (fun _ => rfl) rfl rfl (fun _ _ h9 => h9) (C.1.2.2.2.2 _ (List.mem_of_getElem? (i := 6) (by decide +kernel))) (fun _ => rfl) (by decide) (by decide) (Nat.le_of_ble_eq_true rfl) (Nat.le_of_ble_eq_true rfl) (Nat.le_of_ble_eq_true rfl) dL_law_17 (fun oj => ?_)
  refine VJ.astore_n C [(3, .ref oj), (2, .ref om), (1, .ref ox), (0, .ref b)] dL_law_19 (Nat.le_of_ble_eq_true rfl) rfl ?_
  refine VJ.iconst (v := nI (5 * 0)) C dL_law_20 (by decide) ?_
  refine VJ.istore C [(4, .int (nI (5 * 0))), (3, .ref oj), (2, .ref om), (1, .ref ox), (0, .ref b)] dL_law_21 (Nat.le_of_ble_eq_true rfl) rfl ?_
  refine VJ.sub [4, 3, 2, 1, 0] rfl ?_
  refine law_loop hL CX hN hX hbl hbA (kend ox om oj) (L + 1) 0 _ _ _ (Nat.zero_le _) (by omega) (Nat.le_of_ble_eq_true rfl) (Nat.le_of_ble_eq_true rfl) ?_
  refine ⟨ad, va_up (fun _ => 0) 0 10000, fun _ _ => 0, rf, ra, 0, none, fun _ => none, adk, out.1, out.2.1, out.2.2, adq, fun _ => 0, fun _ _ => 0, none, adc, fun _ => 0, fun _ _ => 0, none, adn, va_up (fun _ => 0) 1 1001, fun _ _ => 0, [], fun _ _ => 0, fun _ _ => none, fun _ => none, [], adm, va_up (va_up (fun _ => 0) 1 10000) 6 1000, R0, fun _ => 0, hIV, ?_⟩
  have h1 : pf [jW cJ oj (fun _ => 0), mW cI cZ om adm (va_up (va_up (fun _ => 0) 1 10000) 6 1000) R0, xW cI cZ ox ad (va_up (fun _ => 0) 0 10000) (fun _ _ => 0) rf, aW cQ (rf 0) ra 0 none (fun _ => none), lW cI cZ (rf 1) adk out.1 out.2.1 out.2.2, lW cI cZ (rf 2) adq (fun _ => 0) (fun _ _ => 0) none, lW cI cZ (rf 3) adc (fun _ => 0) (fun _ _ => 0) none, nW cI cZ (rf 4) adn (va_up (fun _ => 0) 1 1001) (fun _ _ => 0), qW cU (rf 5) (fun _ => none), pW [] (fun _ _ => 0) (fun _ _ => none), RW cI cZ []] = jW cJ oj (fun _ => 0) ++ (pf [mW cI cZ om adm (va_up (va_up (fun _ => 0) 1 10000) 6 1000) R0] ++ pf [xW cI cZ ox ad (va_up (fun _ => 0) 0 10000) (fun _ _ => 0) rf, aW cQ (rf 0) ra 0 none (fun _ => none), lW cI cZ (rf 1) adk out.1 out.2.1 out.2.2, lW cI cZ (rf 2) adq (fun _ => 0) (fun _ _ => 0) none, lW cI cZ (rf 3) adc (fun _ => 0) (fun _ _ => 0) none, nW cI cZ (rf 4) adn (va_up (fun _ => 0) 1 1001) (fun _ _ => 0), qW cU (rf 5) (fun _ => none), pW [] (fun _ _ => 0) (fun _ _ => none)]) := by simp [pf]
  rw [h1]
  exact List.perm_append_comm
end LB
