section LD
set_option maxHeartbeats 8000000 in
set_option maxRecDepth 100000 in
theorem law_day {p : Program} {l : Launch} {e : Env} {s : State} {m : MethodId} {args : Array Value} {below : List Frame} {meth : Method} {c : Code} {G : va_G} {cI cZ cQ cU cJ : ClassId} {A : Nat → Prop} {Qf : Unit → State → Prop} {cells slots : Nat} {b L : Nat} {xs : Nat → Int32} {ox om oj t : Nat} {M : va_W} {i : Int32} (CX : CxX p l s m args meth c cL_law 7 wsL_law RL G vwCl (tys cI cZ cQ cU cJ) nws strs A) (hN : NC s) (hX : va_X b L xs s s.heap) (hbl : b < s.heap.size) (hbA : ¬ A b) (ht : t ≤ 511) (h1 : vp_in (i + 1) L) (h2 : vp_in (i + 2) L) (h3 : vp_in (i + 3) L) (h4 : vp_in (i + 4) L) (hR : cells + 40 ≤ room_1.cells ∧ slots + 13000 ≤ room_1.slots) (hM : LI cI cZ cQ cU cJ 20000 t ox om oj M) (kk : ∀ M' : va_W, LI cI cZ cQ cU cJ 20000 (t + 1) ox om oj M' → VJ p l e room_1 s m args below meth c 7 G vwCl A Qf (cells + 40) (slots + 13000) (some ()) M' 2216 [(0, .ref b), (1, .ref ox), (2, .ref om), (3, .ref oj), (4, .int i)] []) : VJ p l e room_1 s m args below meth c 7 G vwCl A Qf cells slots (some ()) M 764 [(0, .ref b), (1, .ref ox), (2, .ref om), (3, .ref oj), (4, .int i)] [] := by
  obtain ⟨ad, Ix, Rx, rf, ra, ta, ea, wa, adk, Ik, Rk, cmk, adq, Iq, Rq, cmq, adc, Ic, Rc, cmc, adn, In, Rn, AL, AI, AR, rs, RL, adm, I, R, g, hIV, hM⟩ := hM
  obtain ⟨n9, m9, P9, d9, g9, od9, ao9, hc⟩ := hIV
  have C := CX.1
  obtain ⟨v9, I9, f5, f6, hI⟩ := sim_day hc
  have hr : cells ≤ room_1.cells ∧ slots ≤ room_1.slots := ⟨Nat.le_trans (Nat.le_add_right _ _) hR.1, Nat.le_trans (Nat.le_add_right _ _) hR.2⟩
  refine VJ.perm hM ?_
  refine VJ.aload_n C 1 dL_law_764 rfl ?_
  refine VJ.callC C [] (pf [xW cI cZ ox ad Ix Rx rf]) (pf [jW cJ oj g, mW cI cZ om adm I R, aW cQ (rf 0) ra ta ea wa, lW cI cZ (rf 1) adk Ik Rk cmk, lW cI cZ (rf 2) adq Iq Rq cmq, lW cI cZ (rf 3) adc Ic Rc cmc, nW cI cZ (rf 4) adn In Rn, qW cU (rf 5) rs, pW AL AI AR, RW cI cZ RL]) (pf [jW cJ oj g, mW cI cZ om adm I R, xW cI cZ ox ad Ix Rx rf, aW cQ (rf 0) ra ta ea wa, lW cI cZ (rf 1) adk Ik Rk cmk, lW cI cZ (rf 2) adq Iq Rq cmq, lW cI cZ (rf 3) adc Ic Rc cmc, nW cI cZ (rf 4) adn In Rn, qW cU (rf 5) rs, pW AL AI AR, RW cI cZ RL]) (c_X5_day l G cI cZ cQ cU cJ ox ad rf Ix Rx v9 f5) (vj_pf 11 [2, 0, 1, 3, 4, 5, 6, 7, 8, 9, 10] rfl rfl (by decide)) ((vj_pf 11 [2, 0, 1, 3, 4, 5, 6, 7, 8, 9, 10] rfl rfl (by decide)).symm) 0 rfl rfl (cwV 0 C.1.2.2.2.2 gL_law_X5_day rfl rfl rfl hyV_X5_day ⟨Nat.le_of_ble_eq_true rfl, Nat.le_of_ble_eq_true rfl⟩) rfl rfl (Nat.le_of_ble_eq_true rfl) dL_law_765 ⟨rfl, rfl⟩ hr ?_
  refine VJ.aload_n C 2 dL_law_768 rfl ?_
  refine VJ.callC (st := [.int v9]) C [] (pf [mW cI cZ om adm I R]) (pf [jW cJ oj g, xW cI cZ ox ad Ix Rx rf, aW cQ (rf 0) ra ta ea wa, lW cI cZ (rf 1) adk Ik Rk cmk, lW cI cZ (rf 2) adq Iq Rq cmq, lW cI cZ (rf 3) adc Ic Rc cmc, nW cI cZ (rf 4) adn In Rn, qW cU (rf 5) rs, pW AL AI AR, RW cI cZ RL]) (pf [jW cJ oj g, mW cI cZ om adm I9 R, xW cI cZ ox ad Ix Rx rf, aW cQ (rf 0) ra ta ea wa, lW cI cZ (rf 1) adk Ik Rk cmk, lW cI cZ (rf 2) adq Iq Rq cmq, lW cI cZ (rf 3) adc Ic Rc cmc, nW cI cZ (rf 4) adn In Rn, qW cU (rf 5) rs, pW AL AI AR, RW cI cZ RL]) (c_X6_day l G cI cZ cQ cU cJ om adm I R (v9, I9) f6) (pf_m1 _ _ _) (pf_m2 _ _ _) 0 rfl rfl (cwV 0 C.1.2.2.2.2 gL_law_X6_day rfl rfl rfl hyV_X6_day ⟨Nat.le_of_ble_eq_true rfl, Nat.le_of_ble_eq_true rfl⟩) rfl rfl (Nat.le_of_ble_eq_true rfl) dL_law_769 ⟨rfl, rfl⟩ hr ?_
  refine VJ.two (P := v9 = v9) ?_
  refine VJ.icmp_eq C 2216 dL_law_772 (by decide) (fun _ => ?_) (fun h => absurd rfl h)
  exact VJ.widen (Nat.le_add_right _ _) (Nat.le_add_right _ _) (kk _ ⟨ad, Ix, Rx, rf, ra, ta, ea, wa, adk, Ik, Rk, cmk, adq, Iq, Rq, cmq, adc, Ic, Rc, cmc, adn, In, Rn, AL, AI, AR, rs, RL, adm, I9, R, g, hI, List.Perm.refl _⟩)
theorem LI.up {cI cZ cQ cU cJ : ClassId} {t ox om oj : Nat} {M : va_W} (h : LI cI cZ cQ cU cJ 20000 t ox om oj M) : LI cI cZ cQ cU cJ 20000 (t + 1) ox om oj M := by
  obtain ⟨ad, Ix, Rx, rf, ra, ta, ea, wa, adk, Ik, Rk, cmk, adq, Iq, Rq, cmq, adc, Ic, Rc, cmc, adn, In, Rn, AL, AI, AR, rs, RL, adm, I, R, g, hIV, hM⟩ := h
  obtain ⟨n9, m9, P9, d9, g9, od9, ao9, hc⟩ := hIV
  exact ⟨ad, Ix, Rx, rf, ra, ta, ea, wa, adk, Ik, Rk, cmk, adq, Iq, Rq, cmq, adc, Ic, Rc, cmc, adn, In, Rn, AL, AI, AR, rs, RL, adm, I, R, g, IV.ask hc (fun _ _ => rfl) (fun _ _ => rfl) (LEq.nine (fun _ _ => rfl)), hM⟩
theorem law_i {L t : Nat} (hL : L ≤ 2560) (ht : 5 * t ≤ L) : (Int32.ofNat L - 5 < nI (5 * t)) ↔ L < 5 * t + 5 := by
  have h5 : (5 : Int32) = nI 5 := by decide
  rw [Int32.lt_iff_toInt_lt, show Int32.ofNat L = nI L from rfl, h5, sub_ti (by omega) (by omega), nI_toInt (by omega)]
  omega
theorem law_in {L t : Nat} (hL : L ≤ 2560) (j : Nat) (hj : 5 * t + j < L) : vp_in (nI (5 * t) + nI j) L := by
  rw [nI_add]
  exact nI_in hj (by omega)
set_option maxHeartbeats 8000000 in
set_option maxRecDepth 100000 in
theorem law_loop {p : Program} {l : Launch} {e : Env} {s : State} {m : MethodId} {args : Array Value} {below : List Frame} {meth : Method} {c : Code} {G : va_G} {cI cZ cQ cU cJ : ClassId} {A : Nat → Prop} {Qf : Unit → State → Prop} {b L : Nat} {xs : Nat → Int32} {ox om oj : Nat} (hL : L ≤ 2560) (CX : CxX p l s m args meth c cL_law 7 wsL_law RL G vwCl (tys cI cZ cQ cU cJ) nws strs A) (hN : NC s) (hX : va_X b L xs s s.heap) (hbl : b < s.heap.size) (hbA : ¬ A b)
    (kend : ∀ (M : va_W) (cells slots : Nat) (i : Int32), cells ≤ room_1.cells → slots ≤ room_1.slots → VJ p l e room_1 s m args below meth c 7 G vwCl A Qf cells slots (some ()) M 2222 [(0, .ref b), (1, .ref ox), (2, .ref om), (3, .ref oj), (4, .int i)] []) :
    ∀ (k t : Nat) (cells slots : Nat) (M : va_W), 5 * t ≤ L → L < 5 * t + k → cells + 40 * (513 - t) ≤ room_1.cells → slots + 13000 * (513 - t) ≤ room_1.slots → LI cI cZ cQ cU cJ 20000 t ox om oj M →
      VJ p l e room_1 s m args below meth c 7 G vwCl A Qf cells slots (some ()) M 23 [(0, .ref b), (1, .ref ox), (2, .ref om), (3, .ref oj), (4, .int (nI (5 * t)))] [] := by
  intro k
  induction k with
  | zero => intro t cells slots M h1 h2; omega
  | succ k ih =>
    intro t cells slots M h1 h2 hc hs hM
    have C := CX.1
    have ht : t ≤ 512 := by omega
    have e1 : 513 - t = (513 - (t + 1)) + 1 := by omega
    have e2 : 40 * (513 - t) = 40 * (513 - (t + 1)) + 40 := by rw [e1]; omega
    have e3 : 13000 * (513 - t) = 13000 * (513 - (t + 1)) + 13000 := by rw [e1]; omega
    rw [e2] at hc
    rw [e3] at hs
    have hR : cells + 40 ≤ room_1.cells ∧ slots + 13000 ≤ room_1.slots := ⟨by omega, by omega⟩
    refine VJ.iload C 4 dL_law_23 rfl ?_
    refine VJ.aload_n C 0 dL_law_25 rfl ?_
    refine VJ.slen C hX hbl hbA dL_law_26 ?_
    refine VJ.iconst (v := 5) C dL_law_27 (by decide) ?_
    refine VJ.isub C dL_law_28 ?_
    refine VJ.two (P := Int32.ofNat L - 5 < nI (5 * t)) ?_
    refine VJ.icmp_gt C 2222 dL_law_29 (by decide) (fun _ => kend M cells slots _ (by omega) (by omega)) (fun hlt => ?_)
    have h5 : 5 * t + 5 ≤ L := by
      have := mt (law_i hL h1).mpr hlt
      omega
    have ht1 : t ≤ 511 := by omega
    have kk : ∀ M' : va_W, LI cI cZ cQ cU cJ 20000 (t + 1) ox om oj M' → VJ p l e room_1 s m args below meth c 7 G vwCl A Qf (cells + 40) (slots + 13000) (some ()) M' 2216 [(0, .ref b), (1, .ref ox), (2, .ref om), (3, .ref oj), (4, .int (nI (5 * t)))] [] := by
      intro M' hM'
      refine VJ.iinc C 4 (nI (5 * (t + 1))) [(4, .int (nI (5 * (t + 1)))), (0, .ref b), (1, .ref ox), (2, .ref om), (3, .ref oj)] dL_law_2216 rfl ?_ (Nat.le_of_ble_eq_true rfl) rfl ?_
      · show nI (5 * t) + nI 5 = nI (5 * (t + 1))
        rw [nI_add]
        rfl
      · refine VJ.goto C 23 dL_law_2219 (by decide) ?_
        refine VJ.sub [1, 2, 3, 4, 0] rfl ?_
        exact ih (t + 1) (cells + 40) (slots + 13000) M' (by omega) (by omega) (by omega) (by omega) hM'
    have a1 : vp_in (nI (5 * t) + 1) L := law_in hL 1 (by omega)
    have a2 : vp_in (nI (5 * t) + 2) L := law_in hL 2 (by omega)
    have a3 : vp_in (nI (5 * t) + 3) L := law_in hL 3 (by omega)
    have a4 : vp_in (nI (5 * t) + 4) L := law_in hL 4 (by omega)
    refine VJ.aload_n C 0 dL_law_32 rfl ?_
    refine VJ.iload C 4 dL_law_33 rfl ?_
    refine VJ.sread C hX hbl hbA ⟨nI_in (by omega) (by omega), rfl⟩ dL_law_35 ?_
    refine VJ.bipush (v := 31) C dL_law_36 (by decide) ?_
    refine VJ.iand C dL_law_38 ?_
    generalize xs (nI (5 * t)).toNatClampNeg &&& 31 = z
    by_cases q0 : z = 0
    · exact VJ.tabin C 172 dL_law_39 q0 (by decide) (by decide) rfl (by decide) (law_pass CX hN hX hbl hbA ht1 a1 a2 a3 a4 hR hM kk)
    by_cases q1 : z = 1
    · exact VJ.tabin C 228 dL_law_39 q1 (by decide) (by decide) rfl (by decide) (law_birth CX hN hX hbl hbA ht1 a1 a2 a3 a4 hR hM kk)
    by_cases q2 : z = 2
    · exact VJ.tabin C 320 dL_law_39 q2 (by decide) (by decide) rfl (by decide) (law_move CX hN hX hbl hbA ht1 a1 a2 a3 a4 hR hM kk)
    by_cases q3 : z = 3
    · exact VJ.tabin C 400 dL_law_39 q3 (by decide) (by decide) rfl (by decide) (law_naming CX hN hX hbl hbA ht1 a1 a2 a3 a4 hR hM kk)
    by_cases q4 : z = 4
    · exact VJ.tabin C 480 dL_law_39 q4 (by decide) (by decide) rfl (by decide) (law_tie CX hN hX hbl hbA ht1 a1 a2 a3 a4 hR hM kk)
    by_cases q5 : z = 5
    · exact VJ.tabin C 572 dL_law_39 q5 (by decide) (by decide) rfl (by decide) (law_death CX hN hX hbl hbA ht1 a1 a2 a3 a4 hR hM kk)
    by_cases q6 : z = 6
    · exact VJ.tabin C 640 dL_law_39 q6 (by decide) (by decide) rfl (by decide) (law_join CX hN hX hbl hbA ht1 a1 a2 a3 a4 hR hM kk)
    by_cases q7 : z = 7
    · exact VJ.tabin C 708 dL_law_39 q7 (by decide) (by decide) rfl (by decide) (law_strike CX hN hX hbl hbA ht1 a1 a2 a3 a4 hR hM kk)
    by_cases q8 : z = 8
    · exact VJ.tabin C 764 dL_law_39 q8 (by decide) (by decide) rfl (by decide) (law_day CX hN hX hbl hbA ht1 a1 a2 a3 a4 hR hM kk)
    by_cases q9 : z = 9
    · exact VJ.tabin C 777 dL_law_39 q9 (by decide) (by decide) rfl (by decide) (law_actOf CX hN hX hbl hbA ht1 a1 a2 a3 a4 hR hM kk)
    by_cases q10 : z = 10
    · exact VJ.tabin C 845 dL_law_39 q10 (by decide) (by decide) rfl (by decide) (law_asOf CX hN hX hbl hbA ht1 a1 a2 a3 a4 hR hM kk)
    by_cases q11 : z = 11
    · exact VJ.tabin C 937 dL_law_39 q11 (by decide) (by decide) rfl (by decide) (law_now CX hN hX hbl hbA ht1 a1 a2 a3 a4 hR hM kk)
    by_cases q12 : z = 12
    · exact VJ.tabin C 1005 dL_law_39 q12 (by decide) (by decide) rfl (by decide) (law_households CX hN hX hbl hbA ht1 a1 a2 a3 a4 hR hM kk)
    by_cases q13 : z = 13
    · exact VJ.tabin C 1085 dL_law_39 q13 (by decide) (by decide) rfl (by decide) (law_money CX hN hX hbl hbA ht1 a1 a2 a3 a4 hR hM kk)
    by_cases q14 : z = 14
    · exact VJ.tabin C 1177 dL_law_39 q14 (by decide) (by decide) rfl (by decide) (law_changed CX hN hX hbl hbA ht1 a1 a2 a3 a4 hR hM kk)
    by_cases q15 : z = 15
    · exact VJ.tabin C 1257 dL_law_39 q15 (by decide) (by decide) rfl (by decide) (law_origin CX hN hX hbl hbA ht1 a1 a2 a3 a4 hR hM kk)
    by_cases q16 : z = 16
    · exact VJ.tabin C 1325 dL_law_39 q16 (by decide) (by decide) rfl (by decide) (law_likeness CX hN hX hbl hbA ht1 a1 a2 a3 a4 hR hM kk)
    by_cases q17 : z = 17
    · exact VJ.tabin C 1393 dL_law_39 q17 (by decide) (by decide) rfl (by decide) (law_doubleOf CX hN hX hbl hbA ht1 a1 a2 a3 a4 hR hM kk)
    by_cases q18 : z = 18
    · exact VJ.tabin C 1449 dL_law_39 q18 (by decide) (by decide) rfl (by decide) (law_renumber CX hN hX hbl hbA ht1 a1 a2 a3 a4 hR hM kk)
    by_cases q19 : z = 19
    · exact VJ.tabin C 1505 dL_law_39 q19 (by decide) (by decide) rfl (by decide) (law_number CX hN hX hbl hbA ht1 a1 a2 a3 a4 hR hM kk)
    by_cases q20 : z = 20
    · exact VJ.tabin C 1561 dL_law_39 q20 (by decide) (by decide) rfl (by decide) (law_bearer CX hN hX hbl hbA ht1 a1 a2 a3 a4 hR hM kk)
    by_cases q21 : z = 21
    · exact VJ.tabin C 1617 dL_law_39 q21 (by decide) (by decide) rfl (by decide) (law_roll CX hN hX hbl hbA ht1 a1 a2 a3 a4 hR hM kk)
    by_cases q22 : z = 22
    · exact VJ.tabin C 1685 dL_law_39 q22 (by decide) (by decide) rfl (by decide) (law_deliver CX hN hX hbl hbA ht1 a1 a2 a3 a4 hR hM kk)
    by_cases q23 : z = 23
    · exact VJ.tabin C 1741 dL_law_39 q23 (by decide) (by decide) rfl (by decide) (law_owes CX hN hX hbl hbA ht1 a1 a2 a3 a4 hR hM kk)
    by_cases q24 : z = 24
    · exact VJ.tabin C 1797 dL_law_39 q24 (by decide) (by decide) rfl (by decide) (law_message CX hN hX hbl hbA ht1 a1 a2 a3 a4 hR hM kk)
    by_cases q25 : z = 25
    · exact VJ.tabin C 1865 dL_law_39 q25 (by decide) (by decide) rfl (by decide) (law_holds CX hN hX hbl hbA ht1 a1 a2 a3 a4 hR hM kk)
    by_cases q26 : z = 26
    · exact VJ.tabin C 1933 dL_law_39 q26 (by decide) (by decide) rfl (by decide) (law_holdsAnew CX hN hX hbl hbA ht1 a1 a2 a3 a4 hR hM kk)
    by_cases q27 : z = 27
    · exact VJ.tabin C 2001 dL_law_39 q27 (by decide) (by decide) rfl (by decide) (law_bar CX hN hX hbl hbA ht1 a1 a2 a3 a4 hR hM kk)
    by_cases q28 : z = 28
    · exact VJ.tabin C 2092 dL_law_39 q28 (by decide) (by decide) rfl (by decide) (law_look CX hN hX hbl hbA ht1 a1 a2 a3 a4 hR hM kk)
    by_cases q29 : z = 29
    · exact VJ.tabin C 2160 dL_law_39 q29 (by decide) (by decide) rfl (by decide) (law_looks CX hN hX hbl hbA ht1 a1 a2 a3 a4 hR hM kk)
    exact VJ.tabout C 2216 dL_law_39 (vj_out0_30 q0 q1 q2 q3 q4 q5 q6 q7 q8 q9 q10 q11 q12 q13 q14 q15 q16 q17 q18 q19 q20 q21 q22 q23 q24 q25 q26 q27 q28 q29) (by decide) (VJ.widen (Nat.le_add_right _ _) (Nat.le_add_right _ _) (kk M hM.up))
end LD
