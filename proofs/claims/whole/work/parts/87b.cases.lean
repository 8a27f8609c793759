section LC
set_option maxHeartbeats 8000000 in
set_option maxRecDepth 100000 in
theorem law_likeness {p : Program} {l : Launch} {e : Env} {s : State} {m : MethodId} {args : Array Value} {below : List Frame} {meth : Method} {c : Code} {G : va_G} {cI cZ cQ cU cJ : ClassId} {A : Nat → Prop} {Qf : Unit → State → Prop} {cells slots : Nat} {b L : Nat} {xs : Nat → Int32} {ox om oj t : Nat} {M : va_W} {i : Int32} (CX : CxX p l s m args meth c cL_law 7 wsL_law RL G vwCl (tys cI cZ cQ cU cJ) nws strs A) (hN : NC s) (hX : va_X b L xs s s.heap) (hbl : b < s.heap.size) (hbA : ¬ A b) (ht : t ≤ 511) (h1 : vp_in (i + 1) L) (h2 : vp_in (i + 2) L) (h3 : vp_in (i + 3) L) (h4 : vp_in (i + 4) L) (hR : cells + 40 ≤ room_1.cells ∧ slots + 13000 ≤ room_1.slots) (hM : LI cI cZ cQ cU cJ 20000 t ox om oj M) (kk : ∀ M' : va_W, LI cI cZ cQ cU cJ 20000 (t + 1) ox om oj M' → VJ p l e room_1 s m args below meth c 7 G vwCl A Qf (cells + 40) (slots + 13000) (some ()) M' 2216 [(0, .ref b), (1, .ref ox), (2, .ref om), (3, .ref oj), (4, .int i)] []) : VJ p l e room_1 s m args below meth c 7 G vwCl A Qf cells slots (some ()) M 1325 [(0, .ref b), (1, .ref ox), (2, .ref om), (3, .ref oj), (4, .int i)] [] := by
  obtain ⟨ad, Ix, Rx, rf, ra, ta, ea, wa, adk, Ik, Rk, cmk, adq, Iq, Rq, cmq, adc, Ic, Rc, cmc, adn, In, Rn, AL, AI, AR, rs, RL, adm, I, R, g, hIV, hM⟩ := hM
  obtain ⟨n9, m9, P9, d9, g9, od9, ao9, hc⟩ := hIV
  have C := CX.1
  obtain ⟨x1, hx1⟩ : ∃ z, z = xs (i + 1).toNatClampNeg := ⟨_, rfl⟩
  obtain ⟨x2, hx2⟩ : ∃ z, z = xs (i + 2).toNatClampNeg := ⟨_, rfl⟩
  obtain ⟨out, outM, f5, f6, hC, hv, hI⟩ := sim_likeness (Nat.le_of_ble_eq_true rfl) hc x1 x2
  refine VJ.perm hM ?_
  refine VJ.aload_n C 1 dL_law_1325 rfl ?_
  refine VJ.sarg (j := 1) C hX hbl hbA 0 4 rfl rfl ⟨h1, hx1.symm⟩ (by decide) dL_law_1326 dL_law_1327 dL_law_1329 dL_law_1330 dL_law_1331 ?_
  refine VJ.sarg (j := 2) C hX hbl hbA 0 4 rfl rfl ⟨h2, hx2.symm⟩ (by decide) dL_law_1332 dL_law_1333 dL_law_1335 dL_law_1336 dL_law_1337 ?_
  refine VJ.aload_n C 3 dL_law_1338 rfl ?_
  refine VJ.callW CX hN [.ref ox, .int x1, .int x2, .ref oj] (pf [xW cI cZ ox ad Ix Rx rf, lW cI cZ (rf 1) adk Ik Rk cmk] ++ jW cJ oj g) (pf [mW cI cZ om adm I R, aW cQ (rf 0) ra ta ea wa, lW cI cZ (rf 2) adq Iq Rq cmq, lW cI cZ (rf 3) adc Ic Rc cmc, nW cI cZ (rf 4) adn In Rn, qW cU (rf 5) rs, pW AL AI AR, RW cI cZ RL]) 40 13000 (c_L_likeness l CX.2.2 G cI cZ cQ cU cJ ox oj x1 x2 g (pf [xW cI cZ ox ad Ix Rx rf, lW cI cZ (rf 1) adk Ik Rk cmk]) _ (xF ad Ix rf) rfl (c_X5_likeness l CX.2.2 G cI cZ cQ cU cJ ox ad rf Ix Rx adk Ik Rk cmk x1 x2 out f5) (fun _ _ h => ⟨_, h.2.1 rfl⟩) (fun k _ _ h => hn_12 (by rw [h.1]; exact hC))) (vj_pfj 11 [2, 4, 0, 1, 3, 5, 6, 7, 8, 9, 10] rfl rfl (by decide)) (vx_cwSW 4 C.1.2.2.2.2 gL_law_L_likeness rfl rfl rfl hy_L_likeness ⟨Nat.le_of_ble_eq_true rfl, Nat.le_of_ble_eq_true rfl⟩) rfl rfl (Nat.le_of_ble_eq_true rfl) dL_law_1339 ⟨Nat.le_of_ble_eq_true rfl, Nat.le_of_ble_eq_true rfl⟩ hR ?_
  intro r M1 h9
  obtain ⟨g2, rfl, rfl, hg⟩ := lm_s h9 hC (by decide +kernel) hv
  refine VJ.perm (pf_back _ _ _ _) ?_
  refine VJ.istore C [(5, .int (outM.2.1 0)), (0, .ref b), (1, .ref ox), (2, .ref om), (3, .ref oj), (4, .int i)] dL_law_1342 (Nat.le_of_ble_eq_true rfl) rfl ?_
  refine VJ.aload_n C 3 dL_law_1344 rfl ?_
  refine VJ.sarg (j := 1) C hX hbl hbA 1 5 rfl rfl ⟨h1, hx1.symm⟩ (by decide) dL_law_1345 dL_law_1346 dL_law_1348 dL_law_1349 dL_law_1350 ?_
  refine VJ.sarg (j := 2) C hX hbl hbA 1 5 rfl rfl ⟨h2, hx2.symm⟩ (by decide) dL_law_1351 dL_law_1352 dL_law_1354 dL_law_1355 dL_law_1356 ?_
  refine VJ.callC C [.int x1, .int x2] (pf [mW cI cZ om adm I R]) (pf [jW cJ oj g2, (pf [xW cI cZ ox ad Ix Rx rf, lW cI cZ (rf 1) adk Ik Rk cmk]), aW cQ (rf 0) ra ta ea wa, lW cI cZ (rf 2) adq Iq Rq cmq, lW cI cZ (rf 3) adc Ic Rc cmc, nW cI cZ (rf 4) adn In Rn, qW cU (rf 5) rs, pW AL AI AR, RW cI cZ RL]) (pf [jW cJ oj g2, mW cI cZ om adm (outM.2.1) (outM.2.2), (pf [xW cI cZ ox ad Ix Rx rf, lW cI cZ (rf 1) adk Ik Rk cmk]), aW cQ (rf 0) ra ta ea wa, lW cI cZ (rf 2) adq Iq Rq cmq, lW cI cZ (rf 3) adc Ic Rc cmc, nW cI cZ (rf 4) adn In Rn, qW cU (rf 5) rs, pW AL AI AR, RW cI cZ RL]) (c_X6_likeness l G cI cZ cQ cU cJ 20000 om adm I R x1 x2 outM f6) (pf_m1 _ _ _) (pf_m2 _ _ _) 0 rfl rfl (cwV 2 C.1.2.2.2.2 gL_law_X6_likeness rfl rfl rfl hyV_X6_likeness ⟨Nat.le_of_ble_eq_true rfl, Nat.le_of_ble_eq_true rfl⟩) rfl rfl (Nat.le_of_ble_eq_true rfl) dL_law_1357 ⟨rfl, rfl⟩ hR ?_
  refine VJ.istore C [(6, .int (outM.1)), (5, .int (outM.2.1 0)), (0, .ref b), (1, .ref ox), (2, .ref om), (3, .ref oj), (4, .int i)] dL_law_1360 (Nat.le_of_ble_eq_true rfl) rfl ?_
  refine law_tail 1362 C hR rfl hg dL_law_1362 dL_law_1363 dL_law_1366 dL_law_1368 dL_law_1373 dL_law_1375 dL_law_1378 dL_law_1379 dL_law_1380 dL_law_1381 dL_law_1383 dL_law_1384 dL_law_1385 dL_law_1390 (by decide) ?_
  refine VJ.sub [2, 3, 4, 5, 6] rfl ?_
  exact kk _ ⟨ad, Ix, Rx, rf, ra, ta, ea, wa, adk, Ik, Rk, cmk, adq, Iq, Rq, cmq, adc, Ic, Rc, cmc, adn, In, Rn, AL, AI, AR, rs, RL, adm, outM.2.1, outM.2.2, g2, hI, by rw [pf_nest]; exact vj_pfe 11 [0, 1, 2, 4, 3, 5, 6, 7, 8, 9, 10] rfl rfl (by decide)⟩

set_option maxHeartbeats 8000000 in
set_option maxRecDepth 100000 in
theorem law_doubleOf {p : Program} {l : Launch} {e : Env} {s : State} {m : MethodId} {args : Array Value} {below : List Frame} {meth : Method} {c : Code} {G : va_G} {cI cZ cQ cU cJ : ClassId} {A : Nat → Prop} {Qf : Unit → State → Prop} {cells slots : Nat} {b L : Nat} {xs : Nat → Int32} {ox om oj t : Nat} {M : va_W} {i : Int32} (CX : CxX p l s m args meth c cL_law 7 wsL_law RL G vwCl (tys cI cZ cQ cU cJ) nws strs A) (hN : NC s) (hX : va_X b L xs s s.heap) (hbl : b < s.heap.size) (hbA : ¬ A b) (ht : t ≤ 511) (h1 : vp_in (i + 1) L) (h2 : vp_in (i + 2) L) (h3 : vp_in (i + 3) L) (h4 : vp_in (i + 4) L) (hR : cells + 40 ≤ room_1.cells ∧ slots + 13000 ≤ room_1.slots) (hM : LI cI cZ cQ cU cJ 20000 t ox om oj M) (kk : ∀ M' : va_W, LI cI cZ cQ cU cJ 20000 (t + 1) ox om oj M' → VJ p l e room_1 s m args below meth c 7 G vwCl A Qf (cells + 40) (slots + 13000) (some ()) M' 2216 [(0, .ref b), (1, .ref ox), (2, .ref om), (3, .ref oj), (4, .int i)] []) : VJ p l e room_1 s m args below meth c 7 G vwCl A Qf cells slots (some ()) M 1393 [(0, .ref b), (1, .ref ox), (2, .ref om), (3, .ref oj), (4, .int i)] [] := by
  obtain ⟨ad, Ix, Rx, rf, ra, ta, ea, wa, adk, Ik, Rk, cmk, adq, Iq, Rq, cmq, adc, Ic, Rc, cmc, adn, In, Rn, AL, AI, AR, rs, RL, adm, I, R, g, hIV, hM⟩ := hM
  obtain ⟨n9, m9, P9, d9, g9, od9, ao9, hc⟩ := hIV
  have C := CX.1
  obtain ⟨x1, hx1⟩ : ∃ z, z = xs (i + 1).toNatClampNeg := ⟨_, rfl⟩
  obtain ⟨out, outM, f5, f6, hC, hv, hI⟩ := sim_doubleOf (Nat.le_of_ble_eq_true rfl) hc x1
  refine VJ.perm hM ?_
  refine VJ.aload_n C 1 dL_law_1393 rfl ?_
  refine VJ.sarg (j := 1) C hX hbl hbA 0 4 rfl rfl ⟨h1, hx1.symm⟩ (by decide) dL_law_1394 dL_law_1395 dL_law_1397 dL_law_1398 dL_law_1399 ?_
  refine VJ.aload_n C 3 dL_law_1400 rfl ?_
  refine VJ.callW CX hN [.ref ox, .int x1, .ref oj] (pf [xW cI cZ ox ad Ix Rx rf, lW cI cZ (rf 1) adk Ik Rk cmk] ++ jW cJ oj g) (pf [mW cI cZ om adm I R, aW cQ (rf 0) ra ta ea wa, lW cI cZ (rf 2) adq Iq Rq cmq, lW cI cZ (rf 3) adc Ic Rc cmc, nW cI cZ (rf 4) adn In Rn, qW cU (rf 5) rs, pW AL AI AR, RW cI cZ RL]) 40 13000 (c_L_doubleOf l CX.2.2 G cI cZ cQ cU cJ ox oj x1 g (pf [xW cI cZ ox ad Ix Rx rf, lW cI cZ (rf 1) adk Ik Rk cmk]) _ (xF ad Ix rf) rfl (c_X5_doubleOf l CX.2.2 G cI cZ cQ cU cJ 20000 ox ad rf Ix Rx adk Ik Rk cmk x1 out f5) (fun _ _ h => ⟨_, h.2.1 rfl⟩) (fun k _ _ h => hn_1 (by rw [h.1]; exact hC))) (vj_pfj 11 [2, 4, 0, 1, 3, 5, 6, 7, 8, 9, 10] rfl rfl (by decide)) (vx_cwSW 3 C.1.2.2.2.2 gL_law_L_doubleOf rfl rfl rfl hy_L_doubleOf ⟨Nat.le_of_ble_eq_true rfl, Nat.le_of_ble_eq_true rfl⟩) rfl rfl (Nat.le_of_ble_eq_true rfl) dL_law_1401 ⟨Nat.le_of_ble_eq_true rfl, Nat.le_of_ble_eq_true rfl⟩ hR ?_
  intro r M1 h9
  obtain ⟨g2, rfl, rfl, hg⟩ := lm_s h9 hC (by decide +kernel) hv
  refine VJ.perm (pf_back _ _ _ _) ?_
  refine VJ.istore C [(5, .int (outM.2.1 0)), (0, .ref b), (1, .ref ox), (2, .ref om), (3, .ref oj), (4, .int i)] dL_law_1404 (Nat.le_of_ble_eq_true rfl) rfl ?_
  refine VJ.aload_n C 3 dL_law_1406 rfl ?_
  refine VJ.sarg (j := 1) C hX hbl hbA 1 5 rfl rfl ⟨h1, hx1.symm⟩ (by decide) dL_law_1407 dL_law_1408 dL_law_1410 dL_law_1411 dL_law_1412 ?_
  refine VJ.callC C [.int x1] (pf [mW cI cZ om adm I R]) (pf [jW cJ oj g2, (pf [xW cI cZ ox ad Ix Rx rf, lW cI cZ (rf 1) adk Ik Rk cmk]), aW cQ (rf 0) ra ta ea wa, lW cI cZ (rf 2) adq Iq Rq cmq, lW cI cZ (rf 3) adc Ic Rc cmc, nW cI cZ (rf 4) adn In Rn, qW cU (rf 5) rs, pW AL AI AR, RW cI cZ RL]) (pf [jW cJ oj g2, mW cI cZ om adm (outM.2.1) (outM.2.2), (pf [xW cI cZ ox ad Ix Rx rf, lW cI cZ (rf 1) adk Ik Rk cmk]), aW cQ (rf 0) ra ta ea wa, lW cI cZ (rf 2) adq Iq Rq cmq, lW cI cZ (rf 3) adc Ic Rc cmc, nW cI cZ (rf 4) adn In Rn, qW cU (rf 5) rs, pW AL AI AR, RW cI cZ RL]) (c_X6_doubleOf l G cI cZ cQ cU cJ 20000 om adm I R x1 outM f6) (pf_m1 _ _ _) (pf_m2 _ _ _) 0 rfl rfl (cwV 1 C.1.2.2.2.2 gL_law_X6_doubleOf rfl rfl rfl hyV_X6_doubleOf ⟨Nat.le_of_ble_eq_true rfl, Nat.le_of_ble_eq_true rfl⟩) rfl rfl (Nat.le_of_ble_eq_true rfl) dL_law_1413 ⟨rfl, rfl⟩ hR ?_
  refine VJ.istore C [(6, .int (outM.1)), (5, .int (outM.2.1 0)), (0, .ref b), (1, .ref ox), (2, .ref om), (3, .ref oj), (4, .int i)] dL_law_1416 (Nat.le_of_ble_eq_true rfl) rfl ?_
  refine law_tail 1418 C hR rfl hg dL_law_1418 dL_law_1419 dL_law_1422 dL_law_1424 dL_law_1429 dL_law_1431 dL_law_1434 dL_law_1435 dL_law_1436 dL_law_1437 dL_law_1439 dL_law_1440 dL_law_1441 dL_law_1446 (by decide) ?_
  refine VJ.sub [2, 3, 4, 5, 6] rfl ?_
  exact kk _ ⟨ad, Ix, Rx, rf, ra, ta, ea, wa, adk, Ik, Rk, cmk, adq, Iq, Rq, cmq, adc, Ic, Rc, cmc, adn, In, Rn, AL, AI, AR, rs, RL, adm, outM.2.1, outM.2.2, g2, hI, by rw [pf_nest]; exact vj_pfe 11 [0, 1, 2, 4, 3, 5, 6, 7, 8, 9, 10] rfl rfl (by decide)⟩

set_option maxHeartbeats 8000000 in
set_option maxRecDepth 100000 in
theorem law_renumber {p : Program} {l : Launch} {e : Env} {s : State} {m : MethodId} {args : Array Value} {below : List Frame} {meth : Method} {c : Code} {G : va_G} {cI cZ cQ cU cJ : ClassId} {A : Nat → Prop} {Qf : Unit → State → Prop} {cells slots : Nat} {b L : Nat} {xs : Nat → Int32} {ox om oj t : Nat} {M : va_W} {i : Int32} (CX : CxX p l s m args meth c cL_law 7 wsL_law RL G vwCl (tys cI cZ cQ cU cJ) nws strs A) (hN : NC s) (hX : va_X b L xs s s.heap) (hbl : b < s.heap.size) (hbA : ¬ A b) (ht : t ≤ 511) (h1 : vp_in (i + 1) L) (h2 : vp_in (i + 2) L) (h3 : vp_in (i + 3) L) (h4 : vp_in (i + 4) L) (hR : cells + 40 ≤ room_1.cells ∧ slots + 13000 ≤ room_1.slots) (hM : LI cI cZ cQ cU cJ 20000 t ox om oj M) (kk : ∀ M' : va_W, LI cI cZ cQ cU cJ 20000 (t + 1) ox om oj M' → VJ p l e room_1 s m args below meth c 7 G vwCl A Qf (cells + 40) (slots + 13000) (some ()) M' 2216 [(0, .ref b), (1, .ref ox), (2, .ref om), (3, .ref oj), (4, .int i)] []) : VJ p l e room_1 s m args below meth c 7 G vwCl A Qf cells slots (some ()) M 1449 [(0, .ref b), (1, .ref ox), (2, .ref om), (3, .ref oj), (4, .int i)] [] := by
  obtain ⟨ad, Ix, Rx, rf, ra, ta, ea, wa, adk, Ik, Rk, cmk, adq, Iq, Rq, cmq, adc, Ic, Rc, cmc, adn, In, Rn, AL, AI, AR, rs, RL, adm, I, R, g, hIV, hM⟩ := hM
  obtain ⟨n9, m9, P9, d9, g9, od9, ao9, hc⟩ := hIV
  have C := CX.1
  obtain ⟨x1, hx1⟩ : ∃ z, z = xs (i + 1).toNatClampNeg := ⟨_, rfl⟩
  obtain ⟨out, outM, f5, f6, hC, hv, hI⟩ := sim_renumber (Nat.le_of_ble_eq_true rfl) hc x1
  refine VJ.perm hM ?_
  refine VJ.aload_n C 1 dL_law_1449 rfl ?_
  refine VJ.sarg (j := 1) C hX hbl hbA 0 4 rfl rfl ⟨h1, hx1.symm⟩ (by decide) dL_law_1450 dL_law_1451 dL_law_1453 dL_law_1454 dL_law_1455 ?_
  refine VJ.aload_n C 3 dL_law_1456 rfl ?_
  refine VJ.callW CX hN [.ref ox, .int x1, .ref oj] (pf [xW cI cZ ox ad Ix Rx rf, nW cI cZ (rf 4) adn In Rn] ++ jW cJ oj g) (pf [mW cI cZ om adm I R, aW cQ (rf 0) ra ta ea wa, lW cI cZ (rf 1) adk Ik Rk cmk, lW cI cZ (rf 2) adq Iq Rq cmq, lW cI cZ (rf 3) adc Ic Rc cmc, qW cU (rf 5) rs, pW AL AI AR, RW cI cZ RL]) 40 13000 (c_L_renumber l CX.2.2 G cI cZ cQ cU cJ ox oj x1 g (pf [xW cI cZ ox ad Ix Rx rf, nW cI cZ (rf 4) adn In Rn]) _ (xF ad Ix rf) rfl (c_X5_renumber l CX.2.2 G cI cZ cQ cU cJ 20000 ox ad rf Ix Rx adn In Rn x1 out f5) (fun _ _ h => ⟨_, h.2.1 rfl⟩) (fun k _ _ h => hn_13 (by rw [h.1]; exact hC))) (vj_pfj 11 [2, 7, 0, 1, 3, 4, 5, 6, 8, 9, 10] rfl rfl (by decide)) (vx_cwSW 3 C.1.2.2.2.2 gL_law_L_renumber rfl rfl rfl hy_L_renumber ⟨Nat.le_of_ble_eq_true rfl, Nat.le_of_ble_eq_true rfl⟩) rfl rfl (Nat.le_of_ble_eq_true rfl) dL_law_1457 ⟨Nat.le_of_ble_eq_true rfl, Nat.le_of_ble_eq_true rfl⟩ hR ?_
  intro r M1 h9
  obtain ⟨g2, rfl, rfl, hg⟩ := lm_s h9 hC (by decide +kernel) hv
  refine VJ.perm (pf_back _ _ _ _) ?_
  refine VJ.istore C [(5, .int (outM.2.1 0)), (0, .ref b), (1, .ref ox), (2, .ref om), (3, .ref oj), (4, .int i)] dL_law_1460 (Nat.le_of_ble_eq_true rfl) rfl ?_
  refine VJ.aload_n C 3 dL_law_1462 rfl ?_
  refine VJ.sarg (j := 1) C hX hbl hbA 1 5 rfl rfl ⟨h1, hx1.symm⟩ (by decide) dL_law_1463 dL_law_1464 dL_law_1466 dL_law_1467 dL_law_1468 ?_
  refine VJ.callC C [.int x1] (pf [mW cI cZ om adm I R]) (pf [jW cJ oj g2, (pf [xW cI cZ ox ad Ix Rx rf, nW cI cZ (rf 4) adn out.2.2.1 out.2.2.2]), aW cQ (rf 0) ra ta ea wa, lW cI cZ (rf 1) adk Ik Rk cmk, lW cI cZ (rf 2) adq Iq Rq cmq, lW cI cZ (rf 3) adc Ic Rc cmc, qW cU (rf 5) rs, pW AL AI AR, RW cI cZ RL]) (pf [jW cJ oj g2, mW cI cZ om adm (outM.2.1) (outM.2.2), (pf [xW cI cZ ox ad Ix Rx rf, nW cI cZ (rf 4) adn out.2.2.1 out.2.2.2]), aW cQ (rf 0) ra ta ea wa, lW cI cZ (rf 1) adk Ik Rk cmk, lW cI cZ (rf 2) adq Iq Rq cmq, lW cI cZ (rf 3) adc Ic Rc cmc, qW cU (rf 5) rs, pW AL AI AR, RW cI cZ RL]) (c_X6_renumber l G cI cZ cQ cU cJ 20000 om adm I R x1 outM f6) (pf_m1 _ _ _) (pf_m2 _ _ _) 0 rfl rfl (cwV 1 C.1.2.2.2.2 gL_law_X6_renumber rfl rfl rfl hyV_X6_renumber ⟨Nat.le_of_ble_eq_true rfl, Nat.le_of_ble_eq_true rfl⟩) rfl rfl (Nat.le_of_ble_eq_true rfl) dL_law_1469 ⟨rfl, rfl⟩ hR ?_
  refine VJ.istore C [(6, .int (outM.1)), (5, .int (outM.2.1 0)), (0, .ref b), (1, .ref ox), (2, .ref om), (3, .ref oj), (4, .int i)] dL_law_1472 (Nat.le_of_ble_eq_true rfl) rfl ?_
  refine law_tail 1474 C hR rfl hg dL_law_1474 dL_law_1475 dL_law_1478 dL_law_1480 dL_law_1485 dL_law_1487 dL_law_1490 dL_law_1491 dL_law_1492 dL_law_1493 dL_law_1495 dL_law_1496 dL_law_1497 dL_law_1502 (by decide) ?_
  refine VJ.sub [2, 3, 4, 5, 6] rfl ?_
  exact kk _ ⟨ad, Ix, Rx, rf, ra, ta, ea, wa, adk, Ik, Rk, cmk, adq, Iq, Rq, cmq, adc, Ic, Rc, cmc, adn, out.2.2.1, out.2.2.2, AL, AI, AR, rs, RL, adm, outM.2.1, outM.2.2, g2, hI, by rw [pf_nest]; exact vj_pfe 11 [0, 1, 2, 4, 5, 6, 7, 3, 8, 9, 10] rfl rfl (by decide)⟩

set_option maxHeartbeats 8000000 in
set_option maxRecDepth 100000 in
theorem law_number {p : Program} {l : Launch} {e : Env} {s : State} {m : MethodId} {args : Array Value} {below : List Frame} {meth : Method} {c : Code} {G : va_G} {cI cZ cQ cU cJ : ClassId} {A : Nat → Prop} {Qf : Unit → State → Prop} {cells slots : Nat} {b L : Nat} {xs : Nat → Int32} {ox om oj t : Nat} {M : va_W} {i : Int32} (CX : CxX p l s m args meth c cL_law 7 wsL_law RL G vwCl (tys cI cZ cQ cU cJ) nws strs A) (hN : NC s) (hX : va_X b L xs s s.heap) (hbl : b < s.heap.size) (hbA : ¬ A b) (ht : t ≤ 511) (h1 : vp_in (i + 1) L) (h2 : vp_in (i + 2) L) (h3 : vp_in (i + 3) L) (h4 : vp_in (i + 4) L) (hR : cells + 40 ≤ room_1.cells ∧ slots + 13000 ≤ room_1.slots) (hM : LI cI cZ cQ cU cJ 20000 t ox om oj M) (kk : ∀ M' : va_W, LI cI cZ cQ cU cJ 20000 (t + 1) ox om oj M' → VJ p l e room_1 s m args below meth c 7 G vwCl A Qf (cells + 40) (slots + 13000) (some ()) M' 2216 [(0, .ref b), (1, .ref ox), (2, .ref om), (3, .ref oj), (4, .int i)] []) : VJ p l e room_1 s m args below meth c 7 G vwCl A Qf cells slots (some ()) M 1505 [(0, .ref b), (1, .ref ox), (2, .ref om), (3, .ref oj), (4, .int i)] [] := by
  obtain ⟨ad, Ix, Rx, rf, ra, ta, ea, wa, adk, Ik, Rk, cmk, adq, Iq, Rq, cmq, adc, Ic, Rc, cmc, adn, In, Rn, AL, AI, AR, rs, RL, adm, I, R, g, hIV, hM⟩ := hM
  obtain ⟨n9, m9, P9, d9, g9, od9, ao9, hc⟩ := hIV
  have C := CX.1
  obtain ⟨x1, hx1⟩ : ∃ z, z = xs (i + 1).toNatClampNeg := ⟨_, rfl⟩
  obtain ⟨out, outM, f5, f6, hC, hv, hI⟩ := sim_number (Nat.le_of_ble_eq_true rfl) hc x1
  refine VJ.perm hM ?_
  refine VJ.aload_n C 1 dL_law_1505 rfl ?_
  refine VJ.sarg (j := 1) C hX hbl hbA 0 4 rfl rfl ⟨h1, hx1.symm⟩ (by decide) dL_law_1506 dL_law_1507 dL_law_1509 dL_law_1510 dL_law_1511 ?_
  refine VJ.aload_n C 3 dL_law_1512 rfl ?_
  refine VJ.callW CX hN [.ref ox, .int x1, .ref oj] (pf [xW cI cZ ox ad Ix Rx rf, nW cI cZ (rf 4) adn In Rn] ++ jW cJ oj g) (pf [mW cI cZ om adm I R, aW cQ (rf 0) ra ta ea wa, lW cI cZ (rf 1) adk Ik Rk cmk, lW cI cZ (rf 2) adq Iq Rq cmq, lW cI cZ (rf 3) adc Ic Rc cmc, qW cU (rf 5) rs, pW AL AI AR, RW cI cZ RL]) 40 13000 (c_L_number l CX.2.2 G cI cZ cQ cU cJ ox oj x1 g (pf [xW cI cZ ox ad Ix Rx rf, nW cI cZ (rf 4) adn In Rn]) _ (xF ad Ix rf) rfl (c_X5_number l CX.2.2 G cI cZ cQ cU cJ 20000 ox ad rf Ix Rx adn In Rn x1 out f5) (fun _ _ h => ⟨_, h.2.1 rfl⟩) (fun k _ _ h => hn_1 (by rw [h.1]; exact hC))) (vj_pfj 11 [2, 7, 0, 1, 3, 4, 5, 6, 8, 9, 10] rfl rfl (by decide)) (vx_cwSW 3 C.1.2.2.2.2 gL_law_L_number rfl rfl rfl hy_L_number ⟨Nat.le_of_ble_eq_true rfl, Nat.le_of_ble_eq_true rfl⟩) rfl rfl (Nat.le_of_ble_eq_true rfl) dL_law_1513 ⟨Nat.le_of_ble_eq_true rfl, Nat.le_of_ble_eq_true rfl⟩ hR ?_
  intro r M1 h9
  obtain ⟨g2, rfl, rfl, hg⟩ := lm_s h9 hC (by decide +kernel) hv
  refine VJ.perm (pf_back _ _ _ _) ?_
  refine VJ.istore C [(5, .int (outM.2 0)), (0, .ref b), (1, .ref ox), (2, .ref om), (3, .ref oj), (4, .int i)] dL_law_1516 (Nat.le_of_ble_eq_true rfl) rfl ?_
  refine VJ.aload_n C 3 dL_law_1518 rfl ?_
  refine VJ.sarg (j := 1) C hX hbl hbA 1 5 rfl rfl ⟨h1, hx1.symm⟩ (by decide) dL_law_1519 dL_law_1520 dL_law_1522 dL_law_1523 dL_law_1524 ?_
  refine VJ.callC C [.int x1] (pf [mW cI cZ om adm I R]) (pf [jW cJ oj g2, (pf [xW cI cZ ox ad Ix Rx rf, nW cI cZ (rf 4) adn In Rn]), aW cQ (rf 0) ra ta ea wa, lW cI cZ (rf 1) adk Ik Rk cmk, lW cI cZ (rf 2) adq Iq Rq cmq, lW cI cZ (rf 3) adc Ic Rc cmc, qW cU (rf 5) rs, pW AL AI AR, RW cI cZ RL]) (pf [jW cJ oj g2, mW cI cZ om adm (outM.2) (R), (pf [xW cI cZ ox ad Ix Rx rf, nW cI cZ (rf 4) adn In Rn]), aW cQ (rf 0) ra ta ea wa, lW cI cZ (rf 1) adk Ik Rk cmk, lW cI cZ (rf 2) adq Iq Rq cmq, lW cI cZ (rf 3) adc Ic Rc cmc, qW cU (rf 5) rs, pW AL AI AR, RW cI cZ RL]) (c_X6_number l G cI cZ cQ cU cJ 20000 om adm I R x1 outM f6) (pf_m1 _ _ _) (pf_m2 _ _ _) 0 rfl rfl (cwV 1 C.1.2.2.2.2 gL_law_X6_number rfl rfl rfl hyV_X6_number ⟨Nat.le_of_ble_eq_true rfl, Nat.le_of_ble_eq_true rfl⟩) rfl rfl (Nat.le_of_ble_eq_true rfl) dL_law_1525 ⟨rfl, rfl⟩ hR ?_
  refine VJ.istore C [(6, .int (outM.1)), (5, .int (outM.2 0)), (0, .ref b), (1, .ref ox), (2, .ref om), (3, .ref oj), (4, .int i)] dL_law_1528 (Nat.le_of_ble_eq_true rfl) rfl ?_
  refine law_tail 1530 C hR rfl hg dL_law_1530 dL_law_1531 dL_law_1534 dL_law_1536 dL_law_1541 dL_law_1543 dL_law_1546 dL_law_1547 dL_law_1548 dL_law_1549 dL_law_1551 dL_law_1552 dL_law_1553 dL_law_1558 (by decide) ?_
  refine VJ.sub [2, 3, 4, 5, 6] rfl ?_
  exact kk _ ⟨ad, Ix, Rx, rf, ra, ta, ea, wa, adk, Ik, Rk, cmk, adq, Iq, Rq, cmq, adc, Ic, Rc, cmc, adn, In, Rn, AL, AI, AR, rs, RL, adm, outM.2, R, g2, hI, by rw [pf_nest]; exact vj_pfe 11 [0, 1, 2, 4, 5, 6, 7, 3, 8, 9, 10] rfl rfl (by decide)⟩

set_option maxHeartbeats 8000000 in
set_option maxRecDepth 100000 in
theorem law_bearer {p : Program} {l : Launch} {e : Env} {s : State} {m : MethodId} {args : Array Value} {below : List Frame} {meth : Method} {c : Code} {G : va_G} {cI cZ cQ cU cJ : ClassId} {A : Nat → Prop} {Qf : Unit → State → Prop} {cells slots : Nat} {b L : Nat} {xs : Nat → Int32} {ox om oj t : Nat} {M : va_W} {i : Int32} (CX : CxX p l s m args meth c cL_law 7 wsL_law RL G vwCl (tys cI cZ cQ cU cJ) nws strs A) (hN : NC s) (hX : va_X b L xs s s.heap) (hbl : b < s.heap.size) (hbA : ¬ A b) (ht : t ≤ 511) (h1 : vp_in (i + 1) L) (h2 : vp_in (i + 2) L) (h3 : vp_in (i + 3) L) (h4 : vp_in (i + 4) L) (hR : cells + 40 ≤ room_1.cells ∧ slots + 13000 ≤ room_1.slots) (hM : LI cI cZ cQ cU cJ 20000 t ox om oj M) (kk : ∀ M' : va_W, LI cI cZ cQ cU cJ 20000 (t + 1) ox om oj M' → VJ p l e room_1 s m args below meth c 7 G vwCl A Qf (cells + 40) (slots + 13000) (some ()) M' 2216 [(0, .ref b), (1, .ref ox), (2, .ref om), (3, .ref oj), (4, .int i)] []) : VJ p l e room_1 s m args below meth c 7 G vwCl A Qf cells slots (some ()) M 1561 [(0, .ref b), (1, .ref ox), (2, .ref om), (3, .ref oj), (4, .int i)] [] := by
  obtain ⟨ad, Ix, Rx, rf, ra, ta, ea, wa, adk, Ik, Rk, cmk, adq, Iq, Rq, cmq, adc, Ic, Rc, cmc, adn, In, Rn, AL, AI, AR, rs, RL, adm, I, R, g, hIV, hM⟩ := hM
  obtain ⟨n9, m9, P9, d9, g9, od9, ao9, hc⟩ := hIV
  have C := CX.1
  obtain ⟨x1, hx1⟩ : ∃ z, z = xs (i + 1).toNatClampNeg := ⟨_, rfl⟩
  obtain ⟨out, outM, f5, f6, hC, hv, hI⟩ := sim_bearer (Nat.le_of_ble_eq_true rfl) hc x1
  refine VJ.perm hM ?_
  refine VJ.aload_n C 1 dL_law_1561 rfl ?_
  refine VJ.sarg (j := 1) C hX hbl hbA 0 4 rfl rfl ⟨h1, hx1.symm⟩ (by decide) dL_law_1562 dL_law_1563 dL_law_1565 dL_law_1566 dL_law_1567 ?_
  refine VJ.aload_n C 3 dL_law_1568 rfl ?_
  refine VJ.callW CX hN [.ref ox, .int x1, .ref oj] (pf [xW cI cZ ox ad Ix Rx rf, nW cI cZ (rf 4) adn In Rn] ++ jW cJ oj g) (pf [mW cI cZ om adm I R, aW cQ (rf 0) ra ta ea wa, lW cI cZ (rf 1) adk Ik Rk cmk, lW cI cZ (rf 2) adq Iq Rq cmq, lW cI cZ (rf 3) adc Ic Rc cmc, qW cU (rf 5) rs, pW AL AI AR, RW cI cZ RL]) 40 13000 (c_L_bearer l CX.2.2 G cI cZ cQ cU cJ ox oj x1 g (pf [xW cI cZ ox ad Ix Rx rf, nW cI cZ (rf 4) adn In Rn]) _ (xF ad Ix rf) rfl (c_X5_bearer l CX.2.2 G cI cZ cQ cU cJ 20000 ox ad rf Ix Rx adn In Rn x1 out f5) (fun _ _ h => ⟨_, h.2.1 rfl⟩) (fun k _ _ h => hn_2 (by rw [h.1]; exact hC))) (vj_pfj 11 [2, 7, 0, 1, 3, 4, 5, 6, 8, 9, 10] rfl rfl (by decide)) (vx_cwSW 3 C.1.2.2.2.2 gL_law_L_bearer rfl rfl rfl hy_L_bearer ⟨Nat.le_of_ble_eq_true rfl, Nat.le_of_ble_eq_true rfl⟩) rfl rfl (Nat.le_of_ble_eq_true rfl) dL_law_1569 ⟨Nat.le_of_ble_eq_true rfl, Nat.le_of_ble_eq_true rfl⟩ hR ?_
  intro r M1 h9
  obtain ⟨g2, rfl, rfl, hg⟩ := lm_s h9 hC (by decide +kernel) hv
  refine VJ.perm (pf_back _ _ _ _) ?_
  refine VJ.istore C [(5, .int (outM.2 0)), (0, .ref b), (1, .ref ox), (2, .ref om), (3, .ref oj), (4, .int i)] dL_law_1572 (Nat.le_of_ble_eq_true rfl) rfl ?_
  refine VJ.aload_n C 3 dL_law_1574 rfl ?_
  refine VJ.sarg (j := 1) C hX hbl hbA 1 5 rfl rfl ⟨h1, hx1.symm⟩ (by decide) dL_law_1575 dL_law_1576 dL_law_1578 dL_law_1579 dL_law_1580 ?_
  refine VJ.callC C [.int x1] (pf [mW cI cZ om adm I R]) (pf [jW cJ oj g2, (pf [xW cI cZ ox ad Ix Rx rf, nW cI cZ (rf 4) adn In Rn]), aW cQ (rf 0) ra ta ea wa, lW cI cZ (rf 1) adk Ik Rk cmk, lW cI cZ (rf 2) adq Iq Rq cmq, lW cI cZ (rf 3) adc Ic Rc cmc, qW cU (rf 5) rs, pW AL AI AR, RW cI cZ RL]) (pf [jW cJ oj g2, mW cI cZ om adm (outM.2) (R), (pf [xW cI cZ ox ad Ix Rx rf, nW cI cZ (rf 4) adn In Rn]), aW cQ (rf 0) ra ta ea wa, lW cI cZ (rf 1) adk Ik Rk cmk, lW cI cZ (rf 2) adq Iq Rq cmq, lW cI cZ (rf 3) adc Ic Rc cmc, qW cU (rf 5) rs, pW AL AI AR, RW cI cZ RL]) (c_X6_bearer l G cI cZ cQ cU cJ 20000 om adm I R x1 outM f6) (pf_m1 _ _ _) (pf_m2 _ _ _) 0 rfl rfl (cwV 1 C.1.2.2.2.2 gL_law_X6_bearer rfl rfl rfl hyV_X6_bearer ⟨Nat.le_of_ble_eq_true rfl, Nat.le_of_ble_eq_true rfl⟩) rfl rfl (Nat.le_of_ble_eq_true rfl) dL_law_1581 ⟨rfl, rfl⟩ hR ?_
  refine VJ.istore C [(6, .int (outM.1)), (5, .int (outM.2 0)), (0, .ref b), (1, .ref ox), (2, .ref om), (3, .ref oj), (4, .int i)] dL_law_1584 (Nat.le_of_ble_eq_true rfl) rfl ?_
  refine law_tail 1586 C hR rfl hg dL_law_1586 dL_law_1587 dL_law_1590 dL_law_1592 dL_law_1597 dL_law_1599 dL_law_1602 dL_law_1603 dL_law_1604 dL_law_1605 dL_law_1607 dL_law_1608 dL_law_1609 dL_law_1614 (by decide) ?_
  refine VJ.sub [2, 3, 4, 5, 6] rfl ?_
  exact kk _ ⟨ad, Ix, Rx, rf, ra, ta, ea, wa, adk, Ik, Rk, cmk, adq, Iq, Rq, cmq, adc, Ic, Rc, cmc, adn, In, Rn, AL, AI, AR, rs, RL, adm, outM.2, R, g2, hI, by rw [pf_nest]; exact vj_pfe 11 [0, 1, 2, 4, 5, 6, 7, 3, 8, 9, 10] rfl rfl (by decide)⟩

set_option maxHeartbeats 8000000 in
set_option maxRecDepth 100000 in
theorem law_roll {p : Program} {l : Launch} {e : Env} {s : State} {m : MethodId} {args : Array Value} {below : List Frame} {meth : Method} {c : Code} {G : va_G} {cI cZ cQ cU cJ : ClassId} {A : Nat → Prop} {Qf : Unit → State → Prop} {cells slots : Nat} {b L : Nat} {xs : Nat → Int32} {ox om oj t : Nat} {M : va_W} {i : Int32} (CX : CxX p l s m args meth c cL_law 7 wsL_law RL G vwCl (tys cI cZ cQ cU cJ) nws strs A) (hN : NC s) (hX : va_X b L xs s s.heap) (hbl : b < s.heap.size) (hbA : ¬ A b) (ht : t ≤ 511) (h1 : vp_in (i + 1) L) (h2 : vp_in (i + 2) L) (h3 : vp_in (i + 3) L) (h4 : vp_in (i + 4) L) (hR : cells + 40 ≤ room_1.cells ∧ slots + 13000 ≤ room_1.slots) (hM : LI cI cZ cQ cU cJ 20000 t ox om oj M) (kk : ∀ M' : va_W, LI cI cZ cQ cU cJ 20000 (t + 1) ox om oj M' → VJ p l e room_1 s m args below meth c 7 G vwCl A Qf (cells + 40) (slots + 13000) (some ()) M' 2216 [(0, .ref b), (1, .ref ox), (2, .ref om), (3, .ref oj), (4, .int i)] []) : VJ p l e room_1 s m args below meth c 7 G vwCl A Qf cells slots (some ()) M 1617 [(0, .ref b), (1, .ref ox), (2, .ref om), (3, .ref oj), (4, .int i)] [] := by
  obtain ⟨ad, Ix, Rx, rf, ra, ta, ea, wa, adk, Ik, Rk, cmk, adq, Iq, Rq, cmq, adc, Ic, Rc, cmc, adn, In, Rn, AL, AI, AR, rs, RL, adm, I, R, g, hIV, hM⟩ := hM
  obtain ⟨n9, m9, P9, d9, g9, od9, ao9, hc⟩ := hIV
  have C := CX.1
  obtain ⟨x1, hx1⟩ : ∃ z, z = xs (i + 1).toNatClampNeg := ⟨_, rfl⟩
  obtain ⟨x2, hx2⟩ : ∃ z, z = xs (i + 2).toNatClampNeg := ⟨_, rfl⟩
  obtain ⟨out, outM, f5, f6, hC, hI1, hI2⟩ := sim_roll hc x1 x2
  refine VJ.perm hM ?_
  refine VJ.aload_n C 1 dL_law_1617 rfl ?_
  refine VJ.sarg (j := 1) C hX hbl hbA 0 4 rfl rfl ⟨h1, hx1.symm⟩ (by decide) dL_law_1618 dL_law_1619 dL_law_1621 dL_law_1622 dL_law_1623 ?_
  refine VJ.sarg (j := 2) C hX hbl hbA 0 4 rfl rfl ⟨h2, hx2.symm⟩ (by decide) dL_law_1624 dL_law_1625 dL_law_1627 dL_law_1628 dL_law_1629 ?_
  refine VJ.aload_n C 3 dL_law_1630 rfl ?_
  refine VJ.callW CX hN [.ref ox, .int x1, .int x2, .ref oj] (pf [xW cI cZ ox ad Ix Rx rf, qW cU (rf 5) rs] ++ jW cJ oj g) (pf [mW cI cZ om adm I R, aW cQ (rf 0) ra ta ea wa, lW cI cZ (rf 1) adk Ik Rk cmk, lW cI cZ (rf 2) adq Iq Rq cmq, lW cI cZ (rf 3) adc Ic Rc cmc, nW cI cZ (rf 4) adn In Rn, pW AL AI AR, RW cI cZ RL]) 40 13000 (c_L_roll l CX.2.2 G cI cZ cQ cU cJ ox oj x1 x2 g (pf [xW cI cZ ox ad Ix Rx rf, qW cU (rf 5) rs]) _ (xF ad Ix rf) rfl (c_X5_roll l CX.2.2 G cI cZ cQ cU cJ ox ad rf Ix Rx rs x1 x2 out f5) (fun _ _ h => ⟨_, (h.2.1 rfl).1⟩) (fun k _ _ h => hn_123 (by rw [h.1]; exact hC))) (vj_pfj 11 [2, 8, 0, 1, 3, 4, 5, 6, 7, 9, 10] rfl rfl (by decide)) (vx_cwSW 4 C.1.2.2.2.2 gL_law_L_roll rfl rfl rfl hy_L_roll ⟨Nat.le_of_ble_eq_true rfl, Nat.le_of_ble_eq_true rfl⟩) rfl rfl (Nat.le_of_ble_eq_true rfl) dL_law_1631 ⟨Nat.le_of_ble_eq_true rfl, Nat.le_of_ble_eq_true rfl⟩ hR ?_
  intro r M1 h9
  obtain ⟨g2, Wn, rfl, rfl, hg, hW⟩ := lm_r h9 hC (by decide +kernel) (fun h => (hI1 h).1)
  refine VJ.perm (pf_back _ _ _ _) ?_
  refine VJ.istore C [(5, .int (outM.2.1 0)), (0, .ref b), (1, .ref ox), (2, .ref om), (3, .ref oj), (4, .int i)] dL_law_1634 (Nat.le_of_ble_eq_true rfl) rfl ?_
  refine VJ.aload_n C 3 dL_law_1636 rfl ?_
  refine VJ.sarg (j := 1) C hX hbl hbA 1 5 rfl rfl ⟨h1, hx1.symm⟩ (by decide) dL_law_1637 dL_law_1638 dL_law_1640 dL_law_1641 dL_law_1642 ?_
  refine VJ.sarg (j := 2) C hX hbl hbA 1 5 rfl rfl ⟨h2, hx2.symm⟩ (by decide) dL_law_1643 dL_law_1644 dL_law_1646 dL_law_1647 dL_law_1648 ?_
  refine VJ.callC C [.int x1, .int x2] (pf [mW cI cZ om adm I R]) (pf [jW cJ oj g2, Wn, aW cQ (rf 0) ra ta ea wa, lW cI cZ (rf 1) adk Ik Rk cmk, lW cI cZ (rf 2) adq Iq Rq cmq, lW cI cZ (rf 3) adc Ic Rc cmc, nW cI cZ (rf 4) adn In Rn, pW AL AI AR, RW cI cZ RL]) (pf [jW cJ oj g2, mW cI cZ om adm (outM.2.1) (outM.2.2), Wn, aW cQ (rf 0) ra ta ea wa, lW cI cZ (rf 1) adk Ik Rk cmk, lW cI cZ (rf 2) adq Iq Rq cmq, lW cI cZ (rf 3) adc Ic Rc cmc, nW cI cZ (rf 4) adn In Rn, pW AL AI AR, RW cI cZ RL]) (c_X6_roll l G cI cZ cQ cU cJ om adm I R x1 x2 outM f6) (pf_m1 _ _ _) (pf_m2 _ _ _) 0 rfl rfl (cwV 2 C.1.2.2.2.2 gL_law_X6_roll rfl rfl rfl hyV_X6_roll ⟨Nat.le_of_ble_eq_true rfl, Nat.le_of_ble_eq_true rfl⟩) rfl rfl (Nat.le_of_ble_eq_true rfl) dL_law_1649 ⟨rfl, rfl⟩ hR ?_
  refine VJ.istore C [(6, .int (outM.1)), (5, .int (outM.2.1 0)), (0, .ref b), (1, .ref ox), (2, .ref om), (3, .ref oj), (4, .int i)] dL_law_1652 (Nat.le_of_ble_eq_true rfl) rfl ?_
  refine law_tail 1654 C hR rfl hg dL_law_1654 dL_law_1655 dL_law_1658 dL_law_1660 dL_law_1665 dL_law_1667 dL_law_1670 dL_law_1671 dL_law_1672 dL_law_1673 dL_law_1675 dL_law_1676 dL_law_1677 dL_law_1682 (by decide) ?_
  refine VJ.sub [2, 3, 4, 5, 6] rfl ?_
  rcases hW with ⟨h0, q8, adr8, rfl⟩ | ⟨h0, rfl⟩
  · refine kk _ ⟨ad, out.2.2, Rx, rf, ra, ta, ea, wa, adk, Ik, Rk, cmk, adq, Iq, Rq, cmq, adc, Ic, Rc, cmc, adn, In, Rn, AL, AI, AR, va_up rs out.2.1.toNatClampNeg (some q8), RL ++ [(q8, adr8, 24, va_up (va_up (fun _ => 0) 0 x1) 1 x2, va_up (fun _ _ => 0) 0 (fillv 24 (fun _ => 0) (-1)))], adm, outM.2.1, outM.2.2, g2, (hI1 h0).2 q8 adr8, ?_⟩
    rw [pf_nest, rw_app]
    exact (vj_pfe (cs := [jW cJ oj g2, mW cI cZ om adm (outM.2.1) (outM.2.2), xW cI cZ ox ad out.2.2 Rx rf, aW cQ (rf 0) ra ta ea wa, lW cI cZ (rf 1) adk Ik Rk cmk, lW cI cZ (rf 2) adq Iq Rq cmq, lW cI cZ (rf 3) adc Ic Rc cmc, nW cI cZ (rf 4) adn In Rn, qW cU (rf 5) (va_up rs out.2.1.toNatClampNeg (some q8)), pW AL AI AR, RW cI cZ RL, rW cI cZ q8 adr8 24 (va_up (va_up (fun _ => 0) 0 x1) 1 x2) (va_up (fun _ _ => 0) 0 (fillv 24 (fun _ => 0) (-1)))]) 12 [0, 1, 2, 5, 6, 7, 8, 9, 3, 10, 11, 4] rfl rfl (by decide)).trans (pf_last2 (ps := [jW cJ oj g2, mW cI cZ om adm (outM.2.1) (outM.2.2), xW cI cZ ox ad out.2.2 Rx rf, aW cQ (rf 0) ra ta ea wa, lW cI cZ (rf 1) adk Ik Rk cmk, lW cI cZ (rf 2) adq Iq Rq cmq, lW cI cZ (rf 3) adc Ic Rc cmc, nW cI cZ (rf 4) adn In Rn, qW cU (rf 5) (va_up rs out.2.1.toNatClampNeg (some q8)), pW AL AI AR]) (List.Perm.refl _))
  · exact kk _ ⟨ad, Ix, Rx, rf, ra, ta, ea, wa, adk, Ik, Rk, cmk, adq, Iq, Rq, cmq, adc, Ic, Rc, cmc, adn, In, Rn, AL, AI, AR, rs, RL, adm, outM.2.1, outM.2.2, g2, hI2 h0, by rw [pf_nest]; exact vj_pfe 11 [0, 1, 2, 4, 5, 6, 7, 8, 3, 9, 10] rfl rfl (by decide)⟩

set_option maxHeartbeats 8000000 in
set_option maxRecDepth 100000 in
theorem law_deliver {p : Program} {l : Launch} {e : Env} {s : State} {m : MethodId} {args : Array Value} {below : List Frame} {meth : Method} {c : Code} {G : va_G} {cI cZ cQ cU cJ : ClassId} {A : Nat → Prop} {Qf : Unit → State → Prop} {cells slots : Nat} {b L : Nat} {xs : Nat → Int32} {ox om oj t : Nat} {M : va_W} {i : Int32} (CX : CxX p l s m args meth c cL_law 7 wsL_law RL G vwCl (tys cI cZ cQ cU cJ) nws strs A) (hN : NC s) (hX : va_X b L xs s s.heap) (hbl : b < s.heap.size) (hbA : ¬ A b) (ht : t ≤ 511) (h1 : vp_in (i + 1) L) (h2 : vp_in (i + 2) L) (h3 : vp_in (i + 3) L) (h4 : vp_in (i + 4) L) (hR : cells + 40 ≤ room_1.cells ∧ slots + 13000 ≤ room_1.slots) (hM : LI cI cZ cQ cU cJ 20000 t ox om oj M) (kk : ∀ M' : va_W, LI cI cZ cQ cU cJ 20000 (t + 1) ox om oj M' → VJ p l e room_1 s m args below meth c 7 G vwCl A Qf (cells + 40) (slots + 13000) (some ()) M' 2216 [(0, .ref b), (1, .ref ox), (2, .ref om), (3, .ref oj), (4, .int i)] []) : VJ p l e room_1 s m args below meth c 7 G vwCl A Qf cells slots (some ()) M 1685 [(0, .ref b), (1, .ref ox), (2, .ref om), (3, .ref oj), (4, .int i)] [] := by
  obtain ⟨ad, Ix, Rx, rf, ra, ta, ea, wa, adk, Ik, Rk, cmk, adq, Iq, Rq, cmq, adc, Ic, Rc, cmc, adn, In, Rn, AL, AI, AR, rs, RL, adm, I, R, g, hIV, hM⟩ := hM
  obtain ⟨n9, m9, P9, d9, g9, od9, ao9, hc⟩ := hIV
  have C := CX.1
  obtain ⟨x1, hx1⟩ : ∃ z, z = xs (i + 1).toNatClampNeg := ⟨_, rfl⟩
  rcases sim_deliver (Nat.le_of_ble_eq_true rfl) ht hc x1 with ⟨r9, e9, hr9, hRL, hxr, v9, nr9, Ir9, Rr9, I9, R9, f5, f6, hI0, hI⟩ | ⟨f5, f6, hI⟩
  · obtain ⟨W9, hW9, hW9s⟩ := rw_split (cI := cI) (cZ := cZ) hRL
    have hC : CRel e1 0 (I9 0) := Or.inl ⟨rfl, hI0⟩
    have hv : 0 = 0 → v9 = v9 := fun _ => rfl
    refine VJ.perm hM ?_
    refine VJ.perm (pf_last (ps := [jW cJ oj g, mW cI cZ om adm I R, xW cI cZ ox ad Ix Rx rf, aW cQ (rf 0) ra ta ea wa, lW cI cZ (rf 1) adk Ik Rk cmk, lW cI cZ (rf 2) adq Iq Rq cmq, lW cI cZ (rf 3) adc Ic Rc cmc, nW cI cZ (rf 4) adn In Rn, qW cU (rf 5) rs, pW AL AI AR]) hW9) ?_
    refine VJ.aload_n C 1 dL_law_1685 rfl ?_
    refine VJ.sarg (j := 1) C hX hbl hbA 0 4 rfl rfl ⟨h1, hx1.symm⟩ (by decide) dL_law_1686 dL_law_1687 dL_law_1689 dL_law_1690 dL_law_1691 ?_
    refine VJ.aload_n C 3 dL_law_1692 rfl ?_
    refine VJ.callW CX hN [.ref ox, .int x1, .ref oj] (pf [xW cI cZ ox ad Ix Rx rf, lW cI cZ (rf 1) adk Ik Rk cmk, qW cU (rf 5) rs, rW cI cZ e9.1 e9.2.1 e9.2.2.1 e9.2.2.2.1 e9.2.2.2.2] ++ jW cJ oj g) (pf [mW cI cZ om adm I R, aW cQ (rf 0) ra ta ea wa, lW cI cZ (rf 2) adq Iq Rq cmq, lW cI cZ (rf 3) adc Ic Rc cmc, nW cI cZ (rf 4) adn In Rn, pW AL AI AR, W9]) 40 13000 (c_L_deliver l CX.2.2 G cI cZ cQ cU cJ ox oj x1 g (pf [xW cI cZ ox ad Ix Rx rf, lW cI cZ (rf 1) adk Ik Rk cmk, qW cU (rf 5) rs, rW cI cZ e9.1 e9.2.1 e9.2.2.1 e9.2.2.2.1 e9.2.2.2.2]) _ (xF ad Ix rf) rfl (c_X5_deliver l CX.2.2 G cI cZ cQ cU cJ 20000 ox ad rf Ix Rx adk Ik Rk cmk rs e9.1 e9.2.1 e9.2.2.1 e9.2.2.2.1 e9.2.2.2.2 x1 (0, v9, nr9, Ir9, Rr9) f5) (fun _ _ h => ⟨_, h.2.1 rfl⟩) (fun k _ _ h => hn_1 (by rw [h.1]; exact hC))) (vj_pfj 12 [2, 4, 8, 10, 0, 1, 3, 5, 6, 7, 9, 11] rfl rfl (by decide)) (vx_cwSW 3 C.1.2.2.2.2 gL_law_L_deliver rfl rfl rfl hy_L_deliver ⟨Nat.le_of_ble_eq_true rfl, Nat.le_of_ble_eq_true rfl⟩) rfl rfl (Nat.le_of_ble_eq_true rfl) dL_law_1693 ⟨Nat.le_of_ble_eq_true rfl, Nat.le_of_ble_eq_true rfl⟩ hR ?_
    intro r M1 h9
    obtain ⟨g2, adr9, rfl, rfl, hg⟩ := lm_d h9 hC (by decide +kernel) hv
    refine VJ.perm (pf_back _ _ _ _) ?_
    refine VJ.istore C [(5, .int (I9 0)), (0, .ref b), (1, .ref ox), (2, .ref om), (3, .ref oj), (4, .int i)] dL_law_1696 (Nat.le_of_ble_eq_true rfl) rfl ?_
    refine VJ.aload_n C 3 dL_law_1698 rfl ?_
    refine VJ.sarg (j := 1) C hX hbl hbA 1 5 rfl rfl ⟨h1, hx1.symm⟩ (by decide) dL_law_1699 dL_law_1700 dL_law_1702 dL_law_1703 dL_law_1704 ?_
    refine VJ.callC C [.int x1] (pf [mW cI cZ om adm I R]) (pf [jW cJ oj g2, (pf [xW cI cZ ox ad Ix Rx rf, lW cI cZ (rf 1) adk Ik Rk cmk, qW cU (rf 5) rs, rW cI cZ e9.1 adr9 ((0, v9, nr9, Ir9, Rr9)).2.2.1 ((0, v9, nr9, Ir9, Rr9)).2.2.2.1 ((0, v9, nr9, Ir9, Rr9)).2.2.2.2]), aW cQ (rf 0) ra ta ea wa, lW cI cZ (rf 2) adq Iq Rq cmq, lW cI cZ (rf 3) adc Ic Rc cmc, nW cI cZ (rf 4) adn In Rn, pW AL AI AR, W9]) (pf [jW cJ oj g2, mW cI cZ om adm (I9) (R9), (pf [xW cI cZ ox ad Ix Rx rf, lW cI cZ (rf 1) adk Ik Rk cmk, qW cU (rf 5) rs, rW cI cZ e9.1 adr9 ((0, v9, nr9, Ir9, Rr9)).2.2.1 ((0, v9, nr9, Ir9, Rr9)).2.2.2.1 ((0, v9, nr9, Ir9, Rr9)).2.2.2.2]), aW cQ (rf 0) ra ta ea wa, lW cI cZ (rf 2) adq Iq Rq cmq, lW cI cZ (rf 3) adc Ic Rc cmc, nW cI cZ (rf 4) adn In Rn, pW AL AI AR, W9]) (c_X6_deliver l G cI cZ cQ cU cJ 20000 om adm I R x1 (v9, I9, R9) f6) (pf_m1 _ _ _) (pf_m2 _ _ _) 0 rfl rfl (cwV 1 C.1.2.2.2.2 gL_law_X6_deliver rfl rfl rfl hyV_X6_deliver ⟨Nat.le_of_ble_eq_true rfl, Nat.le_of_ble_eq_true rfl⟩) rfl rfl (Nat.le_of_ble_eq_true rfl) dL_law_1705 ⟨rfl, rfl⟩ hR ?_
    refine VJ.istore C [(6, .int (v9)), (5, .int (I9 0)), (0, .ref b), (1, .ref ox), (2, .ref om), (3, .ref oj), (4, .int i)] dL_law_1708 (Nat.le_of_ble_eq_true rfl) rfl ?_
    refine law_tail 1710 C hR rfl hg dL_law_1710 dL_law_1711 dL_law_1714 dL_law_1716 dL_law_1721 dL_law_1723 dL_law_1726 dL_law_1727 dL_law_1728 dL_law_1729 dL_law_1731 dL_law_1732 dL_law_1733 dL_law_1738 (by decide) ?_
    refine VJ.sub [2, 3, 4, 5, 6] rfl ?_
    refine kk _ ⟨ad, Ix, Rx, rf, ra, ta, ea, wa, adk, Ik, Rk, cmk, adq, Iq, Rq, cmq, adc, Ic, Rc, cmc, adn, In, Rn, AL, AI, AR, rs, RL.set r9 (e9.1, adr9, nr9, Ir9, Rr9), adm, I9, R9, g2, hI adr9, ?_⟩
    rw [pf_nest]
    refine (vj_pfe (cs := [jW cJ oj g2, mW cI cZ om adm (I9) (R9), xW cI cZ ox ad Ix Rx rf, aW cQ (rf 0) ra ta ea wa, lW cI cZ (rf 1) adk Ik Rk cmk, lW cI cZ (rf 2) adq Iq Rq cmq, lW cI cZ (rf 3) adc Ic Rc cmc, nW cI cZ (rf 4) adn In Rn, qW cU (rf 5) rs, pW AL AI AR, rW cI cZ e9.1 adr9 nr9 Ir9 Rr9, W9]) 12 [0, 1, 2, 6, 3, 7, 8, 9, 4, 10, 5, 11] rfl rfl (by decide)).trans ?_
    exact pf_last2 (ps := [jW cJ oj g2, mW cI cZ om adm (I9) (R9), xW cI cZ ox ad Ix Rx rf, aW cQ (rf 0) ra ta ea wa, lW cI cZ (rf 1) adk Ik Rk cmk, lW cI cZ (rf 2) adq Iq Rq cmq, lW cI cZ (rf 3) adc Ic Rc cmc, nW cI cZ (rf 4) adn In Rn, qW cU (rf 5) rs, pW AL AI AR]) ((hW9s (e9.1, adr9, nr9, Ir9, Rr9)).symm)
  · have hC : CRel e1 1 ((va_up I 0 1) 0) := Or.inr ⟨1, 1, List.mem_cons_self, rfl, rfl⟩
    have hv : (1 : Nat) = 0 → (0 : Int32) = (0 : Int32) := fun _ => rfl
    refine VJ.perm hM ?_
    refine VJ.aload_n C 1 dL_law_1685 rfl ?_
    refine VJ.sarg (j := 1) C hX hbl hbA 0 4 rfl rfl ⟨h1, hx1.symm⟩ (by decide) dL_law_1686 dL_law_1687 dL_law_1689 dL_law_1690 dL_law_1691 ?_
    refine VJ.aload_n C 3 dL_law_1692 rfl ?_
    refine VJ.callW CX hN [.ref ox, .int x1, .ref oj] (pf [xW cI cZ ox ad Ix Rx rf, lW cI cZ (rf 1) adk Ik Rk cmk, qW cU (rf 5) rs] ++ jW cJ oj g) (pf [mW cI cZ om adm I R, aW cQ (rf 0) ra ta ea wa, lW cI cZ (rf 2) adq Iq Rq cmq, lW cI cZ (rf 3) adc Ic Rc cmc, nW cI cZ (rf 4) adn In Rn, pW AL AI AR, RW cI cZ RL]) 40 13000 (c_L_deliver l CX.2.2 G cI cZ cQ cU cJ ox oj x1 g (pf [xW cI cZ ox ad Ix Rx rf, lW cI cZ (rf 1) adk Ik Rk cmk, qW cU (rf 5) rs]) _ (xF ad Ix rf) rfl (c_X5B_deliver l CX.2.2 G cI cZ cQ cU cJ ox ad rf Ix Rx adk Ik Rk cmk rs x1 (1, 0) f5) (fun _ _ h => ⟨_, h.2.1 rfl⟩) (fun k _ _ h => hn_1 (by rw [h.1]; exact hC))) (vj_pfj 11 [2, 4, 8, 0, 1, 3, 5, 6, 7, 9, 10] rfl rfl (by decide)) (vx_cwSW 3 C.1.2.2.2.2 gL_law_L_deliver rfl rfl rfl hy_L_deliver ⟨Nat.le_of_ble_eq_true rfl, Nat.le_of_ble_eq_true rfl⟩) rfl rfl (Nat.le_of_ble_eq_true rfl) dL_law_1693 ⟨Nat.le_of_ble_eq_true rfl, Nat.le_of_ble_eq_true rfl⟩ hR ?_
    intro r M1 h9
    obtain ⟨g2, rfl, rfl, hg⟩ := lm_s h9 hC (by decide +kernel) hv
    refine VJ.perm (pf_back _ _ _ _) ?_
    refine VJ.istore C [(5, .int ((va_up I 0 1) 0)), (0, .ref b), (1, .ref ox), (2, .ref om), (3, .ref oj), (4, .int i)] dL_law_1696 (Nat.le_of_ble_eq_true rfl) rfl ?_
    refine VJ.aload_n C 3 dL_law_1698 rfl ?_
    refine VJ.sarg (j := 1) C hX hbl hbA 1 5 rfl rfl ⟨h1, hx1.symm⟩ (by decide) dL_law_1699 dL_law_1700 dL_law_1702 dL_law_1703 dL_law_1704 ?_
    refine VJ.callC C [.int x1] (pf [mW cI cZ om adm I R]) (pf [jW cJ oj g2, (pf [xW cI cZ ox ad Ix Rx rf, lW cI cZ (rf 1) adk Ik Rk cmk, qW cU (rf 5) rs]), aW cQ (rf 0) ra ta ea wa, lW cI cZ (rf 2) adq Iq Rq cmq, lW cI cZ (rf 3) adc Ic Rc cmc, nW cI cZ (rf 4) adn In Rn, pW AL AI AR, RW cI cZ RL]) (pf [jW cJ oj g2, mW cI cZ om adm (va_up I 0 1) (R), (pf [xW cI cZ ox ad Ix Rx rf, lW cI cZ (rf 1) adk Ik Rk cmk, qW cU (rf 5) rs]), aW cQ (rf 0) ra ta ea wa, lW cI cZ (rf 2) adq Iq Rq cmq, lW cI cZ (rf 3) adc Ic Rc cmc, nW cI cZ (rf 4) adn In Rn, pW AL AI AR, RW cI cZ RL]) (c_X6_deliver l G cI cZ cQ cU cJ 20000 om adm I R x1 (0, va_up I 0 1, R) f6) (pf_m1 _ _ _) (pf_m2 _ _ _) 0 rfl rfl (cwV 1 C.1.2.2.2.2 gL_law_X6_deliver rfl rfl rfl hyV_X6_deliver ⟨Nat.le_of_ble_eq_true rfl, Nat.le_of_ble_eq_true rfl⟩) rfl rfl (Nat.le_of_ble_eq_true rfl) dL_law_1705 ⟨rfl, rfl⟩ hR ?_
    refine VJ.istore C [(6, .int ((0 : Int32))), (5, .int ((va_up I 0 1) 0)), (0, .ref b), (1, .ref ox), (2, .ref om), (3, .ref oj), (4, .int i)] dL_law_1708 (Nat.le_of_ble_eq_true rfl) rfl ?_
    refine law_tail 1710 C hR rfl hg dL_law_1710 dL_law_1711 dL_law_1714 dL_law_1716 dL_law_1721 dL_law_1723 dL_law_1726 dL_law_1727 dL_law_1728 dL_law_1729 dL_law_1731 dL_law_1732 dL_law_1733 dL_law_1738 (by decide) ?_
    refine VJ.sub [2, 3, 4, 5, 6] rfl ?_
    exact kk _ ⟨ad, Ix, Rx, rf, ra, ta, ea, wa, adk, Ik, Rk, cmk, adq, Iq, Rq, cmq, adc, Ic, Rc, cmc, adn, In, Rn, AL, AI, AR, rs, RL, adm, va_up I 0 1, R, g2, hI, by rw [pf_nest]; exact vj_pfe 11 [0, 1, 2, 5, 3, 6, 7, 8, 4, 9, 10] rfl rfl (by decide)⟩

set_option maxHeartbeats 8000000 in
set_option maxRecDepth 100000 in
theorem law_owes {p : Program} {l : Launch} {e : Env} {s : State} {m : MethodId} {args : Array Value} {below : List Frame} {meth : Method} {c : Code} {G : va_G} {cI cZ cQ cU cJ : ClassId} {A : Nat → Prop} {Qf : Unit → State → Prop} {cells slots : Nat} {b L : Nat} {xs : Nat → Int32} {ox om oj t : Nat} {M : va_W} {i : Int32} (CX : CxX p l s m args meth c cL_law 7 wsL_law RL G vwCl (tys cI cZ cQ cU cJ) nws strs A) (hN : NC s) (hX : va_X b L xs s s.heap) (hbl : b < s.heap.size) (hbA : ¬ A b) (ht : t ≤ 511) (h1 : vp_in (i + 1) L) (h2 : vp_in (i + 2) L) (h3 : vp_in (i + 3) L) (h4 : vp_in (i + 4) L) (hR : cells + 40 ≤ room_1.cells ∧ slots + 13000 ≤ room_1.slots) (hM : LI cI cZ cQ cU cJ 20000 t ox om oj M) (kk : ∀ M' : va_W, LI cI cZ cQ cU cJ 20000 (t + 1) ox om oj M' → VJ p l e room_1 s m args below meth c 7 G vwCl A Qf (cells + 40) (slots + 13000) (some ()) M' 2216 [(0, .ref b), (1, .ref ox), (2, .ref om), (3, .ref oj), (4, .int i)] []) : VJ p l e room_1 s m args below meth c 7 G vwCl A Qf cells slots (some ()) M 1741 [(0, .ref b), (1, .ref ox), (2, .ref om), (3, .ref oj), (4, .int i)] [] := by
  obtain ⟨ad, Ix, Rx, rf, ra, ta, ea, wa, adk, Ik, Rk, cmk, adq, Iq, Rq, cmq, adc, Ic, Rc, cmc, adn, In, Rn, AL, AI, AR, rs, RL, adm, I, R, g, hIV, hM⟩ := hM
  obtain ⟨n9, m9, P9, d9, g9, od9, ao9, hc⟩ := hIV
  have C := CX.1
  obtain ⟨x1, hx1⟩ : ∃ z, z = xs (i + 1).toNatClampNeg := ⟨_, rfl⟩
  rcases sim_owes (Nat.le_of_ble_eq_true rfl) hc x1 with ⟨r9, e9, hr9, hRL, hxr, v9, I9, R9, f5, f6, hI0, hI⟩ | ⟨f5, f6, hI⟩
  · obtain ⟨W9, hW9, hW9s⟩ := rw_split (cI := cI) (cZ := cZ) hRL
    have hC : CRel e1 0 (I9 0) := Or.inl ⟨rfl, hI0⟩
    have hv : 0 = 0 → v9 = v9 := fun _ => rfl
    refine VJ.perm hM ?_
    refine VJ.perm (pf_last (ps := [jW cJ oj g, mW cI cZ om adm I R, xW cI cZ ox ad Ix Rx rf, aW cQ (rf 0) ra ta ea wa, lW cI cZ (rf 1) adk Ik Rk cmk, lW cI cZ (rf 2) adq Iq Rq cmq, lW cI cZ (rf 3) adc Ic Rc cmc, nW cI cZ (rf 4) adn In Rn, qW cU (rf 5) rs, pW AL AI AR]) hW9) ?_
    refine VJ.aload_n C 1 dL_law_1741 rfl ?_
    refine VJ.sarg (j := 1) C hX hbl hbA 0 4 rfl rfl ⟨h1, hx1.symm⟩ (by decide) dL_law_1742 dL_law_1743 dL_law_1745 dL_law_1746 dL_law_1747 ?_
    refine VJ.aload_n C 3 dL_law_1748 rfl ?_
    refine VJ.callW CX hN [.ref ox, .int x1, .ref oj] (pf [xW cI cZ ox ad Ix Rx rf, lW cI cZ (rf 1) adk Ik Rk cmk, qW cU (rf 5) rs, rW cI cZ e9.1 e9.2.1 e9.2.2.1 e9.2.2.2.1 e9.2.2.2.2] ++ jW cJ oj g) (pf [mW cI cZ om adm I R, aW cQ (rf 0) ra ta ea wa, lW cI cZ (rf 2) adq Iq Rq cmq, lW cI cZ (rf 3) adc Ic Rc cmc, nW cI cZ (rf 4) adn In Rn, pW AL AI AR, W9]) 40 13000 (c_L_owes l CX.2.2 G cI cZ cQ cU cJ ox oj x1 g (pf [xW cI cZ ox ad Ix Rx rf, lW cI cZ (rf 1) adk Ik Rk cmk, qW cU (rf 5) rs, rW cI cZ e9.1 e9.2.1 e9.2.2.1 e9.2.2.2.1 e9.2.2.2.2]) _ (xF ad Ix rf) rfl (c_X5_owes l CX.2.2 G cI cZ cQ cU cJ 20000 ox ad rf Ix Rx adk Ik Rk cmk rs e9.1 e9.2.1 e9.2.2.1 e9.2.2.2.1 e9.2.2.2.2 x1 (0, v9) f5) (fun _ _ h => ⟨_, h.2.1 rfl⟩) (fun k _ _ h => hn_1 (by rw [h.1]; exact hC))) (vj_pfj 12 [2, 4, 8, 10, 0, 1, 3, 5, 6, 7, 9, 11] rfl rfl (by decide)) (vx_cwSW 3 C.1.2.2.2.2 gL_law_L_owes rfl rfl rfl hy_L_owes ⟨Nat.le_of_ble_eq_true rfl, Nat.le_of_ble_eq_true rfl⟩) rfl rfl (Nat.le_of_ble_eq_true rfl) dL_law_1749 ⟨Nat.le_of_ble_eq_true rfl, Nat.le_of_ble_eq_true rfl⟩ hR ?_
    intro r M1 h9
    obtain ⟨g2, rfl, rfl, hg⟩ := lm_s h9 hC (by decide +kernel) hv
    refine VJ.perm (pf_back _ _ _ _) ?_
    refine VJ.istore C [(5, .int (I9 0)), (0, .ref b), (1, .ref ox), (2, .ref om), (3, .ref oj), (4, .int i)] dL_law_1752 (Nat.le_of_ble_eq_true rfl) rfl ?_
    refine VJ.aload_n C 3 dL_law_1754 rfl ?_
    refine VJ.sarg (j := 1) C hX hbl hbA 1 5 rfl rfl ⟨h1, hx1.symm⟩ (by decide) dL_law_1755 dL_law_1756 dL_law_1758 dL_law_1759 dL_law_1760 ?_
    refine VJ.callC C [.int x1] (pf [mW cI cZ om adm I R]) (pf [jW cJ oj g2, (pf [xW cI cZ ox ad Ix Rx rf, lW cI cZ (rf 1) adk Ik Rk cmk, qW cU (rf 5) rs, rW cI cZ e9.1 e9.2.1 e9.2.2.1 e9.2.2.2.1 e9.2.2.2.2]), aW cQ (rf 0) ra ta ea wa, lW cI cZ (rf 2) adq Iq Rq cmq, lW cI cZ (rf 3) adc Ic Rc cmc, nW cI cZ (rf 4) adn In Rn, pW AL AI AR, W9]) (pf [jW cJ oj g2, mW cI cZ om adm (I9) (R9), (pf [xW cI cZ ox ad Ix Rx rf, lW cI cZ (rf 1) adk Ik Rk cmk, qW cU (rf 5) rs, rW cI cZ e9.1 e9.2.1 e9.2.2.1 e9.2.2.2.1 e9.2.2.2.2]), aW cQ (rf 0) ra ta ea wa, lW cI cZ (rf 2) adq Iq Rq cmq, lW cI cZ (rf 3) adc Ic Rc cmc, nW cI cZ (rf 4) adn In Rn, pW AL AI AR, W9]) (c_X6_owes l G cI cZ cQ cU cJ 20000 om adm I R x1 (v9, I9, R9) f6) (pf_m1 _ _ _) (pf_m2 _ _ _) 0 rfl rfl (cwV 1 C.1.2.2.2.2 gL_law_X6_owes rfl rfl rfl hyV_X6_owes ⟨Nat.le_of_ble_eq_true rfl, Nat.le_of_ble_eq_true rfl⟩) rfl rfl (Nat.le_of_ble_eq_true rfl) dL_law_1761 ⟨rfl, rfl⟩ hR ?_
    refine VJ.istore C [(6, .int (v9)), (5, .int (I9 0)), (0, .ref b), (1, .ref ox), (2, .ref om), (3, .ref oj), (4, .int i)] dL_law_1764 (Nat.le_of_ble_eq_true rfl) rfl ?_
    refine law_tail 1766 C hR rfl hg dL_law_1766 dL_law_1767 dL_law_1770 dL_law_1772 dL_law_1777 dL_law_1779 dL_law_1782 dL_law_1783 dL_law_1784 dL_law_1785 dL_law_1787 dL_law_1788 dL_law_1789 dL_law_1794 (by decide) ?_
    refine VJ.sub [2, 3, 4, 5, 6] rfl ?_
    refine kk _ ⟨ad, Ix, Rx, rf, ra, ta, ea, wa, adk, Ik, Rk, cmk, adq, Iq, Rq, cmq, adc, Ic, Rc, cmc, adn, In, Rn, AL, AI, AR, rs, RL, adm, I9, R9, g2, hI, ?_⟩
    rw [pf_nest]
    refine (vj_pfe (cs := [jW cJ oj g2, mW cI cZ om adm (I9) (R9), xW cI cZ ox ad Ix Rx rf, aW cQ (rf 0) ra ta ea wa, lW cI cZ (rf 1) adk Ik Rk cmk, lW cI cZ (rf 2) adq Iq Rq cmq, lW cI cZ (rf 3) adc Ic Rc cmc, nW cI cZ (rf 4) adn In Rn, qW cU (rf 5) rs, pW AL AI AR, rW cI cZ e9.1 e9.2.1 e9.2.2.1 e9.2.2.2.1 e9.2.2.2.2, W9]) 12 [0, 1, 2, 6, 3, 7, 8, 9, 4, 10, 5, 11] rfl rfl (by decide)).trans ?_
    exact pf_last2 (ps := [jW cJ oj g2, mW cI cZ om adm (I9) (R9), xW cI cZ ox ad Ix Rx rf, aW cQ (rf 0) ra ta ea wa, lW cI cZ (rf 1) adk Ik Rk cmk, lW cI cZ (rf 2) adq Iq Rq cmq, lW cI cZ (rf 3) adc Ic Rc cmc, nW cI cZ (rf 4) adn In Rn, qW cU (rf 5) rs, pW AL AI AR]) (hW9.symm)
  · have hC : CRel e1 1 ((va_up I 0 1) 0) := Or.inr ⟨1, 1, List.mem_cons_self, rfl, rfl⟩
    have hv : (1 : Nat) = 0 → (0 : Int32) = (0 : Int32) := fun _ => rfl
    refine VJ.perm hM ?_
    refine VJ.aload_n C 1 dL_law_1741 rfl ?_
    refine VJ.sarg (j := 1) C hX hbl hbA 0 4 rfl rfl ⟨h1, hx1.symm⟩ (by decide) dL_law_1742 dL_law_1743 dL_law_1745 dL_law_1746 dL_law_1747 ?_
    refine VJ.aload_n C 3 dL_law_1748 rfl ?_
    refine VJ.callW CX hN [.ref ox, .int x1, .ref oj] (pf [xW cI cZ ox ad Ix Rx rf, lW cI cZ (rf 1) adk Ik Rk cmk, qW cU (rf 5) rs] ++ jW cJ oj g) (pf [mW cI cZ om adm I R, aW cQ (rf 0) ra ta ea wa, lW cI cZ (rf 2) adq Iq Rq cmq, lW cI cZ (rf 3) adc Ic Rc cmc, nW cI cZ (rf 4) adn In Rn, pW AL AI AR, RW cI cZ RL]) 40 13000 (c_L_owes l CX.2.2 G cI cZ cQ cU cJ ox oj x1 g (pf [xW cI cZ ox ad Ix Rx rf, lW cI cZ (rf 1) adk Ik Rk cmk, qW cU (rf 5) rs]) _ (xF ad Ix rf) rfl (c_X5B_owes l CX.2.2 G cI cZ cQ cU cJ ox ad rf Ix Rx adk Ik Rk cmk rs x1 (1, 0) f5) (fun _ _ h => ⟨_, h.2.1 rfl⟩) (fun k _ _ h => hn_1 (by rw [h.1]; exact hC))) (vj_pfj 11 [2, 4, 8, 0, 1, 3, 5, 6, 7, 9, 10] rfl rfl (by decide)) (vx_cwSW 3 C.1.2.2.2.2 gL_law_L_owes rfl rfl rfl hy_L_owes ⟨Nat.le_of_ble_eq_true rfl, Nat.le_of_ble_eq_true rfl⟩) rfl rfl (Nat.le_of_ble_eq_true rfl) dL_law_1749 ⟨Nat.le_of_ble_eq_true rfl, Nat.le_of_ble_eq_true rfl⟩ hR ?_
    intro r M1 h9
    obtain ⟨g2, rfl, rfl, hg⟩ := lm_s h9 hC (by decide +kernel) hv
    refine VJ.perm (pf_back _ _ _ _) ?_
    refine VJ.istore C [(5, .int ((va_up I 0 1) 0)), (0, .ref b), (1, .ref ox), (2, .ref om), (3, .ref oj), (4, .int i)] dL_law_1752 (Nat.le_of_ble_eq_true rfl) rfl ?_
    refine VJ.aload_n C 3 dL_law_1754 rfl ?_
    refine VJ.sarg (j := 1) C hX hbl hbA 1 5 rfl rfl ⟨h1, hx1.symm⟩ (by decide) dL_law_1755 dL_law_1756 dL_law_1758 dL_law_1759 dL_law_1760 ?_
    refine VJ.callC C [.int x1] (pf [mW cI cZ om adm I R]) (pf [jW cJ oj g2, (pf [xW cI cZ ox ad Ix Rx rf, lW cI cZ (rf 1) adk Ik Rk cmk, qW cU (rf 5) rs]), aW cQ (rf 0) ra ta ea wa, lW cI cZ (rf 2) adq Iq Rq cmq, lW cI cZ (rf 3) adc Ic Rc cmc, nW cI cZ (rf 4) adn In Rn, pW AL AI AR, RW cI cZ RL]) (pf [jW cJ oj g2, mW cI cZ om adm (va_up I 0 1) (R), (pf [xW cI cZ ox ad Ix Rx rf, lW cI cZ (rf 1) adk Ik Rk cmk, qW cU (rf 5) rs]), aW cQ (rf 0) ra ta ea wa, lW cI cZ (rf 2) adq Iq Rq cmq, lW cI cZ (rf 3) adc Ic Rc cmc, nW cI cZ (rf 4) adn In Rn, pW AL AI AR, RW cI cZ RL]) (c_X6_owes l G cI cZ cQ cU cJ 20000 om adm I R x1 (0, va_up I 0 1, R) f6) (pf_m1 _ _ _) (pf_m2 _ _ _) 0 rfl rfl (cwV 1 C.1.2.2.2.2 gL_law_X6_owes rfl rfl rfl hyV_X6_owes ⟨Nat.le_of_ble_eq_true rfl, Nat.le_of_ble_eq_true rfl⟩) rfl rfl (Nat.le_of_ble_eq_true rfl) dL_law_1761 ⟨rfl, rfl⟩ hR ?_
    refine VJ.istore C [(6, .int ((0 : Int32))), (5, .int ((va_up I 0 1) 0)), (0, .ref b), (1, .ref ox), (2, .ref om), (3, .ref oj), (4, .int i)] dL_law_1764 (Nat.le_of_ble_eq_true rfl) rfl ?_
    refine law_tail 1766 C hR rfl hg dL_law_1766 dL_law_1767 dL_law_1770 dL_law_1772 dL_law_1777 dL_law_1779 dL_law_1782 dL_law_1783 dL_law_1784 dL_law_1785 dL_law_1787 dL_law_1788 dL_law_1789 dL_law_1794 (by decide) ?_
    refine VJ.sub [2, 3, 4, 5, 6] rfl ?_
    exact kk _ ⟨ad, Ix, Rx, rf, ra, ta, ea, wa, adk, Ik, Rk, cmk, adq, Iq, Rq, cmq, adc, Ic, Rc, cmc, adn, In, Rn, AL, AI, AR, rs, RL, adm, va_up I 0 1, R, g2, hI, by rw [pf_nest]; exact vj_pfe 11 [0, 1, 2, 5, 3, 6, 7, 8, 4, 9, 10] rfl rfl (by decide)⟩

set_option maxHeartbeats 8000000 in
set_option maxRecDepth 100000 in
theorem law_message {p : Program} {l : Launch} {e : Env} {s : State} {m : MethodId} {args : Array Value} {below : List Frame} {meth : Method} {c : Code} {G : va_G} {cI cZ cQ cU cJ : ClassId} {A : Nat → Prop} {Qf : Unit → State → Prop} {cells slots : Nat} {b L : Nat} {xs : Nat → Int32} {ox om oj t : Nat} {M : va_W} {i : Int32} (CX : CxX p l s m args meth c cL_law 7 wsL_law RL G vwCl (tys cI cZ cQ cU cJ) nws strs A) (hN : NC s) (hX : va_X b L xs s s.heap) (hbl : b < s.heap.size) (hbA : ¬ A b) (ht : t ≤ 511) (h1 : vp_in (i + 1) L) (h2 : vp_in (i + 2) L) (h3 : vp_in (i + 3) L) (h4 : vp_in (i + 4) L) (hR : cells + 40 ≤ room_1.cells ∧ slots + 13000 ≤ room_1.slots) (hM : LI cI cZ cQ cU cJ 20000 t ox om oj M) (kk : ∀ M' : va_W, LI cI cZ cQ cU cJ 20000 (t + 1) ox om oj M' → VJ p l e room_1 s m args below meth c 7 G vwCl A Qf (cells + 40) (slots + 13000) (some ()) M' 2216 [(0, .ref b), (1, .ref ox), (2, .ref om), (3, .ref oj), (4, .int i)] []) : VJ p l e room_1 s m args below meth c 7 G vwCl A Qf cells slots (some ()) M 1797 [(0, .ref b), (1, .ref ox), (2, .ref om), (3, .ref oj), (4, .int i)] [] := by
  obtain ⟨ad, Ix, Rx, rf, ra, ta, ea, wa, adk, Ik, Rk, cmk, adq, Iq, Rq, cmq, adc, Ic, Rc, cmc, adn, In, Rn, AL, AI, AR, rs, RL, adm, I, R, g, hIV, hM⟩ := hM
  obtain ⟨n9, m9, P9, d9, g9, od9, ao9, hc⟩ := hIV
  have C := CX.1
  obtain ⟨x1, hx1⟩ : ∃ z, z = xs (i + 1).toNatClampNeg := ⟨_, rfl⟩
  obtain ⟨x2, hx2⟩ : ∃ z, z = xs (i + 2).toNatClampNeg := ⟨_, rfl⟩
  rcases sim_message (Nat.le_of_ble_eq_true rfl) ht hc x1 x2 with ⟨r9, e9, hr9, hRL, hxr, k9, v9, w9, I'9, f5, f6, hC, hv, hI⟩ | ⟨f5, f6, hI⟩
  · obtain ⟨W9, hW9, hW9s⟩ := rw_split (cI := cI) (cZ := cZ) hRL
    refine VJ.perm hM ?_
    refine VJ.perm (pf_last (ps := [jW cJ oj g, mW cI cZ om adm I R, xW cI cZ ox ad Ix Rx rf, aW cQ (rf 0) ra ta ea wa, lW cI cZ (rf 1) adk Ik Rk cmk, lW cI cZ (rf 2) adq Iq Rq cmq, lW cI cZ (rf 3) adc Ic Rc cmc, nW cI cZ (rf 4) adn In Rn, qW cU (rf 5) rs, pW AL AI AR]) hW9) ?_
    refine VJ.aload_n C 1 dL_law_1797 rfl ?_
    refine VJ.sarg (j := 1) C hX hbl hbA 0 4 rfl rfl ⟨h1, hx1.symm⟩ (by decide) dL_law_1798 dL_law_1799 dL_law_1801 dL_law_1802 dL_law_1803 ?_
    refine VJ.sarg (j := 2) C hX hbl hbA 0 4 rfl rfl ⟨h2, hx2.symm⟩ (by decide) dL_law_1804 dL_law_1805 dL_law_1807 dL_law_1808 dL_law_1809 ?_
    refine VJ.aload_n C 3 dL_law_1810 rfl ?_
    refine VJ.callW CX hN [.ref ox, .int x1, .int x2, .ref oj] (pf [xW cI cZ ox ad Ix Rx rf, qW cU (rf 5) rs, rW cI cZ e9.1 e9.2.1 e9.2.2.1 e9.2.2.2.1 e9.2.2.2.2] ++ jW cJ oj g) (pf [mW cI cZ om adm I R, aW cQ (rf 0) ra ta ea wa, lW cI cZ (rf 1) adk Ik Rk cmk, lW cI cZ (rf 2) adq Iq Rq cmq, lW cI cZ (rf 3) adc Ic Rc cmc, nW cI cZ (rf 4) adn In Rn, pW AL AI AR, W9]) 40 13000 (c_L_message l CX.2.2 G cI cZ cQ cU cJ ox oj x1 x2 g (pf [xW cI cZ ox ad Ix Rx rf, qW cU (rf 5) rs, rW cI cZ e9.1 e9.2.1 e9.2.2.1 e9.2.2.2.1 e9.2.2.2.2]) _ (xF ad Ix rf) rfl (c_X5_message l CX.2.2 G cI cZ cQ cU cJ ox ad rf Ix Rx rs e9.1 e9.2.1 e9.2.2.1 e9.2.2.2.1 e9.2.2.2.2 x1 x2 (k9, v9) f5) (fun _ _ h => ⟨_, h.2.1 rfl⟩) (fun k _ _ h => hn_1 (by rw [h.1]; exact hC))) (vj_pfj 12 [2, 8, 10, 0, 1, 3, 4, 5, 6, 7, 9, 11] rfl rfl (by decide)) (vx_cwSW 4 C.1.2.2.2.2 gL_law_L_message rfl rfl rfl hy_L_message ⟨Nat.le_of_ble_eq_true rfl, Nat.le_of_ble_eq_true rfl⟩) rfl rfl (Nat.le_of_ble_eq_true rfl) dL_law_1811 ⟨Nat.le_of_ble_eq_true rfl, Nat.le_of_ble_eq_true rfl⟩ hR ?_
    intro r M1 h9
    obtain ⟨g2, rfl, rfl, hg⟩ := lm_s h9 hC (by decide +kernel) hv
    refine VJ.perm (pf_back _ _ _ _) ?_
    refine VJ.istore C [(5, .int (I'9 0)), (0, .ref b), (1, .ref ox), (2, .ref om), (3, .ref oj), (4, .int i)] dL_law_1814 (Nat.le_of_ble_eq_true rfl) rfl ?_
    refine VJ.aload_n C 3 dL_law_1816 rfl ?_
    refine VJ.sarg (j := 1) C hX hbl hbA 1 5 rfl rfl ⟨h1, hx1.symm⟩ (by decide) dL_law_1817 dL_law_1818 dL_law_1820 dL_law_1821 dL_law_1822 ?_
    refine VJ.sarg (j := 2) C hX hbl hbA 1 5 rfl rfl ⟨h2, hx2.symm⟩ (by decide) dL_law_1823 dL_law_1824 dL_law_1826 dL_law_1827 dL_law_1828 ?_
    refine VJ.callC C [.int x1, .int x2] (pf [mW cI cZ om adm I R]) (pf [jW cJ oj g2, (pf [xW cI cZ ox ad Ix Rx rf, qW cU (rf 5) rs, rW cI cZ e9.1 e9.2.1 e9.2.2.1 e9.2.2.2.1 e9.2.2.2.2]), aW cQ (rf 0) ra ta ea wa, lW cI cZ (rf 1) adk Ik Rk cmk, lW cI cZ (rf 2) adq Iq Rq cmq, lW cI cZ (rf 3) adc Ic Rc cmc, nW cI cZ (rf 4) adn In Rn, pW AL AI AR, W9]) (pf [jW cJ oj g2, mW cI cZ om adm (I'9) (R), (pf [xW cI cZ ox ad Ix Rx rf, qW cU (rf 5) rs, rW cI cZ e9.1 e9.2.1 e9.2.2.1 e9.2.2.2.1 e9.2.2.2.2]), aW cQ (rf 0) ra ta ea wa, lW cI cZ (rf 1) adk Ik Rk cmk, lW cI cZ (rf 2) adq Iq Rq cmq, lW cI cZ (rf 3) adc Ic Rc cmc, nW cI cZ (rf 4) adn In Rn, pW AL AI AR, W9]) (c_X6_message l G cI cZ cQ cU cJ 20000 om adm I R x1 x2 (w9, I'9) f6) (pf_m1 _ _ _) (pf_m2 _ _ _) 0 rfl rfl (cwV 2 C.1.2.2.2.2 gL_law_X6_message rfl rfl rfl hyV_X6_message ⟨Nat.le_of_ble_eq_true rfl, Nat.le_of_ble_eq_true rfl⟩) rfl rfl (Nat.le_of_ble_eq_true rfl) dL_law_1829 ⟨rfl, rfl⟩ hR ?_
    refine VJ.istore C [(6, .int (w9)), (5, .int (I'9 0)), (0, .ref b), (1, .ref ox), (2, .ref om), (3, .ref oj), (4, .int i)] dL_law_1832 (Nat.le_of_ble_eq_true rfl) rfl ?_
    refine law_tail 1834 C hR rfl hg dL_law_1834 dL_law_1835 dL_law_1838 dL_law_1840 dL_law_1845 dL_law_1847 dL_law_1850 dL_law_1851 dL_law_1852 dL_law_1853 dL_law_1855 dL_law_1856 dL_law_1857 dL_law_1862 (by decide) ?_
    refine VJ.sub [2, 3, 4, 5, 6] rfl ?_
    refine kk _ ⟨ad, Ix, Rx, rf, ra, ta, ea, wa, adk, Ik, Rk, cmk, adq, Iq, Rq, cmq, adc, Ic, Rc, cmc, adn, In, Rn, AL, AI, AR, rs, RL, adm, I'9, R, g2, hI, ?_⟩
    rw [pf_nest]
    refine (vj_pfe (cs := [jW cJ oj g2, mW cI cZ om adm (I'9) (R), xW cI cZ ox ad Ix Rx rf, aW cQ (rf 0) ra ta ea wa, lW cI cZ (rf 1) adk Ik Rk cmk, lW cI cZ (rf 2) adq Iq Rq cmq, lW cI cZ (rf 3) adc Ic Rc cmc, nW cI cZ (rf 4) adn In Rn, qW cU (rf 5) rs, pW AL AI AR, rW cI cZ e9.1 e9.2.1 e9.2.2.1 e9.2.2.2.1 e9.2.2.2.2, W9]) 12 [0, 1, 2, 5, 6, 7, 8, 9, 3, 10, 4, 11] rfl rfl (by decide)).trans ?_
    exact pf_last2 (ps := [jW cJ oj g2, mW cI cZ om adm (I'9) (R), xW cI cZ ox ad Ix Rx rf, aW cQ (rf 0) ra ta ea wa, lW cI cZ (rf 1) adk Ik Rk cmk, lW cI cZ (rf 2) adq Iq Rq cmq, lW cI cZ (rf 3) adc Ic Rc cmc, nW cI cZ (rf 4) adn In Rn, qW cU (rf 5) rs, pW AL AI AR]) (hW9.symm)
  · have hC : CRel e1 1 ((va_up I 0 1) 0) := Or.inr ⟨1, 1, List.mem_cons_self, rfl, rfl⟩
    have hv : (1 : Nat) = 0 → (0 : Int32) = (0 : Int32) := fun _ => rfl
    refine VJ.perm hM ?_
    refine VJ.aload_n C 1 dL_law_1797 rfl ?_
    refine VJ.sarg (j := 1) C hX hbl hbA 0 4 rfl rfl ⟨h1, hx1.symm⟩ (by decide) dL_law_1798 dL_law_1799 dL_law_1801 dL_law_1802 dL_law_1803 ?_
    refine VJ.sarg (j := 2) C hX hbl hbA 0 4 rfl rfl ⟨h2, hx2.symm⟩ (by decide) dL_law_1804 dL_law_1805 dL_law_1807 dL_law_1808 dL_law_1809 ?_
    refine VJ.aload_n C 3 dL_law_1810 rfl ?_
    refine VJ.callW CX hN [.ref ox, .int x1, .int x2, .ref oj] (pf [xW cI cZ ox ad Ix Rx rf, qW cU (rf 5) rs] ++ jW cJ oj g) (pf [mW cI cZ om adm I R, aW cQ (rf 0) ra ta ea wa, lW cI cZ (rf 1) adk Ik Rk cmk, lW cI cZ (rf 2) adq Iq Rq cmq, lW cI cZ (rf 3) adc Ic Rc cmc, nW cI cZ (rf 4) adn In Rn, pW AL AI AR, RW cI cZ RL]) 40 13000 (c_L_message l CX.2.2 G cI cZ cQ cU cJ ox oj x1 x2 g (pf [xW cI cZ ox ad Ix Rx rf, qW cU (rf 5) rs]) _ (xF ad Ix rf) rfl (c_X5B_message l CX.2.2 G cI cZ cQ cU cJ ox ad rf Ix Rx rs x1 x2 (1, 0) f5) (fun _ _ h => ⟨_, h.2.1 rfl⟩) (fun k _ _ h => hn_1 (by rw [h.1]; exact hC))) (vj_pfj 11 [2, 8, 0, 1, 3, 4, 5, 6, 7, 9, 10] rfl rfl (by decide)) (vx_cwSW 4 C.1.2.2.2.2 gL_law_L_message rfl rfl rfl hy_L_message ⟨Nat.le_of_ble_eq_true rfl, Nat.le_of_ble_eq_true rfl⟩) rfl rfl (Nat.le_of_ble_eq_true rfl) dL_law_1811 ⟨Nat.le_of_ble_eq_true rfl, Nat.le_of_ble_eq_true rfl⟩ hR ?_
    intro r M1 h9
    obtain ⟨g2, rfl, rfl, hg⟩ := lm_s h9 hC (by decide +kernel) hv
    refine VJ.perm (pf_back _ _ _ _) ?_
    refine VJ.istore C [(5, .int ((va_up I 0 1) 0)), (0, .ref b), (1, .ref ox), (2, .ref om), (3, .ref oj), (4, .int i)] dL_law_1814 (Nat.le_of_ble_eq_true rfl) rfl ?_
    refine VJ.aload_n C 3 dL_law_1816 rfl ?_
    refine VJ.sarg (j := 1) C hX hbl hbA 1 5 rfl rfl ⟨h1, hx1.symm⟩ (by decide) dL_law_1817 dL_law_1818 dL_law_1820 dL_law_1821 dL_law_1822 ?_
    refine VJ.sarg (j := 2) C hX hbl hbA 1 5 rfl rfl ⟨h2, hx2.symm⟩ (by decide) dL_law_1823 dL_law_1824 dL_law_1826 dL_law_1827 dL_law_1828 ?_
    refine VJ.callC C [.int x1, .int x2] (pf [mW cI cZ om adm I R]) (pf [jW cJ oj g2, (pf [xW cI cZ ox ad Ix Rx rf, qW cU (rf 5) rs]), aW cQ (rf 0) ra ta ea wa, lW cI cZ (rf 1) adk Ik Rk cmk, lW cI cZ (rf 2) adq Iq Rq cmq, lW cI cZ (rf 3) adc Ic Rc cmc, nW cI cZ (rf 4) adn In Rn, pW AL AI AR, RW cI cZ RL]) (pf [jW cJ oj g2, mW cI cZ om adm (va_up I 0 1) (R), (pf [xW cI cZ ox ad Ix Rx rf, qW cU (rf 5) rs]), aW cQ (rf 0) ra ta ea wa, lW cI cZ (rf 1) adk Ik Rk cmk, lW cI cZ (rf 2) adq Iq Rq cmq, lW cI cZ (rf 3) adc Ic Rc cmc, nW cI cZ (rf 4) adn In Rn, pW AL AI AR, RW cI cZ RL]) (c_X6_message l G cI cZ cQ cU cJ 20000 om adm I R x1 x2 (0, va_up I 0 1) f6) (pf_m1 _ _ _) (pf_m2 _ _ _) 0 rfl rfl (cwV 2 C.1.2.2.2.2 gL_law_X6_message rfl rfl rfl hyV_X6_message ⟨Nat.le_of_ble_eq_true rfl, Nat.le_of_ble_eq_true rfl⟩) rfl rfl (Nat.le_of_ble_eq_true rfl) dL_law_1829 ⟨rfl, rfl⟩ hR ?_
    refine VJ.istore C [(6, .int ((0 : Int32))), (5, .int ((va_up I 0 1) 0)), (0, .ref b), (1, .ref ox), (2, .ref om), (3, .ref oj), (4, .int i)] dL_law_1832 (Nat.le_of_ble_eq_true rfl) rfl ?_
    refine law_tail 1834 C hR rfl hg dL_law_1834 dL_law_1835 dL_law_1838 dL_law_1840 dL_law_1845 dL_law_1847 dL_law_1850 dL_law_1851 dL_law_1852 dL_law_1853 dL_law_1855 dL_law_1856 dL_law_1857 dL_law_1862 (by decide) ?_
    refine VJ.sub [2, 3, 4, 5, 6] rfl ?_
    exact kk _ ⟨ad, Ix, Rx, rf, ra, ta, ea, wa, adk, Ik, Rk, cmk, adq, Iq, Rq, cmq, adc, Ic, Rc, cmc, adn, In, Rn, AL, AI, AR, rs, RL, adm, va_up I 0 1, R, g2, hI, by rw [pf_nest]; exact vj_pfe 11 [0, 1, 2, 4, 5, 6, 7, 8, 3, 9, 10] rfl rfl (by decide)⟩

set_option maxHeartbeats 8000000 in
set_option maxRecDepth 100000 in
theorem law_holds {p : Program} {l : Launch} {e : Env} {s : State} {m : MethodId} {args : Array Value} {below : List Frame} {meth : Method} {c : Code} {G : va_G} {cI cZ cQ cU cJ : ClassId} {A : Nat → Prop} {Qf : Unit → State → Prop} {cells slots : Nat} {b L : Nat} {xs : Nat → Int32} {ox om oj t : Nat} {M : va_W} {i : Int32} (CX : CxX p l s m args meth c cL_law 7 wsL_law RL G vwCl (tys cI cZ cQ cU cJ) nws strs A) (hN : NC s) (hX : va_X b L xs s s.heap) (hbl : b < s.heap.size) (hbA : ¬ A b) (ht : t ≤ 511) (h1 : vp_in (i + 1) L) (h2 : vp_in (i + 2) L) (h3 : vp_in (i + 3) L) (h4 : vp_in (i + 4) L) (hR : cells + 40 ≤ room_1.cells ∧ slots + 13000 ≤ room_1.slots) (hM : LI cI cZ cQ cU cJ 20000 t ox om oj M) (kk : ∀ M' : va_W, LI cI cZ cQ cU cJ 20000 (t + 1) ox om oj M' → VJ p l e room_1 s m args below meth c 7 G vwCl A Qf (cells + 40) (slots + 13000) (some ()) M' 2216 [(0, .ref b), (1, .ref ox), (2, .ref om), (3, .ref oj), (4, .int i)] []) : VJ p l e room_1 s m args below meth c 7 G vwCl A Qf cells slots (some ()) M 1865 [(0, .ref b), (1, .ref ox), (2, .ref om), (3, .ref oj), (4, .int i)] [] := by
  obtain ⟨ad, Ix, Rx, rf, ra, ta, ea, wa, adk, Ik, Rk, cmk, adq, Iq, Rq, cmq, adc, Ic, Rc, cmc, adn, In, Rn, AL, AI, AR, rs, RL, adm, I, R, g, hIV, hM⟩ := hM
  obtain ⟨n9, m9, P9, d9, g9, od9, ao9, hc⟩ := hIV
  have C := CX.1
  obtain ⟨x1, hx1⟩ : ∃ z, z = xs (i + 1).toNatClampNeg := ⟨_, rfl⟩
  obtain ⟨x2, hx2⟩ : ∃ z, z = xs (i + 2).toNatClampNeg := ⟨_, rfl⟩
  rcases sim_holds hc x1 x2 with ⟨r9, e9, hr9, hRL, hxr, k9, v9, w9, I'9, f5, f6, hC, hv, hI⟩ | ⟨f5, f6, hI⟩
  · obtain ⟨W9, hW9, hW9s⟩ := rw_split (cI := cI) (cZ := cZ) hRL
    refine VJ.perm hM ?_
    refine VJ.perm (pf_last (ps := [jW cJ oj g, mW cI cZ om adm I R, xW cI cZ ox ad Ix Rx rf, aW cQ (rf 0) ra ta ea wa, lW cI cZ (rf 1) adk Ik Rk cmk, lW cI cZ (rf 2) adq Iq Rq cmq, lW cI cZ (rf 3) adc Ic Rc cmc, nW cI cZ (rf 4) adn In Rn, qW cU (rf 5) rs, pW AL AI AR]) hW9) ?_
    refine VJ.aload_n C 1 dL_law_1865 rfl ?_
    refine VJ.sarg (j := 1) C hX hbl hbA 0 4 rfl rfl ⟨h1, hx1.symm⟩ (by decide) dL_law_1866 dL_law_1867 dL_law_1869 dL_law_1870 dL_law_1871 ?_
    refine VJ.sarg (j := 2) C hX hbl hbA 0 4 rfl rfl ⟨h2, hx2.symm⟩ (by decide) dL_law_1872 dL_law_1873 dL_law_1875 dL_law_1876 dL_law_1877 ?_
    refine VJ.aload_n C 3 dL_law_1878 rfl ?_
    refine VJ.callW CX hN [.ref ox, .int x1, .int x2, .ref oj] (pf [xW cI cZ ox ad Ix Rx rf, qW cU (rf 5) rs, rW cI cZ e9.1 e9.2.1 e9.2.2.1 e9.2.2.2.1 e9.2.2.2.2] ++ jW cJ oj g) (pf [mW cI cZ om adm I R, aW cQ (rf 0) ra ta ea wa, lW cI cZ (rf 1) adk Ik Rk cmk, lW cI cZ (rf 2) adq Iq Rq cmq, lW cI cZ (rf 3) adc Ic Rc cmc, nW cI cZ (rf 4) adn In Rn, pW AL AI AR, W9]) 40 13000 (c_L_holds l CX.2.2 G cI cZ cQ cU cJ ox oj x1 x2 g (pf [xW cI cZ ox ad Ix Rx rf, qW cU (rf 5) rs, rW cI cZ e9.1 e9.2.1 e9.2.2.1 e9.2.2.2.1 e9.2.2.2.2]) _ (xF ad Ix rf) rfl (c_X5_holds l CX.2.2 G cI cZ cQ cU cJ ox ad rf Ix Rx rs e9.1 e9.2.1 e9.2.2.1 e9.2.2.2.1 e9.2.2.2.2 x1 x2 (k9, v9) f5) (fun _ _ h => ⟨_, h.2.1 rfl⟩) (fun k _ _ h => hn_1 (by rw [h.1]; exact hC))) (vj_pfj 12 [2, 8, 10, 0, 1, 3, 4, 5, 6, 7, 9, 11] rfl rfl (by decide)) (vx_cwSW 4 C.1.2.2.2.2 gL_law_L_holds rfl rfl rfl hy_L_holds ⟨Nat.le_of_ble_eq_true rfl, Nat.le_of_ble_eq_true rfl⟩) rfl rfl (Nat.le_of_ble_eq_true rfl) dL_law_1879 ⟨Nat.le_of_ble_eq_true rfl, Nat.le_of_ble_eq_true rfl⟩ hR ?_
    intro r M1 h9
    obtain ⟨g2, rfl, rfl, hg⟩ := lm_s h9 hC (by decide +kernel) hv
    refine VJ.perm (pf_back _ _ _ _) ?_
    refine VJ.istore C [(5, .int (I'9 0)), (0, .ref b), (1, .ref ox), (2, .ref om), (3, .ref oj), (4, .int i)] dL_law_1882 (Nat.le_of_ble_eq_true rfl) rfl ?_
    refine VJ.aload_n C 3 dL_law_1884 rfl ?_
    refine VJ.sarg (j := 1) C hX hbl hbA 1 5 rfl rfl ⟨h1, hx1.symm⟩ (by decide) dL_law_1885 dL_law_1886 dL_law_1888 dL_law_1889 dL_law_1890 ?_
    refine VJ.sarg (j := 2) C hX hbl hbA 1 5 rfl rfl ⟨h2, hx2.symm⟩ (by decide) dL_law_1891 dL_law_1892 dL_law_1894 dL_law_1895 dL_law_1896 ?_
    refine VJ.callC C [.int x1, .int x2] (pf [mW cI cZ om adm I R]) (pf [jW cJ oj g2, (pf [xW cI cZ ox ad Ix Rx rf, qW cU (rf 5) rs, rW cI cZ e9.1 e9.2.1 e9.2.2.1 e9.2.2.2.1 e9.2.2.2.2]), aW cQ (rf 0) ra ta ea wa, lW cI cZ (rf 1) adk Ik Rk cmk, lW cI cZ (rf 2) adq Iq Rq cmq, lW cI cZ (rf 3) adc Ic Rc cmc, nW cI cZ (rf 4) adn In Rn, pW AL AI AR, W9]) (pf [jW cJ oj g2, mW cI cZ om adm (I'9) (R), (pf [xW cI cZ ox ad Ix Rx rf, qW cU (rf 5) rs, rW cI cZ e9.1 e9.2.1 e9.2.2.1 e9.2.2.2.1 e9.2.2.2.2]), aW cQ (rf 0) ra ta ea wa, lW cI cZ (rf 1) adk Ik Rk cmk, lW cI cZ (rf 2) adq Iq Rq cmq, lW cI cZ (rf 3) adc Ic Rc cmc, nW cI cZ (rf 4) adn In Rn, pW AL AI AR, W9]) (c_X6_holds l G cI cZ cQ cU cJ om adm I R x1 x2 (w9, I'9) f6) (pf_m1 _ _ _) (pf_m2 _ _ _) 0 rfl rfl (cwV 2 C.1.2.2.2.2 gL_law_X6_holds rfl rfl rfl hyV_X6_holds ⟨Nat.le_of_ble_eq_true rfl, Nat.le_of_ble_eq_true rfl⟩) rfl rfl (Nat.le_of_ble_eq_true rfl) dL_law_1897 ⟨rfl, rfl⟩ hR ?_
    refine VJ.istore C [(6, .int (w9)), (5, .int (I'9 0)), (0, .ref b), (1, .ref ox), (2, .ref om), (3, .ref oj), (4, .int i)] dL_law_1900 (Nat.le_of_ble_eq_true rfl) rfl ?_
    refine law_tail 1902 C hR rfl hg dL_law_1902 dL_law_1903 dL_law_1906 dL_law_1908 dL_law_1913 dL_law_1915 dL_law_1918 dL_law_1919 dL_law_1920 dL_law_1921 dL_law_1923 dL_law_1924 dL_law_1925 dL_law_1930 (by decide) ?_
    refine VJ.sub [2, 3, 4, 5, 6] rfl ?_
    refine kk _ ⟨ad, Ix, Rx, rf, ra, ta, ea, wa, adk, Ik, Rk, cmk, adq, Iq, Rq, cmq, adc, Ic, Rc, cmc, adn, In, Rn, AL, AI, AR, rs, RL, adm, I'9, R, g2, hI, ?_⟩
    rw [pf_nest]
    refine (vj_pfe (cs := [jW cJ oj g2, mW cI cZ om adm (I'9) (R), xW cI cZ ox ad Ix Rx rf, aW cQ (rf 0) ra ta ea wa, lW cI cZ (rf 1) adk Ik Rk cmk, lW cI cZ (rf 2) adq Iq Rq cmq, lW cI cZ (rf 3) adc Ic Rc cmc, nW cI cZ (rf 4) adn In Rn, qW cU (rf 5) rs, pW AL AI AR, rW cI cZ e9.1 e9.2.1 e9.2.2.1 e9.2.2.2.1 e9.2.2.2.2, W9]) 12 [0, 1, 2, 5, 6, 7, 8, 9, 3, 10, 4, 11] rfl rfl (by decide)).trans ?_
    exact pf_last2 (ps := [jW cJ oj g2, mW cI cZ om adm (I'9) (R), xW cI cZ ox ad Ix Rx rf, aW cQ (rf 0) ra ta ea wa, lW cI cZ (rf 1) adk Ik Rk cmk, lW cI cZ (rf 2) adq Iq Rq cmq, lW cI cZ (rf 3) adc Ic Rc cmc, nW cI cZ (rf 4) adn In Rn, qW cU (rf 5) rs, pW AL AI AR]) (hW9.symm)
  · have hC : CRel e1 1 ((va_up I 0 1) 0) := Or.inr ⟨1, 1, List.mem_cons_self, rfl, rfl⟩
    have hv : (1 : Nat) = 0 → (0 : Int32) = (0 : Int32) := fun _ => rfl
    refine VJ.perm hM ?_
    refine VJ.aload_n C 1 dL_law_1865 rfl ?_
    refine VJ.sarg (j := 1) C hX hbl hbA 0 4 rfl rfl ⟨h1, hx1.symm⟩ (by decide) dL_law_1866 dL_law_1867 dL_law_1869 dL_law_1870 dL_law_1871 ?_
    refine VJ.sarg (j := 2) C hX hbl hbA 0 4 rfl rfl ⟨h2, hx2.symm⟩ (by decide) dL_law_1872 dL_law_1873 dL_law_1875 dL_law_1876 dL_law_1877 ?_
    refine VJ.aload_n C 3 dL_law_1878 rfl ?_
    refine VJ.callW CX hN [.ref ox, .int x1, .int x2, .ref oj] (pf [xW cI cZ ox ad Ix Rx rf, qW cU (rf 5) rs] ++ jW cJ oj g) (pf [mW cI cZ om adm I R, aW cQ (rf 0) ra ta ea wa, lW cI cZ (rf 1) adk Ik Rk cmk, lW cI cZ (rf 2) adq Iq Rq cmq, lW cI cZ (rf 3) adc Ic Rc cmc, nW cI cZ (rf 4) adn In Rn, pW AL AI AR, RW cI cZ RL]) 40 13000 (c_L_holds l CX.2.2 G cI cZ cQ cU cJ ox oj x1 x2 g (pf [xW cI cZ ox ad Ix Rx rf, qW cU (rf 5) rs]) _ (xF ad Ix rf) rfl (c_X5B_holds l CX.2.2 G cI cZ cQ cU cJ ox ad rf Ix Rx rs x1 x2 (1, 0) f5) (fun _ _ h => ⟨_, h.2.1 rfl⟩) (fun k _ _ h => hn_1 (by rw [h.1]; exact hC))) (vj_pfj 11 [2, 8, 0, 1, 3, 4, 5, 6, 7, 9, 10] rfl rfl (by decide)) (vx_cwSW 4 C.1.2.2.2.2 gL_law_L_holds rfl rfl rfl hy_L_holds ⟨Nat.le_of_ble_eq_true rfl, Nat.le_of_ble_eq_true rfl⟩) rfl rfl (Nat.le_of_ble_eq_true rfl) dL_law_1879 ⟨Nat.le_of_ble_eq_true rfl, Nat.le_of_ble_eq_true rfl⟩ hR ?_
    intro r M1 h9
    obtain ⟨g2, rfl, rfl, hg⟩ := lm_s h9 hC (by decide +kernel) hv
    refine VJ.perm (pf_back _ _ _ _) ?_
    refine VJ.istore C [(5, .int ((va_up I 0 1) 0)), (0, .ref b), (1, .ref ox), (2, .ref om), (3, .ref oj), (4, .int i)] dL_law_1882 (Nat.le_of_ble_eq_true rfl) rfl ?_
    refine VJ.aload_n C 3 dL_law_1884 rfl ?_
    refine VJ.sarg (j := 1) C hX hbl hbA 1 5 rfl rfl ⟨h1, hx1.symm⟩ (by decide) dL_law_1885 dL_law_1886 dL_law_1888 dL_law_1889 dL_law_1890 ?_
    refine VJ.sarg (j := 2) C hX hbl hbA 1 5 rfl rfl ⟨h2, hx2.symm⟩ (by decide) dL_law_1891 dL_law_1892 dL_law_1894 dL_law_1895 dL_law_1896 ?_
    refine VJ.callC C [.int x1, .int x2] (pf [mW cI cZ om adm I R]) (pf [jW cJ oj g2, (pf [xW cI cZ ox ad Ix Rx rf, qW cU (rf 5) rs]), aW cQ (rf 0) ra ta ea wa, lW cI cZ (rf 1) adk Ik Rk cmk, lW cI cZ (rf 2) adq Iq Rq cmq, lW cI cZ (rf 3) adc Ic Rc cmc, nW cI cZ (rf 4) adn In Rn, pW AL AI AR, RW cI cZ RL]) (pf [jW cJ oj g2, mW cI cZ om adm (va_up I 0 1) (R), (pf [xW cI cZ ox ad Ix Rx rf, qW cU (rf 5) rs]), aW cQ (rf 0) ra ta ea wa, lW cI cZ (rf 1) adk Ik Rk cmk, lW cI cZ (rf 2) adq Iq Rq cmq, lW cI cZ (rf 3) adc Ic Rc cmc, nW cI cZ (rf 4) adn In Rn, pW AL AI AR, RW cI cZ RL]) (c_X6_holds l G cI cZ cQ cU cJ om adm I R x1 x2 (0, va_up I 0 1) f6) (pf_m1 _ _ _) (pf_m2 _ _ _) 0 rfl rfl (cwV 2 C.1.2.2.2.2 gL_law_X6_holds rfl rfl rfl hyV_X6_holds ⟨Nat.le_of_ble_eq_true rfl, Nat.le_of_ble_eq_true rfl⟩) rfl rfl (Nat.le_of_ble_eq_true rfl) dL_law_1897 ⟨rfl, rfl⟩ hR ?_
    refine VJ.istore C [(6, .int ((0 : Int32))), (5, .int ((va_up I 0 1) 0)), (0, .ref b), (1, .ref ox), (2, .ref om), (3, .ref oj), (4, .int i)] dL_law_1900 (Nat.le_of_ble_eq_true rfl) rfl ?_
    refine law_tail 1902 C hR rfl hg dL_law_1902 dL_law_1903 dL_law_1906 dL_law_1908 dL_law_1913 dL_law_1915 dL_law_1918 dL_law_1919 dL_law_1920 dL_law_1921 dL_law_1923 dL_law_1924 dL_law_1925 dL_law_1930 (by decide) ?_
    refine VJ.sub [2, 3, 4, 5, 6] rfl ?_
    exact kk _ ⟨ad, Ix, Rx, rf, ra, ta, ea, wa, adk, Ik, Rk, cmk, adq, Iq, Rq, cmq, adc, Ic, Rc, cmc, adn, In, Rn, AL, AI, AR, rs, RL, adm, va_up I 0 1, R, g2, hI, by rw [pf_nest]; exact vj_pfe 11 [0, 1, 2, 4, 5, 6, 7, 8, 3, 9, 10] rfl rfl (by decide)⟩

set_option maxHeartbeats 8000000 in
set_option maxRecDepth 100000 in
theorem law_holdsAnew {p : Program} {l : Launch} {e : Env} {s : State} {m : MethodId} {args : Array Value} {below : List Frame} {meth : Method} {c : Code} {G : va_G} {cI cZ cQ cU cJ : ClassId} {A : Nat → Prop} {Qf : Unit → State → Prop} {cells slots : Nat} {b L : Nat} {xs : Nat → Int32} {ox om oj t : Nat} {M : va_W} {i : Int32} (CX : CxX p l s m args meth c cL_law 7 wsL_law RL G vwCl (tys cI cZ cQ cU cJ) nws strs A) (hN : NC s) (hX : va_X b L xs s s.heap) (hbl : b < s.heap.size) (hbA : ¬ A b) (ht : t ≤ 511) (h1 : vp_in (i + 1) L) (h2 : vp_in (i + 2) L) (h3 : vp_in (i + 3) L) (h4 : vp_in (i + 4) L) (hR : cells + 40 ≤ room_1.cells ∧ slots + 13000 ≤ room_1.slots) (hM : LI cI cZ cQ cU cJ 20000 t ox om oj M) (kk : ∀ M' : va_W, LI cI cZ cQ cU cJ 20000 (t + 1) ox om oj M' → VJ p l e room_1 s m args below meth c 7 G vwCl A Qf (cells + 40) (slots + 13000) (some ()) M' 2216 [(0, .ref b), (1, .ref ox), (2, .ref om), (3, .ref oj), (4, .int i)] []) : VJ p l e room_1 s m args below meth c 7 G vwCl A Qf cells slots (some ()) M 1933 [(0, .ref b), (1, .ref ox), (2, .ref om), (3, .ref oj), (4, .int i)] [] := by
  obtain ⟨ad, Ix, Rx, rf, ra, ta, ea, wa, adk, Ik, Rk, cmk, adq, Iq, Rq, cmq, adc, Ic, Rc, cmc, adn, In, Rn, AL, AI, AR, rs, RL, adm, I, R, g, hIV, hM⟩ := hM
  obtain ⟨n9, m9, P9, d9, g9, od9, ao9, hc⟩ := hIV
  have C := CX.1
  obtain ⟨x1, hx1⟩ : ∃ z, z = xs (i + 1).toNatClampNeg := ⟨_, rfl⟩
  obtain ⟨x2, hx2⟩ : ∃ z, z = xs (i + 2).toNatClampNeg := ⟨_, rfl⟩
  rcases sim_holdsAnew (Nat.le_of_ble_eq_true rfl) hc x1 x2 with ⟨r9, e9, hr9, hRL, hxr, k9, v9, w9, I'9, f5, f6, hC, hv, hI⟩ | ⟨f5, f6, hI⟩
  · obtain ⟨W9, hW9, hW9s⟩ := rw_split (cI := cI) (cZ := cZ) hRL
    refine VJ.perm hM ?_
    refine VJ.perm (pf_last (ps := [jW cJ oj g, mW cI cZ om adm I R, xW cI cZ ox ad Ix Rx rf, aW cQ (rf 0) ra ta ea wa, lW cI cZ (rf 1) adk Ik Rk cmk, lW cI cZ (rf 2) adq Iq Rq cmq, lW cI cZ (rf 3) adc Ic Rc cmc, nW cI cZ (rf 4) adn In Rn, qW cU (rf 5) rs, pW AL AI AR]) hW9) ?_
    refine VJ.aload_n C 1 dL_law_1933 rfl ?_
    refine VJ.sarg (j := 1) C hX hbl hbA 0 4 rfl rfl ⟨h1, hx1.symm⟩ (by decide) dL_law_1934 dL_law_1935 dL_law_1937 dL_law_1938 dL_law_1939 ?_
    refine VJ.sarg (j := 2) C hX hbl hbA 0 4 rfl rfl ⟨h2, hx2.symm⟩ (by decide) dL_law_1940 dL_law_1941 dL_law_1943 dL_law_1944 dL_law_1945 ?_
    refine VJ.aload_n C 3 dL_law_1946 rfl ?_
    refine VJ.callW CX hN [.ref ox, .int x1, .int x2, .ref oj] (pf [xW cI cZ ox ad Ix Rx rf, qW cU (rf 5) rs, rW cI cZ e9.1 e9.2.1 e9.2.2.1 e9.2.2.2.1 e9.2.2.2.2] ++ jW cJ oj g) (pf [mW cI cZ om adm I R, aW cQ (rf 0) ra ta ea wa, lW cI cZ (rf 1) adk Ik Rk cmk, lW cI cZ (rf 2) adq Iq Rq cmq, lW cI cZ (rf 3) adc Ic Rc cmc, nW cI cZ (rf 4) adn In Rn, pW AL AI AR, W9]) 40 13000 (c_L_holdsAnew l CX.2.2 G cI cZ cQ cU cJ ox oj x1 x2 g (pf [xW cI cZ ox ad Ix Rx rf, qW cU (rf 5) rs, rW cI cZ e9.1 e9.2.1 e9.2.2.1 e9.2.2.2.1 e9.2.2.2.2]) _ (xF ad Ix rf) rfl (c_X5_holdsAnew l CX.2.2 G cI cZ cQ cU cJ 20000 ox ad rf Ix Rx rs e9.1 e9.2.1 e9.2.2.1 e9.2.2.2.1 e9.2.2.2.2 x1 x2 (k9, v9) f5) (fun _ _ h => ⟨_, h.2.1 rfl⟩) (fun k _ _ h => hn_1 (by rw [h.1]; exact hC))) (vj_pfj 12 [2, 8, 10, 0, 1, 3, 4, 5, 6, 7, 9, 11] rfl rfl (by decide)) (vx_cwSW 4 C.1.2.2.2.2 gL_law_L_holdsAnew rfl rfl rfl hy_L_holdsAnew ⟨Nat.le_of_ble_eq_true rfl, Nat.le_of_ble_eq_true rfl⟩) rfl rfl (Nat.le_of_ble_eq_true rfl) dL_law_1947 ⟨Nat.le_of_ble_eq_true rfl, Nat.le_of_ble_eq_true rfl⟩ hR ?_
    intro r M1 h9
    obtain ⟨g2, rfl, rfl, hg⟩ := lm_s h9 hC (by decide +kernel) hv
    refine VJ.perm (pf_back _ _ _ _) ?_
    refine VJ.istore C [(5, .int (I'9 0)), (0, .ref b), (1, .ref ox), (2, .ref om), (3, .ref oj), (4, .int i)] dL_law_1950 (Nat.le_of_ble_eq_true rfl) rfl ?_
    refine VJ.aload_n C 3 dL_law_1952 rfl ?_
    refine VJ.sarg (j := 1) C hX hbl hbA 1 5 rfl rfl ⟨h1, hx1.symm⟩ (by decide) dL_law_1953 dL_law_1954 dL_law_1956 dL_law_1957 dL_law_1958 ?_
    refine VJ.sarg (j := 2) C hX hbl hbA 1 5 rfl rfl ⟨h2, hx2.symm⟩ (by decide) dL_law_1959 dL_law_1960 dL_law_1962 dL_law_1963 dL_law_1964 ?_
    refine VJ.callC C [.int x1, .int x2] (pf [mW cI cZ om adm I R]) (pf [jW cJ oj g2, (pf [xW cI cZ ox ad Ix Rx rf, qW cU (rf 5) rs, rW cI cZ e9.1 e9.2.1 e9.2.2.1 e9.2.2.2.1 e9.2.2.2.2]), aW cQ (rf 0) ra ta ea wa, lW cI cZ (rf 1) adk Ik Rk cmk, lW cI cZ (rf 2) adq Iq Rq cmq, lW cI cZ (rf 3) adc Ic Rc cmc, nW cI cZ (rf 4) adn In Rn, pW AL AI AR, W9]) (pf [jW cJ oj g2, mW cI cZ om adm (I'9) (R), (pf [xW cI cZ ox ad Ix Rx rf, qW cU (rf 5) rs, rW cI cZ e9.1 e9.2.1 e9.2.2.1 e9.2.2.2.1 e9.2.2.2.2]), aW cQ (rf 0) ra ta ea wa, lW cI cZ (rf 1) adk Ik Rk cmk, lW cI cZ (rf 2) adq Iq Rq cmq, lW cI cZ (rf 3) adc Ic Rc cmc, nW cI cZ (rf 4) adn In Rn, pW AL AI AR, W9]) (c_X6_holdsAnew l G cI cZ cQ cU cJ om adm I R x1 x2 (w9, I'9) f6) (pf_m1 _ _ _) (pf_m2 _ _ _) 0 rfl rfl (cwV 2 C.1.2.2.2.2 gL_law_X6_holdsAnew rfl rfl rfl hyV_X6_holdsAnew ⟨Nat.le_of_ble_eq_true rfl, Nat.le_of_ble_eq_true rfl⟩) rfl rfl (Nat.le_of_ble_eq_true rfl) dL_law_1965 ⟨rfl, rfl⟩ hR ?_
    refine VJ.istore C [(6, .int (w9)), (5, .int (I'9 0)), (0, .ref b), (1, .ref ox), (2, .ref om), (3, .ref oj), (4, .int i)] dL_law_1968 (Nat.le_of_ble_eq_true rfl) rfl ?_
    refine law_tail 1970 C hR rfl hg dL_law_1970 dL_law_1971 dL_law_1974 dL_law_1976 dL_law_1981 dL_law_1983 dL_law_1986 dL_law_1987 dL_law_1988 dL_law_1989 dL_law_1991 dL_law_1992 dL_law_1993 dL_law_1998 (by decide) ?_
    refine VJ.sub [2, 3, 4, 5, 6] rfl ?_
    refine kk _ ⟨ad, Ix, Rx, rf, ra, ta, ea, wa, adk, Ik, Rk, cmk, adq, Iq, Rq, cmq, adc, Ic, Rc, cmc, adn, In, Rn, AL, AI, AR, rs, RL, adm, I'9, R, g2, hI, ?_⟩
    rw [pf_nest]
    refine (vj_pfe (cs := [jW cJ oj g2, mW cI cZ om adm (I'9) (R), xW cI cZ ox ad Ix Rx rf, aW cQ (rf 0) ra ta ea wa, lW cI cZ (rf 1) adk Ik Rk cmk, lW cI cZ (rf 2) adq Iq Rq cmq, lW cI cZ (rf 3) adc Ic Rc cmc, nW cI cZ (rf 4) adn In Rn, qW cU (rf 5) rs, pW AL AI AR, rW cI cZ e9.1 e9.2.1 e9.2.2.1 e9.2.2.2.1 e9.2.2.2.2, W9]) 12 [0, 1, 2, 5, 6, 7, 8, 9, 3, 10, 4, 11] rfl rfl (by decide)).trans ?_
    exact pf_last2 (ps := [jW cJ oj g2, mW cI cZ om adm (I'9) (R), xW cI cZ ox ad Ix Rx rf, aW cQ (rf 0) ra ta ea wa, lW cI cZ (rf 1) adk Ik Rk cmk, lW cI cZ (rf 2) adq Iq Rq cmq, lW cI cZ (rf 3) adc Ic Rc cmc, nW cI cZ (rf 4) adn In Rn, qW cU (rf 5) rs, pW AL AI AR]) (hW9.symm)
  · have hC : CRel e1 1 ((va_up I 0 1) 0) := Or.inr ⟨1, 1, List.mem_cons_self, rfl, rfl⟩
    have hv : (1 : Nat) = 0 → (0 : Int32) = (0 : Int32) := fun _ => rfl
    refine VJ.perm hM ?_
    refine VJ.aload_n C 1 dL_law_1933 rfl ?_
    refine VJ.sarg (j := 1) C hX hbl hbA 0 4 rfl rfl ⟨h1, hx1.symm⟩ (by decide) dL_law_1934 dL_law_1935 dL_law_1937 dL_law_1938 dL_law_1939 ?_
    refine VJ.sarg (j := 2) C hX hbl hbA 0 4 rfl rfl ⟨h2, hx2.symm⟩ (by decide) dL_law_1940 dL_law_1941 dL_law_1943 dL_law_1944 dL_law_1945 ?_
    refine VJ.aload_n C 3 dL_law_1946 rfl ?_
    refine VJ.callW CX hN [.ref ox, .int x1, .int x2, .ref oj] (pf [xW cI cZ ox ad Ix Rx rf, qW cU (rf 5) rs] ++ jW cJ oj g) (pf [mW cI cZ om adm I R, aW cQ (rf 0) ra ta ea wa, lW cI cZ (rf 1) adk Ik Rk cmk, lW cI cZ (rf 2) adq Iq Rq cmq, lW cI cZ (rf 3) adc Ic Rc cmc, nW cI cZ (rf 4) adn In Rn, pW AL AI AR, RW cI cZ RL]) 40 13000 (c_L_holdsAnew l CX.2.2 G cI cZ cQ cU cJ ox oj x1 x2 g (pf [xW cI cZ ox ad Ix Rx rf, qW cU (rf 5) rs]) _ (xF ad Ix rf) rfl (c_X5B_holdsAnew l CX.2.2 G cI cZ cQ cU cJ ox ad rf Ix Rx rs x1 x2 (1, 0) f5) (fun _ _ h => ⟨_, h.2.1 rfl⟩) (fun k _ _ h => hn_1 (by rw [h.1]; exact hC))) (vj_pfj 11 [2, 8, 0, 1, 3, 4, 5, 6, 7, 9, 10] rfl rfl (by decide)) (vx_cwSW 4 C.1.2.2.2.2 gL_law_L_holdsAnew rfl rfl rfl hy_L_holdsAnew ⟨Nat.le_of_ble_eq_true rfl, Nat.le_of_ble_eq_true rfl⟩) rfl rfl (Nat.le_of_ble_eq_true rfl) dL_law_1947 ⟨Nat.le_of_ble_eq_true rfl, Nat.le_of_ble_eq_true rfl⟩ hR ?_
    intro r M1 h9
    obtain ⟨g2, rfl, rfl, hg⟩ := lm_s h9 hC (by decide +kernel) hv
    refine VJ.perm (pf_back _ _ _ _) ?_
    refine VJ.istore C [(5, .int ((va_up I 0 1) 0)), (0, .ref b), (1, .ref ox), (2, .ref om), (3, .ref oj), (4, .int i)] dL_law_1950 (Nat.le_of_ble_eq_true rfl) rfl ?_
    refine VJ.aload_n C 3 dL_law_1952 rfl ?_
    refine VJ.sarg (j := 1) C hX hbl hbA 1 5 rfl rfl ⟨h1, hx1.symm⟩ (by decide) dL_law_1953 dL_law_1954 dL_law_1956 dL_law_1957 dL_law_1958 ?_
    refine VJ.sarg (j := 2) C hX hbl hbA 1 5 rfl rfl ⟨h2, hx2.symm⟩ (by decide) dL_law_1959 dL_law_1960 dL_law_1962 dL_law_1963 dL_law_1964 ?_
    refine VJ.callC C [.int x1, .int x2] (pf [mW cI cZ om adm I R]) (pf [jW cJ oj g2, (pf [xW cI cZ ox ad Ix Rx rf, qW cU (rf 5) rs]), aW cQ (rf 0) ra ta ea wa, lW cI cZ (rf 1) adk Ik Rk cmk, lW cI cZ (rf 2) adq Iq Rq cmq, lW cI cZ (rf 3) adc Ic Rc cmc, nW cI cZ (rf 4) adn In Rn, pW AL AI AR, RW cI cZ RL]) (pf [jW cJ oj g2, mW cI cZ om adm (va_up I 0 1) (R), (pf [xW cI cZ ox ad Ix Rx rf, qW cU (rf 5) rs]), aW cQ (rf 0) ra ta ea wa, lW cI cZ (rf 1) adk Ik Rk cmk, lW cI cZ (rf 2) adq Iq Rq cmq, lW cI cZ (rf 3) adc Ic Rc cmc, nW cI cZ (rf 4) adn In Rn, pW AL AI AR, RW cI cZ RL]) (c_X6_holdsAnew l G cI cZ cQ cU cJ om adm I R x1 x2 (0, va_up I 0 1) f6) (pf_m1 _ _ _) (pf_m2 _ _ _) 0 rfl rfl (cwV 2 C.1.2.2.2.2 gL_law_X6_holdsAnew rfl rfl rfl hyV_X6_holdsAnew ⟨Nat.le_of_ble_eq_true rfl, Nat.le_of_ble_eq_true rfl⟩) rfl rfl (Nat.le_of_ble_eq_true rfl) dL_law_1965 ⟨rfl, rfl⟩ hR ?_
    refine VJ.istore C [(6, .int ((0 : Int32))), (5, .int ((va_up I 0 1) 0)), (0, .ref b), (1, .ref ox), (2, .ref om), (3, .ref oj), (4, .int i)] dL_law_1968 (Nat.le_of_ble_eq_true rfl) rfl ?_
    refine law_tail 1970 C hR rfl hg dL_law_1970 dL_law_1971 dL_law_1974 dL_law_1976 dL_law_1981 dL_law_1983 dL_law_1986 dL_law_1987 dL_law_1988 dL_law_1989 dL_law_1991 dL_law_1992 dL_law_1993 dL_law_1998 (by decide) ?_
    refine VJ.sub [2, 3, 4, 5, 6] rfl ?_
    exact kk _ ⟨ad, Ix, Rx, rf, ra, ta, ea, wa, adk, Ik, Rk, cmk, adq, Iq, Rq, cmq, adc, Ic, Rc, cmc, adn, In, Rn, AL, AI, AR, rs, RL, adm, va_up I 0 1, R, g2, hI, by rw [pf_nest]; exact vj_pfe 11 [0, 1, 2, 4, 5, 6, 7, 8, 3, 9, 10] rfl rfl (by decide)⟩

set_option maxHeartbeats 8000000 in
set_option maxRecDepth 100000 in
theorem law_bar {p : Program} {l : Launch} {e : Env} {s : State} {m : MethodId} {args : Array Value} {below : List Frame} {meth : Method} {c : Code} {G : va_G} {cI cZ cQ cU cJ : ClassId} {A : Nat → Prop} {Qf : Unit → State → Prop} {cells slots : Nat} {b L : Nat} {xs : Nat → Int32} {ox om oj t : Nat} {M : va_W} {i : Int32} (CX : CxX p l s m args meth c cL_law 7 wsL_law RL G vwCl (tys cI cZ cQ cU cJ) nws strs A) (hN : NC s) (hX : va_X b L xs s s.heap) (hbl : b < s.heap.size) (hbA : ¬ A b) (ht : t ≤ 511) (h1 : vp_in (i + 1) L) (h2 : vp_in (i + 2) L) (h3 : vp_in (i + 3) L) (h4 : vp_in (i + 4) L) (hR : cells + 40 ≤ room_1.cells ∧ slots + 13000 ≤ room_1.slots) (hM : LI cI cZ cQ cU cJ 20000 t ox om oj M) (kk : ∀ M' : va_W, LI cI cZ cQ cU cJ 20000 (t + 1) ox om oj M' → VJ p l e room_1 s m args below meth c 7 G vwCl A Qf (cells + 40) (slots + 13000) (some ()) M' 2216 [(0, .ref b), (1, .ref ox), (2, .ref om), (3, .ref oj), (4, .int i)] []) : VJ p l e room_1 s m args below meth c 7 G vwCl A Qf cells slots (some ()) M 2001 [(0, .ref b), (1, .ref ox), (2, .ref om), (3, .ref oj), (4, .int i)] [] := by
  obtain ⟨ad, Ix, Rx, rf, ra, ta, ea, wa, adk, Ik, Rk, cmk, adq, Iq, Rq, cmq, adc, Ic, Rc, cmc, adn, In, Rn, AL, AI, AR, rs, RL, adm, I, R, g, hIV, hM⟩ := hM
  obtain ⟨n9, m9, P9, d9, g9, od9, ao9, hc⟩ := hIV
  have C := CX.1
  obtain ⟨x1, hx1⟩ : ∃ z, z = xs (i + 1).toNatClampNeg := ⟨_, rfl⟩
  obtain ⟨x2, hx2⟩ : ∃ z, z = (if xs (i + 2).toNatClampNeg = 0 then (0 : Int32) else 1) := ⟨_, rfl⟩
  obtain ⟨out, outM, f5, f6, hC, hv, hI⟩ := sim_bar hc x1 x2 (by rw [hx2]; split; exact Or.inl rfl; exact Or.inr rfl)
  refine VJ.perm hM ?_
  refine VJ.aload_n C 1 dL_law_2001 rfl ?_
  refine VJ.sarg (j := 1) C hX hbl hbA 0 4 rfl rfl ⟨h1, hx1.symm⟩ (by decide) dL_law_2002 dL_law_2003 dL_law_2005 dL_law_2006 dL_law_2007 ?_
  refine VJ.sarg (j := 2) C hX hbl hbA 0 4 rfl rfl ⟨h2, rfl⟩ (by decide) dL_law_2008 dL_law_2009 dL_law_2011 dL_law_2012 dL_law_2013 ?_
  refine law_bool 2014 C hx2 dL_law_2014 dL_law_2017 dL_law_2018 dL_law_2021 ?_
  refine VJ.aload_n C 3 dL_law_2022 rfl ?_
  refine VJ.callW CX hN [.ref ox, .int x1, .int x2, .ref oj] (pf [xW cI cZ ox ad Ix Rx rf] ++ jW cJ oj g) (pf [mW cI cZ om adm I R, aW cQ (rf 0) ra ta ea wa, lW cI cZ (rf 1) adk Ik Rk cmk, lW cI cZ (rf 2) adq Iq Rq cmq, lW cI cZ (rf 3) adc Ic Rc cmc, nW cI cZ (rf 4) adn In Rn, qW cU (rf 5) rs, pW AL AI AR, RW cI cZ RL]) 40 13000 (c_L_bar l CX.2.2 G cI cZ cQ cU cJ ox oj x1 x2 g (pf [xW cI cZ ox ad Ix Rx rf]) _ (xF ad Ix rf) rfl (c_X5_bar l CX.2.2 G cI cZ cQ cU cJ ox ad rf Ix Rx x1 x2 out f5) (fun _ _ h => ⟨_, h.2.1 rfl⟩) (fun k _ _ h => hn_1 (by rw [h.1]; exact hC))) (vj_pfj 11 [2, 0, 1, 3, 4, 5, 6, 7, 8, 9, 10] rfl rfl (by decide)) (vx_cwSW 4 C.1.2.2.2.2 gL_law_L_bar rfl rfl rfl hy_L_bar ⟨Nat.le_of_ble_eq_true rfl, Nat.le_of_ble_eq_true rfl⟩) rfl rfl (Nat.le_of_ble_eq_true rfl) dL_law_2023 ⟨Nat.le_of_ble_eq_true rfl, Nat.le_of_ble_eq_true rfl⟩ hR ?_
  intro r M1 h9
  obtain ⟨g2, rfl, rfl, hg⟩ := lm_s h9 hC (by decide +kernel) (fun h => (hv h).1)
  refine VJ.perm (pf_back _ _ _ _) ?_
  refine VJ.istore C [(5, .int (outM.2.1 0)), (0, .ref b), (1, .ref ox), (2, .ref om), (3, .ref oj), (4, .int i)] dL_law_2026 (Nat.le_of_ble_eq_true rfl) rfl ?_
  refine VJ.aload_n C 3 dL_law_2028 rfl ?_
  refine VJ.sarg (j := 1) C hX hbl hbA 1 5 rfl rfl ⟨h1, hx1.symm⟩ (by decide) dL_law_2029 dL_law_2030 dL_law_2032 dL_law_2033 dL_law_2034 ?_
  refine VJ.sarg (j := 2) C hX hbl hbA 1 5 rfl rfl ⟨h2, rfl⟩ (by decide) dL_law_2035 dL_law_2036 dL_law_2038 dL_law_2039 dL_law_2040 ?_
  refine law_bool 2041 C hx2 dL_law_2041 dL_law_2044 dL_law_2045 dL_law_2048 ?_
  refine VJ.callC C [.int x1, .int x2] (pf [mW cI cZ om adm I R]) (pf [jW cJ oj g2, (pf [xW cI cZ ox ad Ix out.2.2 rf]), aW cQ (rf 0) ra ta ea wa, lW cI cZ (rf 1) adk Ik Rk cmk, lW cI cZ (rf 2) adq Iq Rq cmq, lW cI cZ (rf 3) adc Ic Rc cmc, nW cI cZ (rf 4) adn In Rn, qW cU (rf 5) rs, pW AL AI AR, RW cI cZ RL]) (pf [jW cJ oj g2, mW cI cZ om adm (outM.2.1) (outM.2.2), (pf [xW cI cZ ox ad Ix out.2.2 rf]), aW cQ (rf 0) ra ta ea wa, lW cI cZ (rf 1) adk Ik Rk cmk, lW cI cZ (rf 2) adq Iq Rq cmq, lW cI cZ (rf 3) adc Ic Rc cmc, nW cI cZ (rf 4) adn In Rn, qW cU (rf 5) rs, pW AL AI AR, RW cI cZ RL]) (c_X6_bar l G cI cZ cQ cU cJ om adm I R x1 x2 outM f6) (pf_m1 _ _ _) (pf_m2 _ _ _) 0 rfl rfl (cwV 2 C.1.2.2.2.2 gL_law_X6_bar rfl rfl rfl hyV_X6_bar ⟨Nat.le_of_ble_eq_true rfl, Nat.le_of_ble_eq_true rfl⟩) rfl rfl (Nat.le_of_ble_eq_true rfl) dL_law_2049 ⟨rfl, rfl⟩ hR ?_
  refine VJ.istore C [(6, .int (outM.1)), (5, .int (outM.2.1 0)), (0, .ref b), (1, .ref ox), (2, .ref om), (3, .ref oj), (4, .int i)] dL_law_2052 (Nat.le_of_ble_eq_true rfl) rfl ?_
  refine law_tailz 2054 C hR rfl hg dL_law_2054 dL_law_2055 dL_law_2058 dL_law_2060 dL_law_2065 dL_law_2067 dL_law_2070 dL_law_2071 dL_law_2072 dL_law_2073 dL_law_2075 dL_law_2078 dL_law_2079 dL_law_2082 dL_law_2083 dL_law_2084 dL_law_2089 (by decide) ?_
  refine VJ.sub [2, 3, 4, 5, 6] rfl ?_
  exact kk _ ⟨ad, Ix, out.2.2, rf, ra, ta, ea, wa, adk, Ik, Rk, cmk, adq, Iq, Rq, cmq, adc, Ic, Rc, cmc, adn, In, Rn, AL, AI, AR, rs, RL, adm, outM.2.1, outM.2.2, g2, hI, by rw [pf_nest]; exact vj_pfe 11 [0, 1, 2, 3, 4, 5, 6, 7, 8, 9, 10] rfl rfl (by decide)⟩

set_option maxHeartbeats 8000000 in
set_option maxRecDepth 100000 in
theorem law_look {p : Program} {l : Launch} {e : Env} {s : State} {m : MethodId} {args : Array Value} {below : List Frame} {meth : Method} {c : Code} {G : va_G} {cI cZ cQ cU cJ : ClassId} {A : Nat → Prop} {Qf : Unit → State → Prop} {cells slots : Nat} {b L : Nat} {xs : Nat → Int32} {ox om oj t : Nat} {M : va_W} {i : Int32} (CX : CxX p l s m args meth c cL_law 7 wsL_law RL G vwCl (tys cI cZ cQ cU cJ) nws strs A) (hN : NC s) (hX : va_X b L xs s s.heap) (hbl : b < s.heap.size) (hbA : ¬ A b) (ht : t ≤ 511) (h1 : vp_in (i + 1) L) (h2 : vp_in (i + 2) L) (h3 : vp_in (i + 3) L) (h4 : vp_in (i + 4) L) (hR : cells + 40 ≤ room_1.cells ∧ slots + 13000 ≤ room_1.slots) (hM : LI cI cZ cQ cU cJ 20000 t ox om oj M) (kk : ∀ M' : va_W, LI cI cZ cQ cU cJ 20000 (t + 1) ox om oj M' → VJ p l e room_1 s m args below meth c 7 G vwCl A Qf (cells + 40) (slots + 13000) (some ()) M' 2216 [(0, .ref b), (1, .ref ox), (2, .ref om), (3, .ref oj), (4, .int i)] []) : VJ p l e room_1 s m args below meth c 7 G vwCl A Qf cells slots (some ()) M 2092 [(0, .ref b), (1, .ref ox), (2, .ref om), (3, .ref oj), (4, .int i)] [] := by
  obtain ⟨ad, Ix, Rx, rf, ra, ta, ea, wa, adk, Ik, Rk, cmk, adq, Iq, Rq, cmq, adc, Ic, Rc, cmc, adn, In, Rn, AL, AI, AR, rs, RL, adm, I, R, g, hIV, hM⟩ := hM
  obtain ⟨n9, m9, P9, d9, g9, od9, ao9, hc⟩ := hIV
  have C := CX.1
  obtain ⟨x1, hx1⟩ : ∃ z, z = xs (i + 1).toNatClampNeg := ⟨_, rfl⟩
  obtain ⟨x2, hx2⟩ : ∃ z, z = xs (i + 2).toNatClampNeg := ⟨_, rfl⟩
  obtain ⟨out, outM, f5, f6, hC, hv, hI⟩ := sim_look (Nat.le_of_ble_eq_true rfl) hc x1 x2
  refine VJ.perm hM ?_
  refine VJ.aload_n C 1 dL_law_2092 rfl ?_
  refine VJ.sarg (j := 1) C hX hbl hbA 0 4 rfl rfl ⟨h1, hx1.symm⟩ (by decide) dL_law_2093 dL_law_2094 dL_law_2096 dL_law_2097 dL_law_2098 ?_
  refine VJ.sarg (j := 2) C hX hbl hbA 0 4 rfl rfl ⟨h2, hx2.symm⟩ (by decide) dL_law_2099 dL_law_2100 dL_law_2102 dL_law_2103 dL_law_2104 ?_
  refine VJ.aload_n C 3 dL_law_2105 rfl ?_
  refine VJ.callW CX hN [.ref ox, .int x1, .int x2, .ref oj] (pf [xW cI cZ ox ad Ix Rx rf, lW cI cZ (rf 1) adk Ik Rk cmk] ++ jW cJ oj g) (pf [mW cI cZ om adm I R, aW cQ (rf 0) ra ta ea wa, lW cI cZ (rf 2) adq Iq Rq cmq, lW cI cZ (rf 3) adc Ic Rc cmc, nW cI cZ (rf 4) adn In Rn, qW cU (rf 5) rs, pW AL AI AR, RW cI cZ RL]) 40 13000 (c_L_look l CX.2.2 G cI cZ cQ cU cJ ox oj x1 x2 g (pf [xW cI cZ ox ad Ix Rx rf, lW cI cZ (rf 1) adk Ik Rk cmk]) _ (xF ad Ix rf) rfl (c_X5_look l CX.2.2 G cI cZ cQ cU cJ ox ad rf Ix Rx adk Ik Rk cmk x1 x2 out f5) (fun _ _ h => ⟨_, h.2.1 rfl⟩) (fun k _ _ h => hn_12 (by rw [h.1]; exact hC))) (vj_pfj 11 [2, 4, 0, 1, 3, 5, 6, 7, 8, 9, 10] rfl rfl (by decide)) (vx_cwSW 4 C.1.2.2.2.2 gL_law_L_look rfl rfl rfl hy_L_look ⟨Nat.le_of_ble_eq_true rfl, Nat.le_of_ble_eq_true rfl⟩) rfl rfl (Nat.le_of_ble_eq_true rfl) dL_law_2106 ⟨Nat.le_of_ble_eq_true rfl, Nat.le_of_ble_eq_true rfl⟩ hR ?_
  intro r M1 h9
  obtain ⟨g2, rfl, rfl, hg⟩ := lm_s h9 hC (by decide +kernel) hv
  refine VJ.perm (pf_back _ _ _ _) ?_
  refine VJ.istore C [(5, .int (outM.2.1 0)), (0, .ref b), (1, .ref ox), (2, .ref om), (3, .ref oj), (4, .int i)] dL_law_2109 (Nat.le_of_ble_eq_true rfl) rfl ?_
  refine VJ.aload_n C 3 dL_law_2111 rfl ?_
  refine VJ.sarg (j := 1) C hX hbl hbA 1 5 rfl rfl ⟨h1, hx1.symm⟩ (by decide) dL_law_2112 dL_law_2113 dL_law_2115 dL_law_2116 dL_law_2117 ?_
  refine VJ.sarg (j := 2) C hX hbl hbA 1 5 rfl rfl ⟨h2, hx2.symm⟩ (by decide) dL_law_2118 dL_law_2119 dL_law_2121 dL_law_2122 dL_law_2123 ?_
  refine VJ.callC C [.int x1, .int x2] (pf [mW cI cZ om adm I R]) (pf [jW cJ oj g2, (pf [xW cI cZ ox ad Ix out.2.2 rf, lW cI cZ (rf 1) adk Ik Rk cmk]), aW cQ (rf 0) ra ta ea wa, lW cI cZ (rf 2) adq Iq Rq cmq, lW cI cZ (rf 3) adc Ic Rc cmc, nW cI cZ (rf 4) adn In Rn, qW cU (rf 5) rs, pW AL AI AR, RW cI cZ RL]) (pf [jW cJ oj g2, mW cI cZ om adm (outM.2.1) (outM.2.2), (pf [xW cI cZ ox ad Ix out.2.2 rf, lW cI cZ (rf 1) adk Ik Rk cmk]), aW cQ (rf 0) ra ta ea wa, lW cI cZ (rf 2) adq Iq Rq cmq, lW cI cZ (rf 3) adc Ic Rc cmc, nW cI cZ (rf 4) adn In Rn, qW cU (rf 5) rs, pW AL AI AR, RW cI cZ RL]) (c_X6_look l G cI cZ cQ cU cJ 20000 om adm I R x1 x2 outM f6) (pf_m1 _ _ _) (pf_m2 _ _ _) 0 rfl rfl (cwV 2 C.1.2.2.2.2 gL_law_X6_look rfl rfl rfl hyV_X6_look ⟨Nat.le_of_ble_eq_true rfl, Nat.le_of_ble_eq_true rfl⟩) rfl rfl (Nat.le_of_ble_eq_true rfl) dL_law_2124 ⟨rfl, rfl⟩ hR ?_
  refine VJ.istore C [(6, .int (outM.1)), (5, .int (outM.2.1 0)), (0, .ref b), (1, .ref ox), (2, .ref om), (3, .ref oj), (4, .int i)] dL_law_2127 (Nat.le_of_ble_eq_true rfl) rfl ?_
  refine law_tail 2129 C hR rfl hg dL_law_2129 dL_law_2130 dL_law_2133 dL_law_2135 dL_law_2140 dL_law_2142 dL_law_2145 dL_law_2146 dL_law_2147 dL_law_2148 dL_law_2150 dL_law_2151 dL_law_2152 dL_law_2157 (by decide) ?_
  refine VJ.sub [2, 3, 4, 5, 6] rfl ?_
  exact kk _ ⟨ad, Ix, out.2.2, rf, ra, ta, ea, wa, adk, Ik, Rk, cmk, adq, Iq, Rq, cmq, adc, Ic, Rc, cmc, adn, In, Rn, AL, AI, AR, rs, RL, adm, outM.2.1, outM.2.2, g2, hI, by rw [pf_nest]; exact vj_pfe 11 [0, 1, 2, 4, 3, 5, 6, 7, 8, 9, 10] rfl rfl (by decide)⟩

set_option maxHeartbeats 8000000 in
set_option maxRecDepth 100000 in
theorem law_looks {p : Program} {l : Launch} {e : Env} {s : State} {m : MethodId} {args : Array Value} {below : List Frame} {meth : Method} {c : Code} {G : va_G} {cI cZ cQ cU cJ : ClassId} {A : Nat → Prop} {Qf : Unit → State → Prop} {cells slots : Nat} {b L : Nat} {xs : Nat → Int32} {ox om oj t : Nat} {M : va_W} {i : Int32} (CX : CxX p l s m args meth c cL_law 7 wsL_law RL G vwCl (tys cI cZ cQ cU cJ) nws strs A) (hN : NC s) (hX : va_X b L xs s s.heap) (hbl : b < s.heap.size) (hbA : ¬ A b) (ht : t ≤ 511) (h1 : vp_in (i + 1) L) (h2 : vp_in (i + 2) L) (h3 : vp_in (i + 3) L) (h4 : vp_in (i + 4) L) (hR : cells + 40 ≤ room_1.cells ∧ slots + 13000 ≤ room_1.slots) (hM : LI cI cZ cQ cU cJ 20000 t ox om oj M) (kk : ∀ M' : va_W, LI cI cZ cQ cU cJ 20000 (t + 1) ox om oj M' → VJ p l e room_1 s m args below meth c 7 G vwCl A Qf (cells + 40) (slots + 13000) (some ()) M' 2216 [(0, .ref b), (1, .ref ox), (2, .ref om), (3, .ref oj), (4, .int i)] []) : VJ p l e room_1 s m args below meth c 7 G vwCl A Qf cells slots (some ()) M 2160 [(0, .ref b), (1, .ref ox), (2, .ref om), (3, .ref oj), (4, .int i)] [] := by
  obtain ⟨ad, Ix, Rx, rf, ra, ta, ea, wa, adk, Ik, Rk, cmk, adq, Iq, Rq, cmq, adc, Ic, Rc, cmc, adn, In, Rn, AL, AI, AR, rs, RL, adm, I, R, g, hIV, hM⟩ := hM
  obtain ⟨n9, m9, P9, d9, g9, od9, ao9, hc⟩ := hIV
  have C := CX.1
  obtain ⟨x1, hx1⟩ : ∃ z, z = xs (i + 1).toNatClampNeg := ⟨_, rfl⟩
  obtain ⟨out, outM, f5, f6, hC, hv, hI⟩ := sim_looks hc x1
  refine VJ.perm hM ?_
  refine VJ.aload_n C 1 dL_law_2160 rfl ?_
  refine VJ.sarg (j := 1) C hX hbl hbA 0 4 rfl rfl ⟨h1, hx1.symm⟩ (by decide) dL_law_2161 dL_law_2162 dL_law_2164 dL_law_2165 dL_law_2166 ?_
  refine VJ.aload_n C 3 dL_law_2167 rfl ?_
  refine VJ.callW CX hN [.ref ox, .int x1, .ref oj] (pf [xW cI cZ ox ad Ix Rx rf] ++ jW cJ oj g) (pf [mW cI cZ om adm I R, aW cQ (rf 0) ra ta ea wa, lW cI cZ (rf 1) adk Ik Rk cmk, lW cI cZ (rf 2) adq Iq Rq cmq, lW cI cZ (rf 3) adc Ic Rc cmc, nW cI cZ (rf 4) adn In Rn, qW cU (rf 5) rs, pW AL AI AR, RW cI cZ RL]) 40 13000 (c_L_looks l CX.2.2 G cI cZ cQ cU cJ ox oj x1 g (pf [xW cI cZ ox ad Ix Rx rf]) _ (xF ad Ix rf) rfl (c_X5_looks l CX.2.2 G cI cZ cQ cU cJ ox ad rf Ix Rx x1 out f5) (fun _ _ h => ⟨_, h.2.1 rfl⟩) (fun k _ _ h => hn_1 (by rw [h.1]; exact hC))) (vj_pfj 11 [2, 0, 1, 3, 4, 5, 6, 7, 8, 9, 10] rfl rfl (by decide)) (vx_cwSW 3 C.1.2.2.2.2 gL_law_L_looks rfl rfl rfl hy_L_looks ⟨Nat.le_of_ble_eq_true rfl, Nat.le_of_ble_eq_true rfl⟩) rfl rfl (Nat.le_of_ble_eq_true rfl) dL_law_2168 ⟨Nat.le_of_ble_eq_true rfl, Nat.le_of_ble_eq_true rfl⟩ hR ?_
  intro r M1 h9
  obtain ⟨g2, rfl, rfl, hg⟩ := lm_s h9 hC (by decide +kernel) hv
  refine VJ.perm (pf_back _ _ _ _) ?_
  refine VJ.istore C [(5, .int (outM.2 0)), (0, .ref b), (1, .ref ox), (2, .ref om), (3, .ref oj), (4, .int i)] dL_law_2171 (Nat.le_of_ble_eq_true rfl) rfl ?_
  refine VJ.aload_n C 3 dL_law_2173 rfl ?_
  refine VJ.sarg (j := 1) C hX hbl hbA 1 5 rfl rfl ⟨h1, hx1.symm⟩ (by decide) dL_law_2174 dL_law_2175 dL_law_2177 dL_law_2178 dL_law_2179 ?_
  refine VJ.callC C [.int x1] (pf [mW cI cZ om adm I R]) (pf [jW cJ oj g2, (pf [xW cI cZ ox ad Ix Rx rf]), aW cQ (rf 0) ra ta ea wa, lW cI cZ (rf 1) adk Ik Rk cmk, lW cI cZ (rf 2) adq Iq Rq cmq, lW cI cZ (rf 3) adc Ic Rc cmc, nW cI cZ (rf 4) adn In Rn, qW cU (rf 5) rs, pW AL AI AR, RW cI cZ RL]) (pf [jW cJ oj g2, mW cI cZ om adm (outM.2) (R), (pf [xW cI cZ ox ad Ix Rx rf]), aW cQ (rf 0) ra ta ea wa, lW cI cZ (rf 1) adk Ik Rk cmk, lW cI cZ (rf 2) adq Iq Rq cmq, lW cI cZ (rf 3) adc Ic Rc cmc, nW cI cZ (rf 4) adn In Rn, qW cU (rf 5) rs, pW AL AI AR, RW cI cZ RL]) (c_X6_looks l G cI cZ cQ cU cJ om adm I R x1 outM f6) (pf_m1 _ _ _) (pf_m2 _ _ _) 0 rfl rfl (cwV 1 C.1.2.2.2.2 gL_law_X6_looks rfl rfl rfl hyV_X6_looks ⟨Nat.le_of_ble_eq_true rfl, Nat.le_of_ble_eq_true rfl⟩) rfl rfl (Nat.le_of_ble_eq_true rfl) dL_law_2180 ⟨rfl, rfl⟩ hR ?_
  refine VJ.istore C [(6, .int (outM.1)), (5, .int (outM.2 0)), (0, .ref b), (1, .ref ox), (2, .ref om), (3, .ref oj), (4, .int i)] dL_law_2183 (Nat.le_of_ble_eq_true rfl) rfl ?_
  refine law_tail 2185 C hR rfl hg dL_law_2185 dL_law_2186 dL_law_2189 dL_law_2191 dL_law_2196 dL_law_2198 dL_law_2201 dL_law_2202 dL_law_2203 dL_law_2204 dL_law_2206 dL_law_2207 dL_law_2208 dL_law_2213 (by decide) ?_
  refine VJ.sub [2, 3, 4, 5, 6] rfl ?_
  exact kk _ ⟨ad, Ix, Rx, rf, ra, ta, ea, wa, adk, Ik, Rk, cmk, adq, Iq, Rq, cmq, adc, Ic, Rc, cmc, adn, In, Rn, AL, AI, AR, rs, RL, adm, outM.2, R, g2, hI, by rw [pf_nest]; exact vj_pfe 11 [0, 1, 2, 3, 4, 5, 6, 7, 8, 9, 10] rfl rfl (by decide)⟩

end LC
