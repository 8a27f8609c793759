section LC
set_option maxHeartbeats 8000000 in
set_option maxRecDepth 100000 in
theorem law_pass {p : Program} {l : Launch} {e : Env} {s : State} {m : MethodId} {args : Array Value} {below : List Frame} {meth : Method} {c : Code} {G : va_G} {cI cZ cQ cU cJ : ClassId} {A : Nat → Prop} {Qf : Unit → State → Prop} {cells slots : Nat} {b L : Nat} {xs : Nat → Int32} {ox om oj t : Nat} {M : va_W} {i : Int32} (CX : CxX p l s m args meth c cL_law 7 wsL_law RL G vwCl (tys cI cZ cQ cU cJ) nws strs A) (hN : NC s) (hX : va_X b L xs s s.heap) (hbl : b < s.heap.size) (hbA : ¬ A b) (ht : t ≤ 511) (h1 : vp_in (i + 1) L) (h2 : vp_in (i + 2) L) (h3 : vp_in (i + 3) L) (h4 : vp_in (i + 4) L) (hR : cells + 40 ≤ room_1.cells ∧ slots + 13000 ≤ room_1.slots) (hM : LI cI cZ cQ cU cJ 20000 t ox om oj M) (kk : ∀ M' : va_W, LI cI cZ cQ cU cJ 20000 (t + 1) ox om oj M' → VJ p l e room_1 s m args below meth c 7 G vwCl A Qf (cells + 40) (slots + 13000) (some ()) M' 2216 [(0, .ref b), (1, .ref ox), (2, .ref om), (3, .ref oj), (4, .int i)] []) : VJ p l e room_1 s m args below meth c 7 G vwCl A Qf cells slots (some ()) M 172 [(0, .ref b), (1, .ref ox), (2, .ref om), (3, .ref oj), (4, .int i)] [] := by
  obtain ⟨ad, Ix, Rx, rf, ra, ta, ea, wa, adk, Ik, Rk, cmk, adq, Iq, Rq, cmq, adc, Ic, Rc, cmc, adn, In, Rn, AL, AI, AR, rs, RL, adm, I, R, g, hIV, hM⟩ := hM
  obtain ⟨n9, m9, P9, d9, g9, od9, ao9, hc⟩ := hIV
  have C := CX.1
  obtain ⟨x1, hx1⟩ : ∃ z, z = xs (i + 1).toNatClampNeg := ⟨_, rfl⟩
  obtain ⟨out, outM, f5, f6, hC, hv, hI⟩ := sim_pass (Nat.le_of_ble_eq_true rfl) hc x1
  refine VJ.perm hM ?_
  refine VJ.aload_n C 1 dL_law_172 rfl ?_
  refine VJ.sarg (j := 1) C hX hbl hbA 0 4 rfl rfl ⟨h1, hx1.symm⟩ (by decide) dL_law_173 dL_law_174 dL_law_176 dL_law_177 dL_law_178 ?_
  refine VJ.aload_n C 3 dL_law_179 rfl ?_
  refine VJ.callW CX hN [.ref ox, .int x1, .ref oj] (pf [xW cI cZ ox ad Ix Rx rf, lW cI cZ (rf 1) adk Ik Rk cmk, pW AL AI AR] ++ jW cJ oj g) (pf [mW cI cZ om adm I R, aW cQ (rf 0) ra ta ea wa, lW cI cZ (rf 2) adq Iq Rq cmq, lW cI cZ (rf 3) adc Ic Rc cmc, nW cI cZ (rf 4) adn In Rn, qW cU (rf 5) rs, RW cI cZ RL]) 40 13000 (c_L_pass l CX.2.2 G cI cZ cQ cU cJ ox oj x1 g (pf [xW cI cZ ox ad Ix Rx rf, lW cI cZ (rf 1) adk Ik Rk cmk, pW AL AI AR]) _ (xF ad Ix rf) rfl (c_X5_pass l CX.2.2 G cI cZ cQ cU cJ 20000 ox ad rf Ix Rx adk Ik Rk cmk AL AI AR x1 out f5) (fun _ _ h => ⟨_, h.2.1 rfl⟩) (fun k _ _ h => hn_23 (by rw [h.1]; exact hC))) (vj_pfj 11 [2, 4, 9, 0, 1, 3, 5, 6, 7, 8, 10] rfl rfl (by decide)) (vx_cwSW 3 C.1.2.2.2.2 gL_law_L_pass rfl rfl rfl hy_L_pass ⟨Nat.le_of_ble_eq_true rfl, Nat.le_of_ble_eq_true rfl⟩) rfl rfl (Nat.le_of_ble_eq_true rfl) dL_law_180 ⟨Nat.le_of_ble_eq_true rfl, Nat.le_of_ble_eq_true rfl⟩ hR ?_
  intro r M1 h9
  obtain ⟨g2, rfl, rfl, hg⟩ := lm_s h9 hC (by decide +kernel) hv
  refine VJ.perm (pf_back _ _ _ _) ?_
  refine VJ.istore C [(5, .int (outM.2 0)), (0, .ref b), (1, .ref ox), (2, .ref om), (3, .ref oj), (4, .int i)] dL_law_183 (Nat.le_of_ble_eq_true rfl) rfl ?_
  refine VJ.aload_n C 3 dL_law_185 rfl ?_
  refine VJ.sarg (j := 1) C hX hbl hbA 1 5 rfl rfl ⟨h1, hx1.symm⟩ (by decide) dL_law_186 dL_law_187 dL_law_189 dL_law_190 dL_law_191 ?_
  refine VJ.callC C [.int x1] (pf [mW cI cZ om adm I R]) (pf [jW cJ oj g2, (pf [xW cI cZ ox ad out.2.2.1 Rx rf, lW cI cZ (rf 1) adk out.2.2.2.1 out.2.2.2.2.1 out.2.2.2.2.2, pW AL AI AR]), aW cQ (rf 0) ra ta ea wa, lW cI cZ (rf 2) adq Iq Rq cmq, lW cI cZ (rf 3) adc Ic Rc cmc, nW cI cZ (rf 4) adn In Rn, qW cU (rf 5) rs, RW cI cZ RL]) (pf [jW cJ oj g2, mW cI cZ om adm (outM.2) (R), (pf [xW cI cZ ox ad out.2.2.1 Rx rf, lW cI cZ (rf 1) adk out.2.2.2.1 out.2.2.2.2.1 out.2.2.2.2.2, pW AL AI AR]), aW cQ (rf 0) ra ta ea wa, lW cI cZ (rf 2) adq Iq Rq cmq, lW cI cZ (rf 3) adc Ic Rc cmc, nW cI cZ (rf 4) adn In Rn, qW cU (rf 5) rs, RW cI cZ RL]) (c_X6_pass l G cI cZ cQ cU cJ om adm I R x1 outM f6) (pf_m1 _ _ _) (pf_m2 _ _ _) 0 rfl rfl (cwV 1 C.1.2.2.2.2 gL_law_X6_pass rfl rfl rfl hyV_X6_pass ⟨Nat.le_of_ble_eq_true rfl, Nat.le_of_ble_eq_true rfl⟩) rfl rfl (Nat.le_of_ble_eq_true rfl) dL_law_192 ⟨rfl, rfl⟩ hR ?_
  refine VJ.istore C [(6, .int (outM.1)), (5, .int (outM.2 0)), (0, .ref b), (1, .ref ox), (2, .ref om), (3, .ref oj), (4, .int i)] dL_law_195 (Nat.le_of_ble_eq_true rfl) rfl ?_
  refine law_tail 197 C hR rfl hg dL_law_197 dL_law_198 dL_law_201 dL_law_203 dL_law_208 dL_law_210 dL_law_213 dL_law_214 dL_law_215 dL_law_216 dL_law_218 dL_law_219 dL_law_220 dL_law_225 (by decide) ?_
  refine VJ.sub [2, 3, 4, 5, 6] rfl ?_
  exact kk _ ⟨ad, out.2.2.1, Rx, rf, ra, ta, ea, wa, adk, out.2.2.2.1, out.2.2.2.2.1, out.2.2.2.2.2, adq, Iq, Rq, cmq, adc, Ic, Rc, cmc, adn, In, Rn, AL, AI, AR, rs, RL, adm, outM.2, R, g2, hI, by rw [pf_nest]; exact vj_pfe 11 [0, 1, 2, 5, 3, 6, 7, 8, 9, 4, 10] rfl rfl (by decide)⟩

set_option maxHeartbeats 8000000 in
set_option maxRecDepth 100000 in
theorem law_birth {p : Program} {l : Launch} {e : Env} {s : State} {m : MethodId} {args : Array Value} {below : List Frame} {meth : Method} {c : Code} {G : va_G} {cI cZ cQ cU cJ : ClassId} {A : Nat → Prop} {Qf : Unit → State → Prop} {cells slots : Nat} {b L : Nat} {xs : Nat → Int32} {ox om oj t : Nat} {M : va_W} {i : Int32} (CX : CxX p l s m args meth c cL_law 7 wsL_law RL G vwCl (tys cI cZ cQ cU cJ) nws strs A) (hN : NC s) (hX : va_X b L xs s s.heap) (hbl : b < s.heap.size) (hbA : ¬ A b) (ht : t ≤ 511) (h1 : vp_in (i + 1) L) (h2 : vp_in (i + 2) L) (h3 : vp_in (i + 3) L) (h4 : vp_in (i + 4) L) (hR : cells + 40 ≤ room_1.cells ∧ slots + 13000 ≤ room_1.slots) (hM : LI cI cZ cQ cU cJ 20000 t ox om oj M) (kk : ∀ M' : va_W, LI cI cZ cQ cU cJ 20000 (t + 1) ox om oj M' → VJ p l e room_1 s m args below meth c 7 G vwCl A Qf (cells + 40) (slots + 13000) (some ()) M' 2216 [(0, .ref b), (1, .ref ox), (2, .ref om), (3, .ref oj), (4, .int i)] []) : VJ p l e room_1 s m args below meth c 7 G vwCl A Qf cells slots (some ()) M 228 [(0, .ref b), (1, .ref ox), (2, .ref om), (3, .ref oj), (4, .int i)] [] := by
  obtain ⟨ad, Ix, Rx, rf, ra, ta, ea, wa, adk, Ik, Rk, cmk, adq, Iq, Rq, cmq, adc, Ic, Rc, cmc, adn, In, Rn, AL, AI, AR, rs, RL, adm, I, R, g, hIV, hM⟩ := hM
  obtain ⟨n9, m9, P9, d9, g9, od9, ao9, hc⟩ := hIV
  have C := CX.1
  obtain ⟨x1, hx1⟩ : ∃ z, z = xs (i + 1).toNatClampNeg := ⟨_, rfl⟩
  obtain ⟨x2, hx2⟩ : ∃ z, z = xs (i + 2).toNatClampNeg := ⟨_, rfl⟩
  obtain ⟨x3, hx3⟩ : ∃ z, z = xs (i + 3).toNatClampNeg := ⟨_, rfl⟩
  obtain ⟨x4, hx4⟩ : ∃ z, z = xs (i + 4).toNatClampNeg := ⟨_, rfl⟩
  obtain ⟨outf, outM, f5, f6, hT⟩ := sim_birth (Nat.le_of_ble_eq_true rfl) hc x1 x2 x3 x4
  refine VJ.perm hM ?_
  refine VJ.aload_n C 1 dL_law_228 rfl ?_
  refine VJ.sarg (j := 1) C hX hbl hbA 0 4 rfl rfl ⟨h1, hx1.symm⟩ (by decide) dL_law_229 dL_law_230 dL_law_232 dL_law_233 dL_law_234 ?_
  refine VJ.sarg (j := 2) C hX hbl hbA 0 4 rfl rfl ⟨h2, hx2.symm⟩ (by decide) dL_law_235 dL_law_236 dL_law_238 dL_law_239 dL_law_240 ?_
  refine VJ.sarg (j := 3) C hX hbl hbA 0 4 rfl rfl ⟨h3, hx3.symm⟩ (by decide) dL_law_241 dL_law_242 dL_law_244 dL_law_245 dL_law_246 ?_
  refine VJ.sarg (j := 4) C hX hbl hbA 0 4 rfl rfl ⟨h4, hx4.symm⟩ (by decide) dL_law_247 dL_law_248 dL_law_250 dL_law_251 dL_law_252 ?_
  refine VJ.aload_n C 3 dL_law_253 rfl ?_
  refine VJ.callW CX hN [.ref ox, .int x1, .int x2, .int x3, .int x4, .ref oj] (pf [xW cI cZ ox ad Ix Rx rf, aW cQ (rf 0) ra ta ea wa, lW cI cZ (rf 1) adk Ik Rk cmk, nW cI cZ (rf 4) adn In Rn, pW AL AI AR] ++ jW cJ oj g) (pf [mW cI cZ om adm I R, lW cI cZ (rf 2) adq Iq Rq cmq, lW cI cZ (rf 3) adc Ic Rc cmc, qW cU (rf 5) rs, RW cI cZ RL]) 40 13000 (c_L_birth l CX.2.2 G cI cZ cQ cU cJ ox oj x1 x2 x3 x4 g (pf [xW cI cZ ox ad Ix Rx rf, aW cQ (rf 0) ra ta ea wa, lW cI cZ (rf 1) adk Ik Rk cmk, nW cI cZ (rf 4) adn In Rn, pW AL AI AR]) _ (xF ad Ix rf) rfl (c_X5_birth l CX.2.2 G cI cZ cQ cU cJ 20000 ox ad rf Ix Rx ra ta ea wa adk Ik Rk cmk adn In Rn AL AI AR x1 x2 x3 x4 outf f5) (fun _ _ h => by obtain ⟨q9, o8, -, -, h3, -⟩ := h; exact ⟨_, (h3 rfl).2.1⟩) (fun k _ _ h => by obtain ⟨q9, o8, ho, h2, -, -⟩ := h; exact hn_123 (by rw [h2]; exact (hT q9 o8 ho (fun h => absurd (h2.trans h) (Nat.succ_ne_zero k))).1))) (vj_pfj 11 [2, 3, 4, 7, 9, 0, 1, 5, 6, 8, 10] rfl rfl (by decide)) (vx_cwSW 6 C.1.2.2.2.2 gL_law_L_birth rfl rfl rfl hy_L_birth ⟨Nat.le_of_ble_eq_true rfl, Nat.le_of_ble_eq_true rfl⟩) rfl rfl (Nat.le_of_ble_eq_true rfl) dL_law_254 ⟨Nat.le_of_ble_eq_true rfl, Nat.le_of_ble_eq_true rfl⟩ hR ?_
  intro r M1 h9
  obtain ⟨g2, Wn, rfl, rfl, hg, hW⟩ := lm_t (e := e123) (mv := outM.1) (y := outM.2.1 0) (G1 := fun q o8 => IV13 20000 (t + 1) Rx o8 (AL ++ [q]) rs RL outM.2.1 outM.2.2) (G0 := IV 20000 (t + 1) Ix Rx ta ea wa Ik Rk cmk In Rn AL AI AR rs RL outM.2.1 outM.2.2) h9 hT (by decide +kernel)
  refine VJ.perm (pf_back _ _ _ _) ?_
  refine VJ.istore C [(5, .int (outM.2.1 0)), (0, .ref b), (1, .ref ox), (2, .ref om), (3, .ref oj), (4, .int i)] dL_law_257 (Nat.le_of_ble_eq_true rfl) rfl ?_
  refine VJ.aload_n C 3 dL_law_259 rfl ?_
  refine VJ.sarg (j := 1) C hX hbl hbA 1 5 rfl rfl ⟨h1, hx1.symm⟩ (by decide) dL_law_260 dL_law_261 dL_law_263 dL_law_264 dL_law_265 ?_
  refine VJ.sarg (j := 2) C hX hbl hbA 1 5 rfl rfl ⟨h2, hx2.symm⟩ (by decide) dL_law_266 dL_law_267 dL_law_269 dL_law_270 dL_law_271 ?_
  refine VJ.sarg (j := 3) C hX hbl hbA 1 5 rfl rfl ⟨h3, hx3.symm⟩ (by decide) dL_law_272 dL_law_273 dL_law_275 dL_law_276 dL_law_277 ?_
  refine VJ.sarg (j := 4) C hX hbl hbA 1 5 rfl rfl ⟨h4, hx4.symm⟩ (by decide) dL_law_278 dL_law_279 dL_law_281 dL_law_282 dL_law_283 ?_
  refine VJ.callC C [.int x1, .int x2, .int x3, .int x4] (pf [mW cI cZ om adm I R]) (pf [jW cJ oj g2, Wn, lW cI cZ (rf 2) adq Iq Rq cmq, lW cI cZ (rf 3) adc Ic Rc cmc, qW cU (rf 5) rs, RW cI cZ RL]) (pf [jW cJ oj g2, mW cI cZ om adm (outM.2.1) (outM.2.2), Wn, lW cI cZ (rf 2) adq Iq Rq cmq, lW cI cZ (rf 3) adc Ic Rc cmc, qW cU (rf 5) rs, RW cI cZ RL]) (c_X6_birth l G cI cZ cQ cU cJ 20000 om adm I R x1 x2 x3 x4 outM f6) (pf_m1 _ _ _) (pf_m2 _ _ _) 0 rfl rfl (cwV 4 C.1.2.2.2.2 gL_law_X6_birth rfl rfl rfl hyV_X6_birth ⟨Nat.le_of_ble_eq_true rfl, Nat.le_of_ble_eq_true rfl⟩) rfl rfl (Nat.le_of_ble_eq_true rfl) dL_law_284 ⟨rfl, rfl⟩ hR ?_
  refine VJ.istore C [(6, .int (outM.1)), (5, .int (outM.2.1 0)), (0, .ref b), (1, .ref ox), (2, .ref om), (3, .ref oj), (4, .int i)] dL_law_287 (Nat.le_of_ble_eq_true rfl) rfl ?_
  refine law_tail 289 C hR rfl hg dL_law_289 dL_law_290 dL_law_293 dL_law_295 dL_law_300 dL_law_302 dL_law_305 dL_law_306 dL_law_307 dL_law_308 dL_law_310 dL_law_311 dL_law_312 dL_law_317 (by decide) ?_
  refine VJ.sub [2, 3, 4, 5, 6] rfl ?_
  rcases hW with ⟨q8, o8, rfl, hI⟩ | ⟨rfl, hI⟩
  · exact kk _ ⟨ad, o8.2.2.1, Rx, rf, ra, o8.2.2.2.1, o8.2.2.2.2.1, o8.2.2.2.2.2.1, adk, o8.2.2.2.2.2.2.1, o8.2.2.2.2.2.2.2.1, o8.2.2.2.2.2.2.2.2.1, adq, Iq, Rq, cmq, adc, Ic, Rc, cmc, adn, o8.2.2.2.2.2.2.2.2.2.1, o8.2.2.2.2.2.2.2.2.2.2.1, (AL ++ [q8]), o8.2.2.2.2.2.2.2.2.2.2.2.1, o8.2.2.2.2.2.2.2.2.2.2.2.2, rs, RL, adm, outM.2.1, outM.2.2, g2, hI, by rw [pf_nest]; exact vj_pfe 11 [0, 1, 2, 3, 4, 7, 8, 5, 9, 6, 10] rfl rfl (by decide)⟩
  · exact kk _ ⟨ad, Ix, Rx, rf, ra, ta, ea, wa, adk, Ik, Rk, cmk, adq, Iq, Rq, cmq, adc, Ic, Rc, cmc, adn, In, Rn, AL, AI, AR, rs, RL, adm, outM.2.1, outM.2.2, g2, hI, by rw [pf_nest]; exact vj_pfe 11 [0, 1, 2, 3, 4, 7, 8, 5, 9, 6, 10] rfl rfl (by decide)⟩

set_option maxHeartbeats 8000000 in
set_option maxRecDepth 100000 in
theorem law_move {p : Program} {l : Launch} {e : Env} {s : State} {m : MethodId} {args : Array Value} {below : List Frame} {meth : Method} {c : Code} {G : va_G} {cI cZ cQ cU cJ : ClassId} {A : Nat → Prop} {Qf : Unit → State → Prop} {cells slots : Nat} {b L : Nat} {xs : Nat → Int32} {ox om oj t : Nat} {M : va_W} {i : Int32} (CX : CxX p l s m args meth c cL_law 7 wsL_law RL G vwCl (tys cI cZ cQ cU cJ) nws strs A) (hN : NC s) (hX : va_X b L xs s s.heap) (hbl : b < s.heap.size) (hbA : ¬ A b) (ht : t ≤ 511) (h1 : vp_in (i + 1) L) (h2 : vp_in (i + 2) L) (h3 : vp_in (i + 3) L) (h4 : vp_in (i + 4) L) (hR : cells + 40 ≤ room_1.cells ∧ slots + 13000 ≤ room_1.slots) (hM : LI cI cZ cQ cU cJ 20000 t ox om oj M) (kk : ∀ M' : va_W, LI cI cZ cQ cU cJ 20000 (t + 1) ox om oj M' → VJ p l e room_1 s m args below meth c 7 G vwCl A Qf (cells + 40) (slots + 13000) (some ()) M' 2216 [(0, .ref b), (1, .ref ox), (2, .ref om), (3, .ref oj), (4, .int i)] []) : VJ p l e room_1 s m args below meth c 7 G vwCl A Qf cells slots (some ()) M 320 [(0, .ref b), (1, .ref ox), (2, .ref om), (3, .ref oj), (4, .int i)] [] := by
  obtain ⟨ad, Ix, Rx, rf, ra, ta, ea, wa, adk, Ik, Rk, cmk, adq, Iq, Rq, cmq, adc, Ic, Rc, cmc, adn, In, Rn, AL, AI, AR, rs, RL, adm, I, R, g, hIV, hM⟩ := hM
  obtain ⟨n9, m9, P9, d9, g9, od9, ao9, hc⟩ := hIV
  have C := CX.1
  obtain ⟨x1, hx1⟩ : ∃ z, z = xs (i + 1).toNatClampNeg := ⟨_, rfl⟩
  obtain ⟨x2, hx2⟩ : ∃ z, z = xs (i + 2).toNatClampNeg := ⟨_, rfl⟩
  obtain ⟨x3, hx3⟩ : ∃ z, z = xs (i + 3).toNatClampNeg := ⟨_, rfl⟩
  obtain ⟨outf, outM, f5, f6, hT⟩ := sim_move (Nat.le_of_ble_eq_true rfl) hc x1 x2 x3
  refine VJ.perm hM ?_
  refine VJ.aload_n C 1 dL_law_320 rfl ?_
  refine VJ.sarg (j := 1) C hX hbl hbA 0 4 rfl rfl ⟨h1, hx1.symm⟩ (by decide) dL_law_321 dL_law_322 dL_law_324 dL_law_325 dL_law_326 ?_
  refine VJ.sarg (j := 2) C hX hbl hbA 0 4 rfl rfl ⟨h2, hx2.symm⟩ (by decide) dL_law_327 dL_law_328 dL_law_330 dL_law_331 dL_law_332 ?_
  refine VJ.sarg (j := 3) C hX hbl hbA 0 4 rfl rfl ⟨h3, hx3.symm⟩ (by decide) dL_law_333 dL_law_334 dL_law_336 dL_law_337 dL_law_338 ?_
  refine VJ.aload_n C 3 dL_law_339 rfl ?_
  refine VJ.callW CX hN [.ref ox, .int x1, .int x2, .int x3, .ref oj] (pf [xW cI cZ ox ad Ix Rx rf, aW cQ (rf 0) ra ta ea wa, lW cI cZ (rf 1) adk Ik Rk cmk, pW AL AI AR] ++ jW cJ oj g) (pf [mW cI cZ om adm I R, lW cI cZ (rf 2) adq Iq Rq cmq, lW cI cZ (rf 3) adc Ic Rc cmc, nW cI cZ (rf 4) adn In Rn, qW cU (rf 5) rs, RW cI cZ RL]) 40 13000 (c_L_move l CX.2.2 G cI cZ cQ cU cJ ox oj x1 x2 x3 g (pf [xW cI cZ ox ad Ix Rx rf, aW cQ (rf 0) ra ta ea wa, lW cI cZ (rf 1) adk Ik Rk cmk, pW AL AI AR]) _ (xF ad Ix rf) rfl (c_X5_move l CX.2.2 G cI cZ cQ cU cJ 20000 ox ad rf Ix Rx ra ta ea wa adk Ik Rk cmk AL AI AR x1 x2 x3 outf f5) (fun _ _ h => by obtain ⟨q9, o8, -, -, h3, -⟩ := h; exact ⟨_, (h3 rfl).2.1⟩) (fun k _ _ h => by obtain ⟨q9, o8, ho, h2, -, -⟩ := h; exact hn_123 (by rw [h2]; exact (hT q9 o8 ho (fun h => absurd (h2.trans h) (Nat.succ_ne_zero k))).1))) (vj_pfj 11 [2, 3, 4, 9, 0, 1, 5, 6, 7, 8, 10] rfl rfl (by decide)) (vx_cwSW 5 C.1.2.2.2.2 gL_law_L_move rfl rfl rfl hy_L_move ⟨Nat.le_of_ble_eq_true rfl, Nat.le_of_ble_eq_true rfl⟩) rfl rfl (Nat.le_of_ble_eq_true rfl) dL_law_340 ⟨Nat.le_of_ble_eq_true rfl, Nat.le_of_ble_eq_true rfl⟩ hR ?_
  intro r M1 h9
  obtain ⟨g2, Wn, rfl, rfl, hg, hW⟩ := lm_t (e := e123) (mv := outM.1) (y := outM.2.1 0) (G1 := fun q o8 => IV9 20000 (t + 1) Ix Rx o8.2 In Rn (AL ++ [q]) rs RL outM.2.1 outM.2.2) (G0 := IV 20000 (t + 1) Ix Rx ta ea wa Ik Rk cmk In Rn AL AI AR rs RL outM.2.1 outM.2.2) h9 hT (by decide +kernel)
  refine VJ.perm (pf_back _ _ _ _) ?_
  refine VJ.istore C [(5, .int (outM.2.1 0)), (0, .ref b), (1, .ref ox), (2, .ref om), (3, .ref oj), (4, .int i)] dL_law_343 (Nat.le_of_ble_eq_true rfl) rfl ?_
  refine VJ.aload_n C 3 dL_law_345 rfl ?_
  refine VJ.sarg (j := 1) C hX hbl hbA 1 5 rfl rfl ⟨h1, hx1.symm⟩ (by decide) dL_law_346 dL_law_347 dL_law_349 dL_law_350 dL_law_351 ?_
  refine VJ.sarg (j := 2) C hX hbl hbA 1 5 rfl rfl ⟨h2, hx2.symm⟩ (by decide) dL_law_352 dL_law_353 dL_law_355 dL_law_356 dL_law_357 ?_
  refine VJ.sarg (j := 3) C hX hbl hbA 1 5 rfl rfl ⟨h3, hx3.symm⟩ (by decide) dL_law_358 dL_law_359 dL_law_361 dL_law_362 dL_law_363 ?_
  refine VJ.callC C [.int x1, .int x2, .int x3] (pf [mW cI cZ om adm I R]) (pf [jW cJ oj g2, Wn, lW cI cZ (rf 2) adq Iq Rq cmq, lW cI cZ (rf 3) adc Ic Rc cmc, nW cI cZ (rf 4) adn In Rn, qW cU (rf 5) rs, RW cI cZ RL]) (pf [jW cJ oj g2, mW cI cZ om adm (outM.2.1) (outM.2.2), Wn, lW cI cZ (rf 2) adq Iq Rq cmq, lW cI cZ (rf 3) adc Ic Rc cmc, nW cI cZ (rf 4) adn In Rn, qW cU (rf 5) rs, RW cI cZ RL]) (c_X6_move l G cI cZ cQ cU cJ 20000 om adm I R x1 x2 x3 outM f6) (pf_m1 _ _ _) (pf_m2 _ _ _) 0 rfl rfl (cwV 3 C.1.2.2.2.2 gL_law_X6_move rfl rfl rfl hyV_X6_move ⟨Nat.le_of_ble_eq_true rfl, Nat.le_of_ble_eq_true rfl⟩) rfl rfl (Nat.le_of_ble_eq_true rfl) dL_law_364 ⟨rfl, rfl⟩ hR ?_
  refine VJ.istore C [(6, .int (outM.1)), (5, .int (outM.2.1 0)), (0, .ref b), (1, .ref ox), (2, .ref om), (3, .ref oj), (4, .int i)] dL_law_367 (Nat.le_of_ble_eq_true rfl) rfl ?_
  refine law_tail 369 C hR rfl hg dL_law_369 dL_law_370 dL_law_373 dL_law_375 dL_law_380 dL_law_382 dL_law_385 dL_law_386 dL_law_387 dL_law_388 dL_law_390 dL_law_391 dL_law_392 dL_law_397 (by decide) ?_
  refine VJ.sub [2, 3, 4, 5, 6] rfl ?_
  rcases hW with ⟨q8, o8, rfl, hI⟩ | ⟨rfl, hI⟩
  · exact kk _ ⟨ad, Ix, Rx, rf, ra, o8.2.2.1, o8.2.2.2.1, o8.2.2.2.2.1, adk, o8.2.2.2.2.2.1, o8.2.2.2.2.2.2.1, o8.2.2.2.2.2.2.2.1, adq, Iq, Rq, cmq, adc, Ic, Rc, cmc, adn, In, Rn, (AL ++ [q8]), o8.2.2.2.2.2.2.2.2.1, o8.2.2.2.2.2.2.2.2.2, rs, RL, adm, outM.2.1, outM.2.2, g2, hI, by rw [pf_nest]; exact vj_pfe 11 [0, 1, 2, 3, 4, 6, 7, 8, 9, 5, 10] rfl rfl (by decide)⟩
  · exact kk _ ⟨ad, Ix, Rx, rf, ra, ta, ea, wa, adk, Ik, Rk, cmk, adq, Iq, Rq, cmq, adc, Ic, Rc, cmc, adn, In, Rn, AL, AI, AR, rs, RL, adm, outM.2.1, outM.2.2, g2, hI, by rw [pf_nest]; exact vj_pfe 11 [0, 1, 2, 3, 4, 6, 7, 8, 9, 5, 10] rfl rfl (by decide)⟩

set_option maxHeartbeats 8000000 in
set_option maxRecDepth 100000 in
theorem law_naming {p : Program} {l : Launch} {e : Env} {s : State} {m : MethodId} {args : Array Value} {below : List Frame} {meth : Method} {c : Code} {G : va_G} {cI cZ cQ cU cJ : ClassId} {A : Nat → Prop} {Qf : Unit → State → Prop} {cells slots : Nat} {b L : Nat} {xs : Nat → Int32} {ox om oj t : Nat} {M : va_W} {i : Int32} (CX : CxX p l s m args meth c cL_law 7 wsL_law RL G vwCl (tys cI cZ cQ cU cJ) nws strs A) (hN : NC s) (hX : va_X b L xs s s.heap) (hbl : b < s.heap.size) (hbA : ¬ A b) (ht : t ≤ 511) (h1 : vp_in (i + 1) L) (h2 : vp_in (i + 2) L) (h3 : vp_in (i + 3) L) (h4 : vp_in (i + 4) L) (hR : cells + 40 ≤ room_1.cells ∧ slots + 13000 ≤ room_1.slots) (hM : LI cI cZ cQ cU cJ 20000 t ox om oj M) (kk : ∀ M' : va_W, LI cI cZ cQ cU cJ 20000 (t + 1) ox om oj M' → VJ p l e room_1 s m args below meth c 7 G vwCl A Qf (cells + 40) (slots + 13000) (some ()) M' 2216 [(0, .ref b), (1, .ref ox), (2, .ref om), (3, .ref oj), (4, .int i)] []) : VJ p l e room_1 s m args below meth c 7 G vwCl A Qf cells slots (some ()) M 400 [(0, .ref b), (1, .ref ox), (2, .ref om), (3, .ref oj), (4, .int i)] [] := by
  obtain ⟨ad, Ix, Rx, rf, ra, ta, ea, wa, adk, Ik, Rk, cmk, adq, Iq, Rq, cmq, adc, Ic, Rc, cmc, adn, In, Rn, AL, AI, AR, rs, RL, adm, I, R, g, hIV, hM⟩ := hM
  obtain ⟨n9, m9, P9, d9, g9, od9, ao9, hc⟩ := hIV
  have C := CX.1
  obtain ⟨x1, hx1⟩ : ∃ z, z = xs (i + 1).toNatClampNeg := ⟨_, rfl⟩
  obtain ⟨x2, hx2⟩ : ∃ z, z = xs (i + 2).toNatClampNeg := ⟨_, rfl⟩
  obtain ⟨x3, hx3⟩ : ∃ z, z = xs (i + 3).toNatClampNeg := ⟨_, rfl⟩
  obtain ⟨outf, outM, f5, f6, hT⟩ := sim_naming (Nat.le_of_ble_eq_true rfl) hc x1 x2 x3
  refine VJ.perm hM ?_
  refine VJ.aload_n C 1 dL_law_400 rfl ?_
  refine VJ.sarg (j := 1) C hX hbl hbA 0 4 rfl rfl ⟨h1, hx1.symm⟩ (by decide) dL_law_401 dL_law_402 dL_law_404 dL_law_405 dL_law_406 ?_
  refine VJ.sarg (j := 2) C hX hbl hbA 0 4 rfl rfl ⟨h2, hx2.symm⟩ (by decide) dL_law_407 dL_law_408 dL_law_410 dL_law_411 dL_law_412 ?_
  refine VJ.sarg (j := 3) C hX hbl hbA 0 4 rfl rfl ⟨h3, hx3.symm⟩ (by decide) dL_law_413 dL_law_414 dL_law_416 dL_law_417 dL_law_418 ?_
  refine VJ.aload_n C 3 dL_law_419 rfl ?_
  refine VJ.callW CX hN [.ref ox, .int x1, .int x2, .int x3, .ref oj] (pf [xW cI cZ ox ad Ix Rx rf, aW cQ (rf 0) ra ta ea wa, lW cI cZ (rf 1) adk Ik Rk cmk, pW AL AI AR] ++ jW cJ oj g) (pf [mW cI cZ om adm I R, lW cI cZ (rf 2) adq Iq Rq cmq, lW cI cZ (rf 3) adc Ic Rc cmc, nW cI cZ (rf 4) adn In Rn, qW cU (rf 5) rs, RW cI cZ RL]) 40 13000 (c_L_naming l CX.2.2 G cI cZ cQ cU cJ ox oj x1 x2 x3 g (pf [xW cI cZ ox ad Ix Rx rf, aW cQ (rf 0) ra ta ea wa, lW cI cZ (rf 1) adk Ik Rk cmk, pW AL AI AR]) _ (xF ad Ix rf) rfl (c_X5_naming l CX.2.2 G cI cZ cQ cU cJ 20000 ox ad rf Ix Rx ra ta ea wa adk Ik Rk cmk AL AI AR x1 x2 x3 outf f5) (fun _ _ h => by obtain ⟨q9, o8, -, -, h3, -⟩ := h; exact ⟨_, (h3 rfl).2.1⟩) (fun k _ _ h => by obtain ⟨q9, o8, ho, h2, -, -⟩ := h; exact hn_123 (by rw [h2]; exact (hT q9 o8 ho (fun h => absurd (h2.trans h) (Nat.succ_ne_zero k))).1))) (vj_pfj 11 [2, 3, 4, 9, 0, 1, 5, 6, 7, 8, 10] rfl rfl (by decide)) (vx_cwSW 5 C.1.2.2.2.2 gL_law_L_naming rfl rfl rfl hy_L_naming ⟨Nat.le_of_ble_eq_true rfl, Nat.le_of_ble_eq_true rfl⟩) rfl rfl (Nat.le_of_ble_eq_true rfl) dL_law_420 ⟨Nat.le_of_ble_eq_true rfl, Nat.le_of_ble_eq_true rfl⟩ hR ?_
  intro r M1 h9
  obtain ⟨g2, Wn, rfl, rfl, hg, hW⟩ := lm_t (e := e123) (mv := outM.1) (y := outM.2.1 0) (G1 := fun q o8 => IV9 20000 (t + 1) Ix Rx o8.2 In Rn (AL ++ [q]) rs RL outM.2.1 outM.2.2) (G0 := IV 20000 (t + 1) Ix Rx ta ea wa Ik Rk cmk In Rn AL AI AR rs RL outM.2.1 outM.2.2) h9 hT (by decide +kernel)
  refine VJ.perm (pf_back _ _ _ _) ?_
  refine VJ.istore C [(5, .int (outM.2.1 0)), (0, .ref b), (1, .ref ox), (2, .ref om), (3, .ref oj), (4, .int i)] dL_law_423 (Nat.le_of_ble_eq_true rfl) rfl ?_
  refine VJ.aload_n C 3 dL_law_425 rfl ?_
  refine VJ.sarg (j := 1) C hX hbl hbA 1 5 rfl rfl ⟨h1, hx1.symm⟩ (by decide) dL_law_426 dL_law_427 dL_law_429 dL_law_430 dL_law_431 ?_
  refine VJ.sarg (j := 2) C hX hbl hbA 1 5 rfl rfl ⟨h2, hx2.symm⟩ (by decide) dL_law_432 dL_law_433 dL_law_435 dL_law_436 dL_law_437 ?_
  refine VJ.sarg (j := 3) C hX hbl hbA 1 5 rfl rfl ⟨h3, hx3.symm⟩ (by decide) dL_law_438 dL_law_439 dL_law_441 dL_law_442 dL_law_443 ?_
  refine VJ.callC C [.int x1, .int x2, .int x3] (pf [mW cI cZ om adm I R]) (pf [jW cJ oj g2, Wn, lW cI cZ (rf 2) adq Iq Rq cmq, lW cI cZ (rf 3) adc Ic Rc cmc, nW cI cZ (rf 4) adn In Rn, qW cU (rf 5) rs, RW cI cZ RL]) (pf [jW cJ oj g2, mW cI cZ om adm (outM.2.1) (outM.2.2), Wn, lW cI cZ (rf 2) adq Iq Rq cmq, lW cI cZ (rf 3) adc Ic Rc cmc, nW cI cZ (rf 4) adn In Rn, qW cU (rf 5) rs, RW cI cZ RL]) (c_X6_naming l G cI cZ cQ cU cJ 20000 om adm I R x1 x2 x3 outM f6) (pf_m1 _ _ _) (pf_m2 _ _ _) 0 rfl rfl (cwV 3 C.1.2.2.2.2 gL_law_X6_naming rfl rfl rfl hyV_X6_naming ⟨Nat.le_of_ble_eq_true rfl, Nat.le_of_ble_eq_true rfl⟩) rfl rfl (Nat.le_of_ble_eq_true rfl) dL_law_444 ⟨rfl, rfl⟩ hR ?_
  refine VJ.istore C [(6, .int (outM.1)), (5, .int (outM.2.1 0)), (0, .ref b), (1, .ref ox), (2, .ref om), (3, .ref oj), (4, .int i)] dL_law_447 (Nat.le_of_ble_eq_true rfl) rfl ?_
  refine law_tail 449 C hR rfl hg dL_law_449 dL_law_450 dL_law_453 dL_law_455 dL_law_460 dL_law_462 dL_law_465 dL_law_466 dL_law_467 dL_law_468 dL_law_470 dL_law_471 dL_law_472 dL_law_477 (by decide) ?_
  refine VJ.sub [2, 3, 4, 5, 6] rfl ?_
  rcases hW with ⟨q8, o8, rfl, hI⟩ | ⟨rfl, hI⟩
  · exact kk _ ⟨ad, Ix, Rx, rf, ra, o8.2.2.1, o8.2.2.2.1, o8.2.2.2.2.1, adk, o8.2.2.2.2.2.1, o8.2.2.2.2.2.2.1, o8.2.2.2.2.2.2.2.1, adq, Iq, Rq, cmq, adc, Ic, Rc, cmc, adn, In, Rn, (AL ++ [q8]), o8.2.2.2.2.2.2.2.2.1, o8.2.2.2.2.2.2.2.2.2, rs, RL, adm, outM.2.1, outM.2.2, g2, hI, by rw [pf_nest]; exact vj_pfe 11 [0, 1, 2, 3, 4, 6, 7, 8, 9, 5, 10] rfl rfl (by decide)⟩
  · exact kk _ ⟨ad, Ix, Rx, rf, ra, ta, ea, wa, adk, Ik, Rk, cmk, adq, Iq, Rq, cmq, adc, Ic, Rc, cmc, adn, In, Rn, AL, AI, AR, rs, RL, adm, outM.2.1, outM.2.2, g2, hI, by rw [pf_nest]; exact vj_pfe 11 [0, 1, 2, 3, 4, 6, 7, 8, 9, 5, 10] rfl rfl (by decide)⟩

set_option maxHeartbeats 8000000 in
set_option maxRecDepth 100000 in
theorem law_tie {p : Program} {l : Launch} {e : Env} {s : State} {m : MethodId} {args : Array Value} {below : List Frame} {meth : Method} {c : Code} {G : va_G} {cI cZ cQ cU cJ : ClassId} {A : Nat → Prop} {Qf : Unit → State → Prop} {cells slots : Nat} {b L : Nat} {xs : Nat → Int32} {ox om oj t : Nat} {M : va_W} {i : Int32} (CX : CxX p l s m args meth c cL_law 7 wsL_law RL G vwCl (tys cI cZ cQ cU cJ) nws strs A) (hN : NC s) (hX : va_X b L xs s s.heap) (hbl : b < s.heap.size) (hbA : ¬ A b) (ht : t ≤ 511) (h1 : vp_in (i + 1) L) (h2 : vp_in (i + 2) L) (h3 : vp_in (i + 3) L) (h4 : vp_in (i + 4) L) (hR : cells + 40 ≤ room_1.cells ∧ slots + 13000 ≤ room_1.slots) (hM : LI cI cZ cQ cU cJ 20000 t ox om oj M) (kk : ∀ M' : va_W, LI cI cZ cQ cU cJ 20000 (t + 1) ox om oj M' → VJ p l e room_1 s m args below meth c 7 G vwCl A Qf (cells + 40) (slots + 13000) (some ()) M' 2216 [(0, .ref b), (1, .ref ox), (2, .ref om), (3, .ref oj), (4, .int i)] []) : VJ p l e room_1 s m args below meth c 7 G vwCl A Qf cells slots (some ()) M 480 [(0, .ref b), (1, .ref ox), (2, .ref om), (3, .ref oj), (4, .int i)] [] := by
  obtain ⟨ad, Ix, Rx, rf, ra, ta, ea, wa, adk, Ik, Rk, cmk, adq, Iq, Rq, cmq, adc, Ic, Rc, cmc, adn, In, Rn, AL, AI, AR, rs, RL, adm, I, R, g, hIV, hM⟩ := hM
  obtain ⟨n9, m9, P9, d9, g9, od9, ao9, hc⟩ := hIV
  have C := CX.1
  obtain ⟨x1, hx1⟩ : ∃ z, z = xs (i + 1).toNatClampNeg := ⟨_, rfl⟩
  obtain ⟨x2, hx2⟩ : ∃ z, z = xs (i + 2).toNatClampNeg := ⟨_, rfl⟩
  obtain ⟨x3, hx3⟩ : ∃ z, z = xs (i + 3).toNatClampNeg := ⟨_, rfl⟩
  obtain ⟨x4, hx4⟩ : ∃ z, z = xs (i + 4).toNatClampNeg := ⟨_, rfl⟩
  obtain ⟨outf, outM, f5, f6, hT⟩ := sim_tie (Nat.le_of_ble_eq_true rfl) hc x1 x2 x3 x4
  refine VJ.perm hM ?_
  refine VJ.aload_n C 1 dL_law_480 rfl ?_
  refine VJ.sarg (j := 1) C hX hbl hbA 0 4 rfl rfl ⟨h1, hx1.symm⟩ (by decide) dL_law_481 dL_law_482 dL_law_484 dL_law_485 dL_law_486 ?_
  refine VJ.sarg (j := 2) C hX hbl hbA 0 4 rfl rfl ⟨h2, hx2.symm⟩ (by decide) dL_law_487 dL_law_488 dL_law_490 dL_law_491 dL_law_492 ?_
  refine VJ.sarg (j := 3) C hX hbl hbA 0 4 rfl rfl ⟨h3, hx3.symm⟩ (by decide) dL_law_493 dL_law_494 dL_law_496 dL_law_497 dL_law_498 ?_
  refine VJ.sarg (j := 4) C hX hbl hbA 0 4 rfl rfl ⟨h4, hx4.symm⟩ (by decide) dL_law_499 dL_law_500 dL_law_502 dL_law_503 dL_law_504 ?_
  refine VJ.aload_n C 3 dL_law_505 rfl ?_
  refine VJ.callW CX hN [.ref ox, .int x1, .int x2, .int x3, .int x4, .ref oj] (pf [xW cI cZ ox ad Ix Rx rf, aW cQ (rf 0) ra ta ea wa, lW cI cZ (rf 1) adk Ik Rk cmk, pW AL AI AR] ++ jW cJ oj g) (pf [mW cI cZ om adm I R, lW cI cZ (rf 2) adq Iq Rq cmq, lW cI cZ (rf 3) adc Ic Rc cmc, nW cI cZ (rf 4) adn In Rn, qW cU (rf 5) rs, RW cI cZ RL]) 40 13000 (c_L_tie l CX.2.2 G cI cZ cQ cU cJ ox oj x1 x2 x3 x4 g (pf [xW cI cZ ox ad Ix Rx rf, aW cQ (rf 0) ra ta ea wa, lW cI cZ (rf 1) adk Ik Rk cmk, pW AL AI AR]) _ (xF ad Ix rf) rfl (c_X5_tie l CX.2.2 G cI cZ cQ cU cJ 20000 ox ad rf Ix Rx ra ta ea wa adk Ik Rk cmk AL AI AR x1 x2 x3 x4 outf f5) (fun _ _ h => by obtain ⟨q9, o8, -, -, h3, -⟩ := h; exact ⟨_, (h3 rfl).2.1⟩) (fun k _ _ h => by obtain ⟨q9, o8, ho, h2, -, -⟩ := h; exact hn_123 (by rw [h2]; exact (hT q9 o8 ho (fun h => absurd (h2.trans h) (Nat.succ_ne_zero k))).1))) (vj_pfj 11 [2, 3, 4, 9, 0, 1, 5, 6, 7, 8, 10] rfl rfl (by decide)) (vx_cwSW 6 C.1.2.2.2.2 gL_law_L_tie rfl rfl rfl hy_L_tie ⟨Nat.le_of_ble_eq_true rfl, Nat.le_of_ble_eq_true rfl⟩) rfl rfl (Nat.le_of_ble_eq_true rfl) dL_law_506 ⟨Nat.le_of_ble_eq_true rfl, Nat.le_of_ble_eq_true rfl⟩ hR ?_
  intro r M1 h9
  obtain ⟨g2, Wn, rfl, rfl, hg, hW⟩ := lm_t (e := e123) (mv := outM.1) (y := outM.2.1 0) (G1 := fun q o8 => IV9 20000 (t + 1) Ix Rx o8.2 In Rn (AL ++ [q]) rs RL outM.2.1 outM.2.2) (G0 := IV 20000 (t + 1) Ix Rx ta ea wa Ik Rk cmk In Rn AL AI AR rs RL outM.2.1 outM.2.2) h9 hT (by decide +kernel)
  refine VJ.perm (pf_back _ _ _ _) ?_
  refine VJ.istore C [(5, .int (outM.2.1 0)), (0, .ref b), (1, .ref ox), (2, .ref om), (3, .ref oj), (4, .int i)] dL_law_509 (Nat.le_of_ble_eq_true rfl) rfl ?_
  refine VJ.aload_n C 3 dL_law_511 rfl ?_
  refine VJ.sarg (j := 1) C hX hbl hbA 1 5 rfl rfl ⟨h1, hx1.symm⟩ (by decide) dL_law_512 dL_law_513 dL_law_515 dL_law_516 dL_law_517 ?_
  refine VJ.sarg (j := 2) C hX hbl hbA 1 5 rfl rfl ⟨h2, hx2.symm⟩ (by decide) dL_law_518 dL_law_519 dL_law_521 dL_law_522 dL_law_523 ?_
  refine VJ.sarg (j := 3) C hX hbl hbA 1 5 rfl rfl ⟨h3, hx3.symm⟩ (by decide) dL_law_524 dL_law_525 dL_law_527 dL_law_528 dL_law_529 ?_
  refine VJ.sarg (j := 4) C hX hbl hbA 1 5 rfl rfl ⟨h4, hx4.symm⟩ (by decide) dL_law_530 dL_law_531 dL_law_533 dL_law_534 dL_law_535 ?_
  refine VJ.callC C [.int x1, .int x2, .int x3, .int x4] (pf [mW cI cZ om adm I R]) (pf [jW cJ oj g2, Wn, lW cI cZ (rf 2) adq Iq Rq cmq, lW cI cZ (rf 3) adc Ic Rc cmc, nW cI cZ (rf 4) adn In Rn, qW cU (rf 5) rs, RW cI cZ RL]) (pf [jW cJ oj g2, mW cI cZ om adm (outM.2.1) (outM.2.2), Wn, lW cI cZ (rf 2) adq Iq Rq cmq, lW cI cZ (rf 3) adc Ic Rc cmc, nW cI cZ (rf 4) adn In Rn, qW cU (rf 5) rs, RW cI cZ RL]) (c_X6_tie l G cI cZ cQ cU cJ 20000 om adm I R x1 x2 x3 x4 outM f6) (pf_m1 _ _ _) (pf_m2 _ _ _) 0 rfl rfl (cwV 4 C.1.2.2.2.2 gL_law_X6_tie rfl rfl rfl hyV_X6_tie ⟨Nat.le_of_ble_eq_true rfl, Nat.le_of_ble_eq_true rfl⟩) rfl rfl (Nat.le_of_ble_eq_true rfl) dL_law_536 ⟨rfl, rfl⟩ hR ?_
  refine VJ.istore C [(6, .int (outM.1)), (5, .int (outM.2.1 0)), (0, .ref b), (1, .ref ox), (2, .ref om), (3, .ref oj), (4, .int i)] dL_law_539 (Nat.le_of_ble_eq_true rfl) rfl ?_
  refine law_tail 541 C hR rfl hg dL_law_541 dL_law_542 dL_law_545 dL_law_547 dL_law_552 dL_law_554 dL_law_557 dL_law_558 dL_law_559 dL_law_560 dL_law_562 dL_law_563 dL_law_564 dL_law_569 (by decide) ?_
  refine VJ.sub [2, 3, 4, 5, 6] rfl ?_
  rcases hW with ⟨q8, o8, rfl, hI⟩ | ⟨rfl, hI⟩
  · exact kk _ ⟨ad, Ix, Rx, rf, ra, o8.2.2.1, o8.2.2.2.1, o8.2.2.2.2.1, adk, o8.2.2.2.2.2.1, o8.2.2.2.2.2.2.1, o8.2.2.2.2.2.2.2.1, adq, Iq, Rq, cmq, adc, Ic, Rc, cmc, adn, In, Rn, (AL ++ [q8]), o8.2.2.2.2.2.2.2.2.1, o8.2.2.2.2.2.2.2.2.2, rs, RL, adm, outM.2.1, outM.2.2, g2, hI, by rw [pf_nest]; exact vj_pfe 11 [0, 1, 2, 3, 4, 6, 7, 8, 9, 5, 10] rfl rfl (by decide)⟩
  · exact kk _ ⟨ad, Ix, Rx, rf, ra, ta, ea, wa, adk, Ik, Rk, cmk, adq, Iq, Rq, cmq, adc, Ic, Rc, cmc, adn, In, Rn, AL, AI, AR, rs, RL, adm, outM.2.1, outM.2.2, g2, hI, by rw [pf_nest]; exact vj_pfe 11 [0, 1, 2, 3, 4, 6, 7, 8, 9, 5, 10] rfl rfl (by decide)⟩

set_option maxHeartbeats 8000000 in
set_option maxRecDepth 100000 in
theorem law_death {p : Program} {l : Launch} {e : Env} {s : State} {m : MethodId} {args : Array Value} {below : List Frame} {meth : Method} {c : Code} {G : va_G} {cI cZ cQ cU cJ : ClassId} {A : Nat → Prop} {Qf : Unit → State → Prop} {cells slots : Nat} {b L : Nat} {xs : Nat → Int32} {ox om oj t : Nat} {M : va_W} {i : Int32} (CX : CxX p l s m args meth c cL_law 7 wsL_law RL G vwCl (tys cI cZ cQ cU cJ) nws strs A) (hN : NC s) (hX : va_X b L xs s s.heap) (hbl : b < s.heap.size) (hbA : ¬ A b) (ht : t ≤ 511) (h1 : vp_in (i + 1) L) (h2 : vp_in (i + 2) L) (h3 : vp_in (i + 3) L) (h4 : vp_in (i + 4) L) (hR : cells + 40 ≤ room_1.cells ∧ slots + 13000 ≤ room_1.slots) (hM : LI cI cZ cQ cU cJ 20000 t ox om oj M) (kk : ∀ M' : va_W, LI cI cZ cQ cU cJ 20000 (t + 1) ox om oj M' → VJ p l e room_1 s m args below meth c 7 G vwCl A Qf (cells + 40) (slots + 13000) (some ()) M' 2216 [(0, .ref b), (1, .ref ox), (2, .ref om), (3, .ref oj), (4, .int i)] []) : VJ p l e room_1 s m args below meth c 7 G vwCl A Qf cells slots (some ()) M 572 [(0, .ref b), (1, .ref ox), (2, .ref om), (3, .ref oj), (4, .int i)] [] := by
  obtain ⟨ad, Ix, Rx, rf, ra, ta, ea, wa, adk, Ik, Rk, cmk, adq, Iq, Rq, cmq, adc, Ic, Rc, cmc, adn, In, Rn, AL, AI, AR, rs, RL, adm, I, R, g, hIV, hM⟩ := hM
  obtain ⟨n9, m9, P9, d9, g9, od9, ao9, hc⟩ := hIV
  have C := CX.1
  obtain ⟨x1, hx1⟩ : ∃ z, z = xs (i + 1).toNatClampNeg := ⟨_, rfl⟩
  obtain ⟨x2, hx2⟩ : ∃ z, z = xs (i + 2).toNatClampNeg := ⟨_, rfl⟩
  obtain ⟨outf, outM, f5, f6, hT⟩ := sim_death (Nat.le_of_ble_eq_true rfl) hc x1 x2
  refine VJ.perm hM ?_
  refine VJ.aload_n C 1 dL_law_572 rfl ?_
  refine VJ.sarg (j := 1) C hX hbl hbA 0 4 rfl rfl ⟨h1, hx1.symm⟩ (by decide) dL_law_573 dL_law_574 dL_law_576 dL_law_577 dL_law_578 ?_
  refine VJ.sarg (j := 2) C hX hbl hbA 0 4 rfl rfl ⟨h2, hx2.symm⟩ (by decide) dL_law_579 dL_law_580 dL_law_582 dL_law_583 dL_law_584 ?_
  refine VJ.aload_n C 3 dL_law_585 rfl ?_
  refine VJ.callW CX hN [.ref ox, .int x1, .int x2, .ref oj] (pf [xW cI cZ ox ad Ix Rx rf, aW cQ (rf 0) ra ta ea wa, lW cI cZ (rf 1) adk Ik Rk cmk, pW AL AI AR] ++ jW cJ oj g) (pf [mW cI cZ om adm I R, lW cI cZ (rf 2) adq Iq Rq cmq, lW cI cZ (rf 3) adc Ic Rc cmc, nW cI cZ (rf 4) adn In Rn, qW cU (rf 5) rs, RW cI cZ RL]) 40 13000 (c_L_death l CX.2.2 G cI cZ cQ cU cJ ox oj x1 x2 g (pf [xW cI cZ ox ad Ix Rx rf, aW cQ (rf 0) ra ta ea wa, lW cI cZ (rf 1) adk Ik Rk cmk, pW AL AI AR]) _ (xF ad Ix rf) rfl (c_X5_death l CX.2.2 G cI cZ cQ cU cJ 20000 ox ad rf Ix Rx ra ta ea wa adk Ik Rk cmk AL AI AR x1 x2 outf f5) (fun _ _ h => by obtain ⟨q9, o8, -, -, h3, -⟩ := h; exact ⟨_, (h3 rfl).2.1⟩) (fun k _ _ h => by obtain ⟨q9, o8, ho, h2, -, -⟩ := h; exact hn_123 (by rw [h2]; exact (hT q9 o8 ho (fun h => absurd (h2.trans h) (Nat.succ_ne_zero k))).1))) (vj_pfj 11 [2, 3, 4, 9, 0, 1, 5, 6, 7, 8, 10] rfl rfl (by decide)) (vx_cwSW 4 C.1.2.2.2.2 gL_law_L_death rfl rfl rfl hy_L_death ⟨Nat.le_of_ble_eq_true rfl, Nat.le_of_ble_eq_true rfl⟩) rfl rfl (Nat.le_of_ble_eq_true rfl) dL_law_586 ⟨Nat.le_of_ble_eq_true rfl, Nat.le_of_ble_eq_true rfl⟩ hR ?_
  intro r M1 h9
  obtain ⟨g2, Wn, rfl, rfl, hg, hW⟩ := lm_t (e := e123) (mv := outM.1) (y := outM.2.1 0) (G1 := fun q o8 => IV9 20000 (t + 1) Ix Rx o8.2 In Rn (AL ++ [q]) rs RL outM.2.1 outM.2.2) (G0 := IV 20000 (t + 1) Ix Rx ta ea wa Ik Rk cmk In Rn AL AI AR rs RL outM.2.1 outM.2.2) h9 hT (by decide +kernel)
  refine VJ.perm (pf_back _ _ _ _) ?_
  refine VJ.istore C [(5, .int (outM.2.1 0)), (0, .ref b), (1, .ref ox), (2, .ref om), (3, .ref oj), (4, .int i)] dL_law_589 (Nat.le_of_ble_eq_true rfl) rfl ?_
  refine VJ.aload_n C 3 dL_law_591 rfl ?_
  refine VJ.sarg (j := 1) C hX hbl hbA 1 5 rfl rfl ⟨h1, hx1.symm⟩ (by decide) dL_law_592 dL_law_593 dL_law_595 dL_law_596 dL_law_597 ?_
  refine VJ.sarg (j := 2) C hX hbl hbA 1 5 rfl rfl ⟨h2, hx2.symm⟩ (by decide) dL_law_598 dL_law_599 dL_law_601 dL_law_602 dL_law_603 ?_
  refine VJ.callC C [.int x1, .int x2] (pf [mW cI cZ om adm I R]) (pf [jW cJ oj g2, Wn, lW cI cZ (rf 2) adq Iq Rq cmq, lW cI cZ (rf 3) adc Ic Rc cmc, nW cI cZ (rf 4) adn In Rn, qW cU (rf 5) rs, RW cI cZ RL]) (pf [jW cJ oj g2, mW cI cZ om adm (outM.2.1) (outM.2.2), Wn, lW cI cZ (rf 2) adq Iq Rq cmq, lW cI cZ (rf 3) adc Ic Rc cmc, nW cI cZ (rf 4) adn In Rn, qW cU (rf 5) rs, RW cI cZ RL]) (c_X6_death l G cI cZ cQ cU cJ 20000 om adm I R x1 x2 outM f6) (pf_m1 _ _ _) (pf_m2 _ _ _) 0 rfl rfl (cwV 2 C.1.2.2.2.2 gL_law_X6_death rfl rfl rfl hyV_X6_death ⟨Nat.le_of_ble_eq_true rfl, Nat.le_of_ble_eq_true rfl⟩) rfl rfl (Nat.le_of_ble_eq_true rfl) dL_law_604 ⟨rfl, rfl⟩ hR ?_
  refine VJ.istore C [(6, .int (outM.1)), (5, .int (outM.2.1 0)), (0, .ref b), (1, .ref ox), (2, .ref om), (3, .ref oj), (4, .int i)] dL_law_607 (Nat.le_of_ble_eq_true rfl) rfl ?_
  refine law_tail 609 C hR rfl hg dL_law_609 dL_law_610 dL_law_613 dL_law_615 dL_law_620 dL_law_622 dL_law_625 dL_law_626 dL_law_627 dL_law_628 dL_law_630 dL_law_631 dL_law_632 dL_law_637 (by decide) ?_
  refine VJ.sub [2, 3, 4, 5, 6] rfl ?_
  rcases hW with ⟨q8, o8, rfl, hI⟩ | ⟨rfl, hI⟩
  · exact kk _ ⟨ad, Ix, Rx, rf, ra, o8.2.2.1, o8.2.2.2.1, o8.2.2.2.2.1, adk, o8.2.2.2.2.2.1, o8.2.2.2.2.2.2.1, o8.2.2.2.2.2.2.2.1, adq, Iq, Rq, cmq, adc, Ic, Rc, cmc, adn, In, Rn, (AL ++ [q8]), o8.2.2.2.2.2.2.2.2.1, o8.2.2.2.2.2.2.2.2.2, rs, RL, adm, outM.2.1, outM.2.2, g2, hI, by rw [pf_nest]; exact vj_pfe 11 [0, 1, 2, 3, 4, 6, 7, 8, 9, 5, 10] rfl rfl (by decide)⟩
  · exact kk _ ⟨ad, Ix, Rx, rf, ra, ta, ea, wa, adk, Ik, Rk, cmk, adq, Iq, Rq, cmq, adc, Ic, Rc, cmc, adn, In, Rn, AL, AI, AR, rs, RL, adm, outM.2.1, outM.2.2, g2, hI, by rw [pf_nest]; exact vj_pfe 11 [0, 1, 2, 3, 4, 6, 7, 8, 9, 5, 10] rfl rfl (by decide)⟩

set_option maxHeartbeats 8000000 in
set_option maxRecDepth 100000 in
theorem law_join {p : Program} {l : Launch} {e : Env} {s : State} {m : MethodId} {args : Array Value} {below : List Frame} {meth : Method} {c : Code} {G : va_G} {cI cZ cQ cU cJ : ClassId} {A : Nat → Prop} {Qf : Unit → State → Prop} {cells slots : Nat} {b L : Nat} {xs : Nat → Int32} {ox om oj t : Nat} {M : va_W} {i : Int32} (CX : CxX p l s m args meth c cL_law 7 wsL_law RL G vwCl (tys cI cZ cQ cU cJ) nws strs A) (hN : NC s) (hX : va_X b L xs s s.heap) (hbl : b < s.heap.size) (hbA : ¬ A b) (ht : t ≤ 511) (h1 : vp_in (i + 1) L) (h2 : vp_in (i + 2) L) (h3 : vp_in (i + 3) L) (h4 : vp_in (i + 4) L) (hR : cells + 40 ≤ room_1.cells ∧ slots + 13000 ≤ room_1.slots) (hM : LI cI cZ cQ cU cJ 20000 t ox om oj M) (kk : ∀ M' : va_W, LI cI cZ cQ cU cJ 20000 (t + 1) ox om oj M' → VJ p l e room_1 s m args below meth c 7 G vwCl A Qf (cells + 40) (slots + 13000) (some ()) M' 2216 [(0, .ref b), (1, .ref ox), (2, .ref om), (3, .ref oj), (4, .int i)] []) : VJ p l e room_1 s m args below meth c 7 G vwCl A Qf cells slots (some ()) M 640 [(0, .ref b), (1, .ref ox), (2, .ref om), (3, .ref oj), (4, .int i)] [] := by
  obtain ⟨ad, Ix, Rx, rf, ra, ta, ea, wa, adk, Ik, Rk, cmk, adq, Iq, Rq, cmq, adc, Ic, Rc, cmc, adn, In, Rn, AL, AI, AR, rs, RL, adm, I, R, g, hIV, hM⟩ := hM
  obtain ⟨n9, m9, P9, d9, g9, od9, ao9, hc⟩ := hIV
  have C := CX.1
  obtain ⟨x1, hx1⟩ : ∃ z, z = xs (i + 1).toNatClampNeg := ⟨_, rfl⟩
  obtain ⟨x2, hx2⟩ : ∃ z, z = xs (i + 2).toNatClampNeg := ⟨_, rfl⟩
  obtain ⟨outf, outM, f5, f6, hT⟩ := sim_join (Nat.le_of_ble_eq_true rfl) hc x1 x2
  refine VJ.perm hM ?_
  refine VJ.aload_n C 1 dL_law_640 rfl ?_
  refine VJ.sarg (j := 1) C hX hbl hbA 0 4 rfl rfl ⟨h1, hx1.symm⟩ (by decide) dL_law_641 dL_law_642 dL_law_644 dL_law_645 dL_law_646 ?_
  refine VJ.sarg (j := 2) C hX hbl hbA 0 4 rfl rfl ⟨h2, hx2.symm⟩ (by decide) dL_law_647 dL_law_648 dL_law_650 dL_law_651 dL_law_652 ?_
  refine VJ.aload_n C 3 dL_law_653 rfl ?_
  refine VJ.callW CX hN [.ref ox, .int x1, .int x2, .ref oj] (pf [xW cI cZ ox ad Ix Rx rf, aW cQ (rf 0) ra ta ea wa, lW cI cZ (rf 1) adk Ik Rk cmk, pW AL AI AR] ++ jW cJ oj g) (pf [mW cI cZ om adm I R, lW cI cZ (rf 2) adq Iq Rq cmq, lW cI cZ (rf 3) adc Ic Rc cmc, nW cI cZ (rf 4) adn In Rn, qW cU (rf 5) rs, RW cI cZ RL]) 40 13000 (c_L_join l CX.2.2 G cI cZ cQ cU cJ ox oj x1 x2 g (pf [xW cI cZ ox ad Ix Rx rf, aW cQ (rf 0) ra ta ea wa, lW cI cZ (rf 1) adk Ik Rk cmk, pW AL AI AR]) _ (xF ad Ix rf) rfl (c_X5_join l CX.2.2 G cI cZ cQ cU cJ 20000 ox ad rf Ix Rx ra ta ea wa adk Ik Rk cmk AL AI AR x1 x2 outf f5) (fun _ _ h => by obtain ⟨q9, o8, -, -, h3, -⟩ := h; exact ⟨_, (h3 rfl).2.1⟩) (fun k _ _ h => by obtain ⟨q9, o8, ho, h2, -, -⟩ := h; exact hn_123 (by rw [h2]; exact (hT q9 o8 ho (fun h => absurd (h2.trans h) (Nat.succ_ne_zero k))).1))) (vj_pfj 11 [2, 3, 4, 9, 0, 1, 5, 6, 7, 8, 10] rfl rfl (by decide)) (vx_cwSW 4 C.1.2.2.2.2 gL_law_L_join rfl rfl rfl hy_L_join ⟨Nat.le_of_ble_eq_true rfl, Nat.le_of_ble_eq_true rfl⟩) rfl rfl (Nat.le_of_ble_eq_true rfl) dL_law_654 ⟨Nat.le_of_ble_eq_true rfl, Nat.le_of_ble_eq_true rfl⟩ hR ?_
  intro r M1 h9
  obtain ⟨g2, Wn, rfl, rfl, hg, hW⟩ := lm_t (e := e123) (mv := outM.1) (y := outM.2.1 0) (G1 := fun q o8 => IV9 20000 (t + 1) Ix Rx o8.2 In Rn (AL ++ [q]) rs RL outM.2.1 outM.2.2) (G0 := IV 20000 (t + 1) Ix Rx ta ea wa Ik Rk cmk In Rn AL AI AR rs RL outM.2.1 outM.2.2) h9 hT (by decide +kernel)
  refine VJ.perm (pf_back _ _ _ _) ?_
  refine VJ.istore C [(5, .int (outM.2.1 0)), (0, .ref b), (1, .ref ox), (2, .ref om), (3, .ref oj), (4, .int i)] dL_law_657 (Nat.le_of_ble_eq_true rfl) rfl ?_
  refine VJ.aload_n C 3 dL_law_659 rfl ?_
  refine VJ.sarg (j := 1) C hX hbl hbA 1 5 rfl rfl ⟨h1, hx1.symm⟩ (by decide) dL_law_660 dL_law_661 dL_law_663 dL_law_664 dL_law_665 ?_
  refine VJ.sarg (j := 2) C hX hbl hbA 1 5 rfl rfl ⟨h2, hx2.symm⟩ (by decide) dL_law_666 dL_law_667 dL_law_669 dL_law_670 dL_law_671 ?_
  refine VJ.callC C [.int x1, .int x2] (pf [mW cI cZ om adm I R]) (pf [jW cJ oj g2, Wn, lW cI cZ (rf 2) adq Iq Rq cmq, lW cI cZ (rf 3) adc Ic Rc cmc, nW cI cZ (rf 4) adn In Rn, qW cU (rf 5) rs, RW cI cZ RL]) (pf [jW cJ oj g2, mW cI cZ om adm (outM.2.1) (outM.2.2), Wn, lW cI cZ (rf 2) adq Iq Rq cmq, lW cI cZ (rf 3) adc Ic Rc cmc, nW cI cZ (rf 4) adn In Rn, qW cU (rf 5) rs, RW cI cZ RL]) (c_X6_join l G cI cZ cQ cU cJ 20000 om adm I R x1 x2 outM f6) (pf_m1 _ _ _) (pf_m2 _ _ _) 0 rfl rfl (cwV 2 C.1.2.2.2.2 gL_law_X6_join rfl rfl rfl hyV_X6_join ⟨Nat.le_of_ble_eq_true rfl, Nat.le_of_ble_eq_true rfl⟩) rfl rfl (Nat.le_of_ble_eq_true rfl) dL_law_672 ⟨rfl, rfl⟩ hR ?_
  refine VJ.istore C [(6, .int (outM.1)), (5, .int (outM.2.1 0)), (0, .ref b), (1, .ref ox), (2, .ref om), (3, .ref oj), (4, .int i)] dL_law_675 (Nat.le_of_ble_eq_true rfl) rfl ?_
  refine law_tail 677 C hR rfl hg dL_law_677 dL_law_678 dL_law_681 dL_law_683 dL_law_688 dL_law_690 dL_law_693 dL_law_694 dL_law_695 dL_law_696 dL_law_698 dL_law_699 dL_law_700 dL_law_705 (by decide) ?_
  refine VJ.sub [2, 3, 4, 5, 6] rfl ?_
  rcases hW with ⟨q8, o8, rfl, hI⟩ | ⟨rfl, hI⟩
  · exact kk _ ⟨ad, Ix, Rx, rf, ra, o8.2.2.1, o8.2.2.2.1, o8.2.2.2.2.1, adk, o8.2.2.2.2.2.1, o8.2.2.2.2.2.2.1, o8.2.2.2.2.2.2.2.1, adq, Iq, Rq, cmq, adc, Ic, Rc, cmc, adn, In, Rn, (AL ++ [q8]), o8.2.2.2.2.2.2.2.2.1, o8.2.2.2.2.2.2.2.2.2, rs, RL, adm, outM.2.1, outM.2.2, g2, hI, by rw [pf_nest]; exact vj_pfe 11 [0, 1, 2, 3, 4, 6, 7, 8, 9, 5, 10] rfl rfl (by decide)⟩
  · exact kk _ ⟨ad, Ix, Rx, rf, ra, ta, ea, wa, adk, Ik, Rk, cmk, adq, Iq, Rq, cmq, adc, Ic, Rc, cmc, adn, In, Rn, AL, AI, AR, rs, RL, adm, outM.2.1, outM.2.2, g2, hI, by rw [pf_nest]; exact vj_pfe 11 [0, 1, 2, 3, 4, 6, 7, 8, 9, 5, 10] rfl rfl (by decide)⟩

set_option maxHeartbeats 8000000 in
set_option maxRecDepth 100000 in
theorem law_strike {p : Program} {l : Launch} {e : Env} {s : State} {m : MethodId} {args : Array Value} {below : List Frame} {meth : Method} {c : Code} {G : va_G} {cI cZ cQ cU cJ : ClassId} {A : Nat → Prop} {Qf : Unit → State → Prop} {cells slots : Nat} {b L : Nat} {xs : Nat → Int32} {ox om oj t : Nat} {M : va_W} {i : Int32} (CX : CxX p l s m args meth c cL_law 7 wsL_law RL G vwCl (tys cI cZ cQ cU cJ) nws strs A) (hN : NC s) (hX : va_X b L xs s s.heap) (hbl : b < s.heap.size) (hbA : ¬ A b) (ht : t ≤ 511) (h1 : vp_in (i + 1) L) (h2 : vp_in (i + 2) L) (h3 : vp_in (i + 3) L) (h4 : vp_in (i + 4) L) (hR : cells + 40 ≤ room_1.cells ∧ slots + 13000 ≤ room_1.slots) (hM : LI cI cZ cQ cU cJ 20000 t ox om oj M) (kk : ∀ M' : va_W, LI cI cZ cQ cU cJ 20000 (t + 1) ox om oj M' → VJ p l e room_1 s m args below meth c 7 G vwCl A Qf (cells + 40) (slots + 13000) (some ()) M' 2216 [(0, .ref b), (1, .ref ox), (2, .ref om), (3, .ref oj), (4, .int i)] []) : VJ p l e room_1 s m args below meth c 7 G vwCl A Qf cells slots (some ()) M 708 [(0, .ref b), (1, .ref ox), (2, .ref om), (3, .ref oj), (4, .int i)] [] := by
  obtain ⟨ad, Ix, Rx, rf, ra, ta, ea, wa, adk, Ik, Rk, cmk, adq, Iq, Rq, cmq, adc, Ic, Rc, cmc, adn, In, Rn, AL, AI, AR, rs, RL, adm, I, R, g, hIV, hM⟩ := hM
  obtain ⟨n9, m9, P9, d9, g9, od9, ao9, hc⟩ := hIV
  have C := CX.1
  obtain ⟨x1, hx1⟩ : ∃ z, z = xs (i + 1).toNatClampNeg := ⟨_, rfl⟩
  obtain ⟨outf, outM, f5, f6, hT⟩ := sim_strike (Nat.le_of_ble_eq_true rfl) hc x1
  refine VJ.perm hM ?_
  refine VJ.aload_n C 1 dL_law_708 rfl ?_
  refine VJ.sarg (j := 1) C hX hbl hbA 0 4 rfl rfl ⟨h1, hx1.symm⟩ (by decide) dL_law_709 dL_law_710 dL_law_712 dL_law_713 dL_law_714 ?_
  refine VJ.aload_n C 3 dL_law_715 rfl ?_
  refine VJ.callW CX hN [.ref ox, .int x1, .ref oj] (pf [xW cI cZ ox ad Ix Rx rf, aW cQ (rf 0) ra ta ea wa, lW cI cZ (rf 1) adk Ik Rk cmk, pW AL AI AR] ++ jW cJ oj g) (pf [mW cI cZ om adm I R, lW cI cZ (rf 2) adq Iq Rq cmq, lW cI cZ (rf 3) adc Ic Rc cmc, nW cI cZ (rf 4) adn In Rn, qW cU (rf 5) rs, RW cI cZ RL]) 40 13000 (c_L_strike l CX.2.2 G cI cZ cQ cU cJ ox oj x1 g (pf [xW cI cZ ox ad Ix Rx rf, aW cQ (rf 0) ra ta ea wa, lW cI cZ (rf 1) adk Ik Rk cmk, pW AL AI AR]) _ (xF ad Ix rf) rfl (c_X5_strike l CX.2.2 G cI cZ cQ cU cJ 20000 ox ad rf Ix Rx ra ta ea wa adk Ik Rk cmk AL AI AR x1 outf f5) (fun _ _ h => by obtain ⟨q9, o8, -, -, h3, -⟩ := h; exact ⟨_, (h3 rfl).2.1⟩) (fun k _ _ h => by obtain ⟨q9, o8, ho, h2, -, -⟩ := h; exact hn_13 (by rw [h2]; exact (hT q9 o8 ho (fun h => absurd (h2.trans h) (Nat.succ_ne_zero k))).1))) (vj_pfj 11 [2, 3, 4, 9, 0, 1, 5, 6, 7, 8, 10] rfl rfl (by decide)) (vx_cwSW 3 C.1.2.2.2.2 gL_law_L_strike rfl rfl rfl hy_L_strike ⟨Nat.le_of_ble_eq_true rfl, Nat.le_of_ble_eq_true rfl⟩) rfl rfl (Nat.le_of_ble_eq_true rfl) dL_law_716 ⟨Nat.le_of_ble_eq_true rfl, Nat.le_of_ble_eq_true rfl⟩ hR ?_
  intro r M1 h9
  obtain ⟨g2, Wn, rfl, rfl, hg, hW⟩ := lm_t (e := e13) (mv := outM.1) (y := outM.2.1 0) (G1 := fun q o8 => IV9 20000 (t + 1) Ix Rx o8.2 In Rn (AL ++ [q]) rs RL outM.2.1 outM.2.2) (G0 := IV 20000 (t + 1) Ix Rx ta ea wa Ik Rk cmk In Rn AL AI AR rs RL outM.2.1 outM.2.2) h9 hT (by decide +kernel)
  refine VJ.perm (pf_back _ _ _ _) ?_
  refine VJ.istore C [(5, .int (outM.2.1 0)), (0, .ref b), (1, .ref ox), (2, .ref om), (3, .ref oj), (4, .int i)] dL_law_719 (Nat.le_of_ble_eq_true rfl) rfl ?_
  refine VJ.aload_n C 3 dL_law_721 rfl ?_
  refine VJ.sarg (j := 1) C hX hbl hbA 1 5 rfl rfl ⟨h1, hx1.symm⟩ (by decide) dL_law_722 dL_law_723 dL_law_725 dL_law_726 dL_law_727 ?_
  refine VJ.callC C [.int x1] (pf [mW cI cZ om adm I R]) (pf [jW cJ oj g2, Wn, lW cI cZ (rf 2) adq Iq Rq cmq, lW cI cZ (rf 3) adc Ic Rc cmc, nW cI cZ (rf 4) adn In Rn, qW cU (rf 5) rs, RW cI cZ RL]) (pf [jW cJ oj g2, mW cI cZ om adm (outM.2.1) (outM.2.2), Wn, lW cI cZ (rf 2) adq Iq Rq cmq, lW cI cZ (rf 3) adc Ic Rc cmc, nW cI cZ (rf 4) adn In Rn, qW cU (rf 5) rs, RW cI cZ RL]) (c_X6_strike l G cI cZ cQ cU cJ 20000 om adm I R x1 outM f6) (pf_m1 _ _ _) (pf_m2 _ _ _) 0 rfl rfl (cwV 1 C.1.2.2.2.2 gL_law_X6_strike rfl rfl rfl hyV_X6_strike ⟨Nat.le_of_ble_eq_true rfl, Nat.le_of_ble_eq_true rfl⟩) rfl rfl (Nat.le_of_ble_eq_true rfl) dL_law_728 ⟨rfl, rfl⟩ hR ?_
  refine VJ.istore C [(6, .int (outM.1)), (5, .int (outM.2.1 0)), (0, .ref b), (1, .ref ox), (2, .ref om), (3, .ref oj), (4, .int i)] dL_law_731 (Nat.le_of_ble_eq_true rfl) rfl ?_
  refine law_tail 733 C hR rfl hg dL_law_733 dL_law_734 dL_law_737 dL_law_739 dL_law_744 dL_law_746 dL_law_749 dL_law_750 dL_law_751 dL_law_752 dL_law_754 dL_law_755 dL_law_756 dL_law_761 (by decide) ?_
  refine VJ.sub [2, 3, 4, 5, 6] rfl ?_
  rcases hW with ⟨q8, o8, rfl, hI⟩ | ⟨rfl, hI⟩
  · exact kk _ ⟨ad, Ix, Rx, rf, ra, o8.2.2.1, o8.2.2.2.1, o8.2.2.2.2.1, adk, o8.2.2.2.2.2.1, o8.2.2.2.2.2.2.1, o8.2.2.2.2.2.2.2.1, adq, Iq, Rq, cmq, adc, Ic, Rc, cmc, adn, In, Rn, (AL ++ [q8]), o8.2.2.2.2.2.2.2.2.1, o8.2.2.2.2.2.2.2.2.2, rs, RL, adm, outM.2.1, outM.2.2, g2, hI, by rw [pf_nest]; exact vj_pfe 11 [0, 1, 2, 3, 4, 6, 7, 8, 9, 5, 10] rfl rfl (by decide)⟩
  · exact kk _ ⟨ad, Ix, Rx, rf, ra, ta, ea, wa, adk, Ik, Rk, cmk, adq, Iq, Rq, cmq, adc, Ic, Rc, cmc, adn, In, Rn, AL, AI, AR, rs, RL, adm, outM.2.1, outM.2.2, g2, hI, by rw [pf_nest]; exact vj_pfe 11 [0, 1, 2, 3, 4, 6, 7, 8, 9, 5, 10] rfl rfl (by decide)⟩

set_option maxHeartbeats 8000000 in
set_option maxRecDepth 100000 in
theorem law_actOf {p : Program} {l : Launch} {e : Env} {s : State} {m : MethodId} {args : Array Value} {below : List Frame} {meth : Method} {c : Code} {G : va_G} {cI cZ cQ cU cJ : ClassId} {A : Nat → Prop} {Qf : Unit → State → Prop} {cells slots : Nat} {b L : Nat} {xs : Nat → Int32} {ox om oj t : Nat} {M : va_W} {i : Int32} (CX : CxX p l s m args meth c cL_law 7 wsL_law RL G vwCl (tys cI cZ cQ cU cJ) nws strs A) (hN : NC s) (hX : va_X b L xs s s.heap) (hbl : b < s.heap.size) (hbA : ¬ A b) (ht : t ≤ 511) (h1 : vp_in (i + 1) L) (h2 : vp_in (i + 2) L) (h3 : vp_in (i + 3) L) (h4 : vp_in (i + 4) L) (hR : cells + 40 ≤ room_1.cells ∧ slots + 13000 ≤ room_1.slots) (hM : LI cI cZ cQ cU cJ 20000 t ox om oj M) (kk : ∀ M' : va_W, LI cI cZ cQ cU cJ 20000 (t + 1) ox om oj M' → VJ p l e room_1 s m args below meth c 7 G vwCl A Qf (cells + 40) (slots + 13000) (some ()) M' 2216 [(0, .ref b), (1, .ref ox), (2, .ref om), (3, .ref oj), (4, .int i)] []) : VJ p l e room_1 s m args below meth c 7 G vwCl A Qf cells slots (some ()) M 777 [(0, .ref b), (1, .ref ox), (2, .ref om), (3, .ref oj), (4, .int i)] [] := by
  obtain ⟨ad, Ix, Rx, rf, ra, ta, ea, wa, adk, Ik, Rk, cmk, adq, Iq, Rq, cmq, adc, Ic, Rc, cmc, adn, In, Rn, AL, AI, AR, rs, RL, adm, I, R, g, hIV, hM⟩ := hM
  obtain ⟨n9, m9, P9, d9, g9, od9, ao9, hc⟩ := hIV
  have C := CX.1
  obtain ⟨x1, hx1⟩ : ∃ z, z = xs (i + 1).toNatClampNeg := ⟨_, rfl⟩
  obtain ⟨x2, hx2⟩ : ∃ z, z = xs (i + 2).toNatClampNeg := ⟨_, rfl⟩
  obtain ⟨out, outM, f5, f6, hC, hv, hI⟩ := sim_actOf hc x1 x2
  refine VJ.perm hM ?_
  refine VJ.aload_n C 1 dL_law_777 rfl ?_
  refine VJ.sarg (j := 1) C hX hbl hbA 0 4 rfl rfl ⟨h1, hx1.symm⟩ (by decide) dL_law_778 dL_law_779 dL_law_781 dL_law_782 dL_law_783 ?_
  refine VJ.sarg (j := 2) C hX hbl hbA 0 4 rfl rfl ⟨h2, hx2.symm⟩ (by decide) dL_law_784 dL_law_785 dL_law_787 dL_law_788 dL_law_789 ?_
  refine VJ.aload_n C 3 dL_law_790 rfl ?_
  refine VJ.callW CX hN [.ref ox, .int x1, .int x2, .ref oj] (pf [xW cI cZ ox ad Ix Rx rf, aW cQ (rf 0) ra ta ea wa, pW AL AI AR] ++ jW cJ oj g) (pf [mW cI cZ om adm I R, lW cI cZ (rf 1) adk Ik Rk cmk, lW cI cZ (rf 2) adq Iq Rq cmq, lW cI cZ (rf 3) adc Ic Rc cmc, nW cI cZ (rf 4) adn In Rn, qW cU (rf 5) rs, RW cI cZ RL]) 40 13000 (c_L_actOf l CX.2.2 G cI cZ cQ cU cJ ox oj x1 x2 g (pf [xW cI cZ ox ad Ix Rx rf, aW cQ (rf 0) ra ta ea wa, pW AL AI AR]) _ (xF ad Ix rf) rfl (c_X5_actOf l CX.2.2 G cI cZ cQ cU cJ ox ad rf Ix Rx ra ta ea wa AL AI AR x1 x2 out f5) (fun _ _ h => ⟨_, h.2.1 rfl⟩) (fun k _ _ h => hn_12 (by rw [h.1]; exact hC))) (vj_pfj 11 [2, 3, 9, 0, 1, 4, 5, 6, 7, 8, 10] rfl rfl (by decide)) (vx_cwSW 4 C.1.2.2.2.2 gL_law_L_actOf rfl rfl rfl hy_L_actOf ⟨Nat.le_of_ble_eq_true rfl, Nat.le_of_ble_eq_true rfl⟩) rfl rfl (Nat.le_of_ble_eq_true rfl) dL_law_791 ⟨Nat.le_of_ble_eq_true rfl, Nat.le_of_ble_eq_true rfl⟩ hR ?_
  intro r M1 h9
  obtain ⟨g2, rfl, rfl, hg⟩ := lm_s h9 hC (by decide +kernel) hv
  refine VJ.perm (pf_back _ _ _ _) ?_
  refine VJ.istore C [(5, .int (outM.2 0)), (0, .ref b), (1, .ref ox), (2, .ref om), (3, .ref oj), (4, .int i)] dL_law_794 (Nat.le_of_ble_eq_true rfl) rfl ?_
  refine VJ.aload_n C 3 dL_law_796 rfl ?_
  refine VJ.sarg (j := 1) C hX hbl hbA 1 5 rfl rfl ⟨h1, hx1.symm⟩ (by decide) dL_law_797 dL_law_798 dL_law_800 dL_law_801 dL_law_802 ?_
  refine VJ.sarg (j := 2) C hX hbl hbA 1 5 rfl rfl ⟨h2, hx2.symm⟩ (by decide) dL_law_803 dL_law_804 dL_law_806 dL_law_807 dL_law_808 ?_
  refine VJ.callC C [.int x1, .int x2] (pf [mW cI cZ om adm I R]) (pf [jW cJ oj g2, (pf [xW cI cZ ox ad Ix Rx rf, aW cQ (rf 0) ra ta ea wa, pW AL AI AR]), lW cI cZ (rf 1) adk Ik Rk cmk, lW cI cZ (rf 2) adq Iq Rq cmq, lW cI cZ (rf 3) adc Ic Rc cmc, nW cI cZ (rf 4) adn In Rn, qW cU (rf 5) rs, RW cI cZ RL]) (pf [jW cJ oj g2, mW cI cZ om adm (outM.2) (R), (pf [xW cI cZ ox ad Ix Rx rf, aW cQ (rf 0) ra ta ea wa, pW AL AI AR]), lW cI cZ (rf 1) adk Ik Rk cmk, lW cI cZ (rf 2) adq Iq Rq cmq, lW cI cZ (rf 3) adc Ic Rc cmc, nW cI cZ (rf 4) adn In Rn, qW cU (rf 5) rs, RW cI cZ RL]) (c_X6_actOf l G cI cZ cQ cU cJ om adm I R x1 x2 outM f6) (pf_m1 _ _ _) (pf_m2 _ _ _) 0 rfl rfl (cwV 2 C.1.2.2.2.2 gL_law_X6_actOf rfl rfl rfl hyV_X6_actOf ⟨Nat.le_of_ble_eq_true rfl, Nat.le_of_ble_eq_true rfl⟩) rfl rfl (Nat.le_of_ble_eq_true rfl) dL_law_809 ⟨rfl, rfl⟩ hR ?_
  refine VJ.istore C [(6, .int (outM.1)), (5, .int (outM.2 0)), (0, .ref b), (1, .ref ox), (2, .ref om), (3, .ref oj), (4, .int i)] dL_law_812 (Nat.le_of_ble_eq_true rfl) rfl ?_
  refine law_tail 814 C hR rfl hg dL_law_814 dL_law_815 dL_law_818 dL_law_820 dL_law_825 dL_law_827 dL_law_830 dL_law_831 dL_law_832 dL_law_833 dL_law_835 dL_law_836 dL_law_837 dL_law_842 (by decide) ?_
  refine VJ.sub [2, 3, 4, 5, 6] rfl ?_
  exact kk _ ⟨ad, Ix, Rx, rf, ra, ta, ea, wa, adk, Ik, Rk, cmk, adq, Iq, Rq, cmq, adc, Ic, Rc, cmc, adn, In, Rn, AL, AI, AR, rs, RL, adm, outM.2, R, g2, hI, by rw [pf_nest]; exact vj_pfe 11 [0, 1, 2, 3, 5, 6, 7, 8, 9, 4, 10] rfl rfl (by decide)⟩

set_option maxHeartbeats 8000000 in
set_option maxRecDepth 100000 in
theorem law_asOf {p : Program} {l : Launch} {e : Env} {s : State} {m : MethodId} {args : Array Value} {below : List Frame} {meth : Method} {c : Code} {G : va_G} {cI cZ cQ cU cJ : ClassId} {A : Nat → Prop} {Qf : Unit → State → Prop} {cells slots : Nat} {b L : Nat} {xs : Nat → Int32} {ox om oj t : Nat} {M : va_W} {i : Int32} (CX : CxX p l s m args meth c cL_law 7 wsL_law RL G vwCl (tys cI cZ cQ cU cJ) nws strs A) (hN : NC s) (hX : va_X b L xs s s.heap) (hbl : b < s.heap.size) (hbA : ¬ A b) (ht : t ≤ 511) (h1 : vp_in (i + 1) L) (h2 : vp_in (i + 2) L) (h3 : vp_in (i + 3) L) (h4 : vp_in (i + 4) L) (hR : cells + 40 ≤ room_1.cells ∧ slots + 13000 ≤ room_1.slots) (hM : LI cI cZ cQ cU cJ 20000 t ox om oj M) (kk : ∀ M' : va_W, LI cI cZ cQ cU cJ 20000 (t + 1) ox om oj M' → VJ p l e room_1 s m args below meth c 7 G vwCl A Qf (cells + 40) (slots + 13000) (some ()) M' 2216 [(0, .ref b), (1, .ref ox), (2, .ref om), (3, .ref oj), (4, .int i)] []) : VJ p l e room_1 s m args below meth c 7 G vwCl A Qf cells slots (some ()) M 845 [(0, .ref b), (1, .ref ox), (2, .ref om), (3, .ref oj), (4, .int i)] [] := by
  obtain ⟨ad, Ix, Rx, rf, ra, ta, ea, wa, adk, Ik, Rk, cmk, adq, Iq, Rq, cmq, adc, Ic, Rc, cmc, adn, In, Rn, AL, AI, AR, rs, RL, adm, I, R, g, hIV, hM⟩ := hM
  obtain ⟨n9, m9, P9, d9, g9, od9, ao9, hc⟩ := hIV
  have C := CX.1
  obtain ⟨x1, hx1⟩ : ∃ z, z = xs (i + 1).toNatClampNeg := ⟨_, rfl⟩
  obtain ⟨x2, hx2⟩ : ∃ z, z = xs (i + 2).toNatClampNeg := ⟨_, rfl⟩
  obtain ⟨x3, hx3⟩ : ∃ z, z = xs (i + 3).toNatClampNeg := ⟨_, rfl⟩
  obtain ⟨x4, hx4⟩ : ∃ z, z = xs (i + 4).toNatClampNeg := ⟨_, rfl⟩
  obtain ⟨out, outM, f5, f6, hC, hv, hI⟩ := sim_asOf (Nat.le_of_ble_eq_true rfl) hc Iq Rq cmq x1 x2 x3 x4
  refine VJ.perm hM ?_
  refine VJ.aload_n C 1 dL_law_845 rfl ?_
  refine VJ.sarg (j := 1) C hX hbl hbA 0 4 rfl rfl ⟨h1, hx1.symm⟩ (by decide) dL_law_846 dL_law_847 dL_law_849 dL_law_850 dL_law_851 ?_
  refine VJ.sarg (j := 2) C hX hbl hbA 0 4 rfl rfl ⟨h2, hx2.symm⟩ (by decide) dL_law_852 dL_law_853 dL_law_855 dL_law_856 dL_law_857 ?_
  refine VJ.sarg (j := 3) C hX hbl hbA 0 4 rfl rfl ⟨h3, hx3.symm⟩ (by decide) dL_law_858 dL_law_859 dL_law_861 dL_law_862 dL_law_863 ?_
  refine VJ.sarg (j := 4) C hX hbl hbA 0 4 rfl rfl ⟨h4, hx4.symm⟩ (by decide) dL_law_864 dL_law_865 dL_law_867 dL_law_868 dL_law_869 ?_
  refine VJ.aload_n C 3 dL_law_870 rfl ?_
  refine VJ.callW CX hN [.ref ox, .int x1, .int x2, .int x3, .int x4, .ref oj] (pf [xW cI cZ ox ad Ix Rx rf, aW cQ (rf 0) ra ta ea wa, lW cI cZ (rf 2) adq Iq Rq cmq, pW AL AI AR] ++ jW cJ oj g) (pf [mW cI cZ om adm I R, lW cI cZ (rf 1) adk Ik Rk cmk, lW cI cZ (rf 3) adc Ic Rc cmc, nW cI cZ (rf 4) adn In Rn, qW cU (rf 5) rs, RW cI cZ RL]) 40 13000 (c_L_asOf l CX.2.2 G cI cZ cQ cU cJ ox oj x1 x2 x3 x4 g (pf [xW cI cZ ox ad Ix Rx rf, aW cQ (rf 0) ra ta ea wa, lW cI cZ (rf 2) adq Iq Rq cmq, pW AL AI AR]) _ (xF ad Ix rf) rfl (c_X5_asOf l CX.2.2 G cI cZ cQ cU cJ 20000 ox ad rf Ix Rx ra ta ea wa adq Iq Rq cmq AL AI AR x1 x2 x3 x4 out f5) (fun _ _ h => ⟨_, h.2.1 rfl⟩) (fun k _ _ h => hn_12 (by rw [h.1]; exact hC))) (vj_pfj 11 [2, 3, 5, 9, 0, 1, 4, 6, 7, 8, 10] rfl rfl (by decide)) (vx_cwSW 6 C.1.2.2.2.2 gL_law_L_asOf rfl rfl rfl hy_L_asOf ⟨Nat.le_of_ble_eq_true rfl, Nat.le_of_ble_eq_true rfl⟩) rfl rfl (Nat.le_of_ble_eq_true rfl) dL_law_871 ⟨Nat.le_of_ble_eq_true rfl, Nat.le_of_ble_eq_true rfl⟩ hR ?_
  intro r M1 h9
  obtain ⟨g2, rfl, rfl, hg⟩ := lm_s h9 hC (by decide +kernel) hv
  refine VJ.perm (pf_back _ _ _ _) ?_
  refine VJ.istore C [(5, .int (outM.2.1 0)), (0, .ref b), (1, .ref ox), (2, .ref om), (3, .ref oj), (4, .int i)] dL_law_874 (Nat.le_of_ble_eq_true rfl) rfl ?_
  refine VJ.aload_n C 3 dL_law_876 rfl ?_
  refine VJ.sarg (j := 1) C hX hbl hbA 1 5 rfl rfl ⟨h1, hx1.symm⟩ (by decide) dL_law_877 dL_law_878 dL_law_880 dL_law_881 dL_law_882 ?_
  refine VJ.sarg (j := 2) C hX hbl hbA 1 5 rfl rfl ⟨h2, hx2.symm⟩ (by decide) dL_law_883 dL_law_884 dL_law_886 dL_law_887 dL_law_888 ?_
  refine VJ.sarg (j := 3) C hX hbl hbA 1 5 rfl rfl ⟨h3, hx3.symm⟩ (by decide) dL_law_889 dL_law_890 dL_law_892 dL_law_893 dL_law_894 ?_
  refine VJ.sarg (j := 4) C hX hbl hbA 1 5 rfl rfl ⟨h4, hx4.symm⟩ (by decide) dL_law_895 dL_law_896 dL_law_898 dL_law_899 dL_law_900 ?_
  refine VJ.callC C [.int x1, .int x2, .int x3, .int x4] (pf [mW cI cZ om adm I R]) (pf [jW cJ oj g2, (pf [xW cI cZ ox ad Ix Rx rf, aW cQ (rf 0) ra ta ea wa, lW cI cZ (rf 2) adq out.2.2.1 out.2.2.2.1 out.2.2.2.2, pW AL AI AR]), lW cI cZ (rf 1) adk Ik Rk cmk, lW cI cZ (rf 3) adc Ic Rc cmc, nW cI cZ (rf 4) adn In Rn, qW cU (rf 5) rs, RW cI cZ RL]) (pf [jW cJ oj g2, mW cI cZ om adm (outM.2.1) (outM.2.2), (pf [xW cI cZ ox ad Ix Rx rf, aW cQ (rf 0) ra ta ea wa, lW cI cZ (rf 2) adq out.2.2.1 out.2.2.2.1 out.2.2.2.2, pW AL AI AR]), lW cI cZ (rf 1) adk Ik Rk cmk, lW cI cZ (rf 3) adc Ic Rc cmc, nW cI cZ (rf 4) adn In Rn, qW cU (rf 5) rs, RW cI cZ RL]) (c_X6_asOf l G cI cZ cQ cU cJ 20000 om adm I R x1 x2 x3 x4 outM f6) (pf_m1 _ _ _) (pf_m2 _ _ _) 0 rfl rfl (cwV 4 C.1.2.2.2.2 gL_law_X6_asOf rfl rfl rfl hyV_X6_asOf ⟨Nat.le_of_ble_eq_true rfl, Nat.le_of_ble_eq_true rfl⟩) rfl rfl (Nat.le_of_ble_eq_true rfl) dL_law_901 ⟨rfl, rfl⟩ hR ?_
  refine VJ.istore C [(6, .int (outM.1)), (5, .int (outM.2.1 0)), (0, .ref b), (1, .ref ox), (2, .ref om), (3, .ref oj), (4, .int i)] dL_law_904 (Nat.le_of_ble_eq_true rfl) rfl ?_
  refine law_tail 906 C hR rfl hg dL_law_906 dL_law_907 dL_law_910 dL_law_912 dL_law_917 dL_law_919 dL_law_922 dL_law_923 dL_law_924 dL_law_925 dL_law_927 dL_law_928 dL_law_929 dL_law_934 (by decide) ?_
  refine VJ.sub [2, 3, 4, 5, 6] rfl ?_
  exact kk _ ⟨ad, Ix, Rx, rf, ra, ta, ea, wa, adk, Ik, Rk, cmk, adq, out.2.2.1, out.2.2.2.1, out.2.2.2.2, adc, Ic, Rc, cmc, adn, In, Rn, AL, AI, AR, rs, RL, adm, outM.2.1, outM.2.2, g2, hI, by rw [pf_nest]; exact vj_pfe 11 [0, 1, 2, 3, 6, 4, 7, 8, 9, 5, 10] rfl rfl (by decide)⟩

set_option maxHeartbeats 8000000 in
set_option maxRecDepth 100000 in
theorem law_now {p : Program} {l : Launch} {e : Env} {s : State} {m : MethodId} {args : Array Value} {below : List Frame} {meth : Method} {c : Code} {G : va_G} {cI cZ cQ cU cJ : ClassId} {A : Nat → Prop} {Qf : Unit → State → Prop} {cells slots : Nat} {b L : Nat} {xs : Nat → Int32} {ox om oj t : Nat} {M : va_W} {i : Int32} (CX : CxX p l s m args meth c cL_law 7 wsL_law RL G vwCl (tys cI cZ cQ cU cJ) nws strs A) (hN : NC s) (hX : va_X b L xs s s.heap) (hbl : b < s.heap.size) (hbA : ¬ A b) (ht : t ≤ 511) (h1 : vp_in (i + 1) L) (h2 : vp_in (i + 2) L) (h3 : vp_in (i + 3) L) (h4 : vp_in (i + 4) L) (hR : cells + 40 ≤ room_1.cells ∧ slots + 13000 ≤ room_1.slots) (hM : LI cI cZ cQ cU cJ 20000 t ox om oj M) (kk : ∀ M' : va_W, LI cI cZ cQ cU cJ 20000 (t + 1) ox om oj M' → VJ p l e room_1 s m args below meth c 7 G vwCl A Qf (cells + 40) (slots + 13000) (some ()) M' 2216 [(0, .ref b), (1, .ref ox), (2, .ref om), (3, .ref oj), (4, .int i)] []) : VJ p l e room_1 s m args below meth c 7 G vwCl A Qf cells slots (some ()) M 937 [(0, .ref b), (1, .ref ox), (2, .ref om), (3, .ref oj), (4, .int i)] [] := by
  obtain ⟨ad, Ix, Rx, rf, ra, ta, ea, wa, adk, Ik, Rk, cmk, adq, Iq, Rq, cmq, adc, Ic, Rc, cmc, adn, In, Rn, AL, AI, AR, rs, RL, adm, I, R, g, hIV, hM⟩ := hM
  obtain ⟨n9, m9, P9, d9, g9, od9, ao9, hc⟩ := hIV
  have C := CX.1
  obtain ⟨x1, hx1⟩ : ∃ z, z = xs (i + 1).toNatClampNeg := ⟨_, rfl⟩
  obtain ⟨x2, hx2⟩ : ∃ z, z = xs (i + 2).toNatClampNeg := ⟨_, rfl⟩
  obtain ⟨out, outM, f5, f6, hC, hv, hI⟩ := sim_now (Nat.le_of_ble_eq_true rfl) hc x1 x2
  refine VJ.perm hM ?_
  refine VJ.aload_n C 1 dL_law_937 rfl ?_
  refine VJ.sarg (j := 1) C hX hbl hbA 0 4 rfl rfl ⟨h1, hx1.symm⟩ (by decide) dL_law_938 dL_law_939 dL_law_941 dL_law_942 dL_law_943 ?_
  refine VJ.sarg (j := 2) C hX hbl hbA 0 4 rfl rfl ⟨h2, hx2.symm⟩ (by decide) dL_law_944 dL_law_945 dL_law_947 dL_law_948 dL_law_949 ?_
  refine VJ.aload_n C 3 dL_law_950 rfl ?_
  refine VJ.callW CX hN [.ref ox, .int x1, .int x2, .ref oj] (pf [xW cI cZ ox ad Ix Rx rf, lW cI cZ (rf 1) adk Ik Rk cmk] ++ jW cJ oj g) (pf [mW cI cZ om adm I R, aW cQ (rf 0) ra ta ea wa, lW cI cZ (rf 2) adq Iq Rq cmq, lW cI cZ (rf 3) adc Ic Rc cmc, nW cI cZ (rf 4) adn In Rn, qW cU (rf 5) rs, pW AL AI AR, RW cI cZ RL]) 40 13000 (c_L_now l CX.2.2 G cI cZ cQ cU cJ ox oj x1 x2 g (pf [xW cI cZ ox ad Ix Rx rf, lW cI cZ (rf 1) adk Ik Rk cmk]) _ (xF ad Ix rf) rfl (c_X5_now l CX.2.2 G cI cZ cQ cU cJ 20000 ox ad rf Ix Rx adk Ik Rk cmk x1 x2 out f5) (fun _ _ h => ⟨_, h.2.1 rfl⟩) (fun k _ _ h => hn_12 (by rw [h.1]; exact hC))) (vj_pfj 11 [2, 4, 0, 1, 3, 5, 6, 7, 8, 9, 10] rfl rfl (by decide)) (vx_cwSW 4 C.1.2.2.2.2 gL_law_L_now rfl rfl rfl hy_L_now ⟨Nat.le_of_ble_eq_true rfl, Nat.le_of_ble_eq_true rfl⟩) rfl rfl (Nat.le_of_ble_eq_true rfl) dL_law_951 ⟨Nat.le_of_ble_eq_true rfl, Nat.le_of_ble_eq_true rfl⟩ hR ?_
  intro r M1 h9
  obtain ⟨g2, rfl, rfl, hg⟩ := lm_s h9 hC (by decide +kernel) hv
  refine VJ.perm (pf_back _ _ _ _) ?_
  refine VJ.istore C [(5, .int (outM.2.1 0)), (0, .ref b), (1, .ref ox), (2, .ref om), (3, .ref oj), (4, .int i)] dL_law_954 (Nat.le_of_ble_eq_true rfl) rfl ?_
  refine VJ.aload_n C 3 dL_law_956 rfl ?_
  refine VJ.sarg (j := 1) C hX hbl hbA 1 5 rfl rfl ⟨h1, hx1.symm⟩ (by decide) dL_law_957 dL_law_958 dL_law_960 dL_law_961 dL_law_962 ?_
  refine VJ.sarg (j := 2) C hX hbl hbA 1 5 rfl rfl ⟨h2, hx2.symm⟩ (by decide) dL_law_963 dL_law_964 dL_law_966 dL_law_967 dL_law_968 ?_
  refine VJ.callC C [.int x1, .int x2] (pf [mW cI cZ om adm I R]) (pf [jW cJ oj g2, (pf [xW cI cZ ox ad Ix Rx rf, lW cI cZ (rf 1) adk Ik out.2.2 cmk]), aW cQ (rf 0) ra ta ea wa, lW cI cZ (rf 2) adq Iq Rq cmq, lW cI cZ (rf 3) adc Ic Rc cmc, nW cI cZ (rf 4) adn In Rn, qW cU (rf 5) rs, pW AL AI AR, RW cI cZ RL]) (pf [jW cJ oj g2, mW cI cZ om adm (outM.2.1) (outM.2.2), (pf [xW cI cZ ox ad Ix Rx rf, lW cI cZ (rf 1) adk Ik out.2.2 cmk]), aW cQ (rf 0) ra ta ea wa, lW cI cZ (rf 2) adq Iq Rq cmq, lW cI cZ (rf 3) adc Ic Rc cmc, nW cI cZ (rf 4) adn In Rn, qW cU (rf 5) rs, pW AL AI AR, RW cI cZ RL]) (c_X6_now l G cI cZ cQ cU cJ 20000 om adm I R x1 x2 outM f6) (pf_m1 _ _ _) (pf_m2 _ _ _) 0 rfl rfl (cwV 2 C.1.2.2.2.2 gL_law_X6_now rfl rfl rfl hyV_X6_now ⟨Nat.le_of_ble_eq_true rfl, Nat.le_of_ble_eq_true rfl⟩) rfl rfl (Nat.le_of_ble_eq_true rfl) dL_law_969 ⟨rfl, rfl⟩ hR ?_
  refine VJ.istore C [(6, .int (outM.1)), (5, .int (outM.2.1 0)), (0, .ref b), (1, .ref ox), (2, .ref om), (3, .ref oj), (4, .int i)] dL_law_972 (Nat.le_of_ble_eq_true rfl) rfl ?_
  refine law_tail 974 C hR rfl hg dL_law_974 dL_law_975 dL_law_978 dL_law_980 dL_law_985 dL_law_987 dL_law_990 dL_law_991 dL_law_992 dL_law_993 dL_law_995 dL_law_996 dL_law_997 dL_law_1002 (by decide) ?_
  refine VJ.sub [2, 3, 4, 5, 6] rfl ?_
  exact kk _ ⟨ad, Ix, Rx, rf, ra, ta, ea, wa, adk, Ik, out.2.2, cmk, adq, Iq, Rq, cmq, adc, Ic, Rc, cmc, adn, In, Rn, AL, AI, AR, rs, RL, adm, outM.2.1, outM.2.2, g2, hI, by rw [pf_nest]; exact vj_pfe 11 [0, 1, 2, 4, 3, 5, 6, 7, 8, 9, 10] rfl rfl (by decide)⟩

set_option maxHeartbeats 8000000 in
set_option maxRecDepth 100000 in
theorem law_households {p : Program} {l : Launch} {e : Env} {s : State} {m : MethodId} {args : Array Value} {below : List Frame} {meth : Method} {c : Code} {G : va_G} {cI cZ cQ cU cJ : ClassId} {A : Nat → Prop} {Qf : Unit → State → Prop} {cells slots : Nat} {b L : Nat} {xs : Nat → Int32} {ox om oj t : Nat} {M : va_W} {i : Int32} (CX : CxX p l s m args meth c cL_law 7 wsL_law RL G vwCl (tys cI cZ cQ cU cJ) nws strs A) (hN : NC s) (hX : va_X b L xs s s.heap) (hbl : b < s.heap.size) (hbA : ¬ A b) (ht : t ≤ 511) (h1 : vp_in (i + 1) L) (h2 : vp_in (i + 2) L) (h3 : vp_in (i + 3) L) (h4 : vp_in (i + 4) L) (hR : cells + 40 ≤ room_1.cells ∧ slots + 13000 ≤ room_1.slots) (hM : LI cI cZ cQ cU cJ 20000 t ox om oj M) (kk : ∀ M' : va_W, LI cI cZ cQ cU cJ 20000 (t + 1) ox om oj M' → VJ p l e room_1 s m args below meth c 7 G vwCl A Qf (cells + 40) (slots + 13000) (some ()) M' 2216 [(0, .ref b), (1, .ref ox), (2, .ref om), (3, .ref oj), (4, .int i)] []) : VJ p l e room_1 s m args below meth c 7 G vwCl A Qf cells slots (some ()) M 1005 [(0, .ref b), (1, .ref ox), (2, .ref om), (3, .ref oj), (4, .int i)] [] := by
  obtain ⟨ad, Ix, Rx, rf, ra, ta, ea, wa, adk, Ik, Rk, cmk, adq, Iq, Rq, cmq, adc, Ic, Rc, cmc, adn, In, Rn, AL, AI, AR, rs, RL, adm, I, R, g, hIV, hM⟩ := hM
  obtain ⟨n9, m9, P9, d9, g9, od9, ao9, hc⟩ := hIV
  have C := CX.1
  obtain ⟨x1, hx1⟩ : ∃ z, z = xs (i + 1).toNatClampNeg := ⟨_, rfl⟩
  obtain ⟨x2, hx2⟩ : ∃ z, z = xs (i + 2).toNatClampNeg := ⟨_, rfl⟩
  obtain ⟨x3, hx3⟩ : ∃ z, z = xs (i + 3).toNatClampNeg := ⟨_, rfl⟩
  obtain ⟨out, outM, f5, f6, hC, hv, hI⟩ := sim_households (Nat.le_of_ble_eq_true rfl) hc Iq Rq cmq x1 x2 x3
  refine VJ.perm hM ?_
  refine VJ.aload_n C 1 dL_law_1005 rfl ?_
  refine VJ.sarg (j := 1) C hX hbl hbA 0 4 rfl rfl ⟨h1, hx1.symm⟩ (by decide) dL_law_1006 dL_law_1007 dL_law_1009 dL_law_1010 dL_law_1011 ?_
  refine VJ.sarg (j := 2) C hX hbl hbA 0 4 rfl rfl ⟨h2, hx2.symm⟩ (by decide) dL_law_1012 dL_law_1013 dL_law_1015 dL_law_1016 dL_law_1017 ?_
  refine VJ.sarg (j := 3) C hX hbl hbA 0 4 rfl rfl ⟨h3, hx3.symm⟩ (by decide) dL_law_1018 dL_law_1019 dL_law_1021 dL_law_1022 dL_law_1023 ?_
  refine VJ.aload_n C 3 dL_law_1024 rfl ?_
  refine VJ.callW CX hN [.ref ox, .int x1, .int x2, .int x3, .ref oj] (pf [xW cI cZ ox ad Ix Rx rf, aW cQ (rf 0) ra ta ea wa, lW cI cZ (rf 2) adq Iq Rq cmq, pW AL AI AR] ++ jW cJ oj g) (pf [mW cI cZ om adm I R, lW cI cZ (rf 1) adk Ik Rk cmk, lW cI cZ (rf 3) adc Ic Rc cmc, nW cI cZ (rf 4) adn In Rn, qW cU (rf 5) rs, RW cI cZ RL]) 40 13000 (c_L_households l CX.2.2 G cI cZ cQ cU cJ ox oj x1 x2 x3 g (pf [xW cI cZ ox ad Ix Rx rf, aW cQ (rf 0) ra ta ea wa, lW cI cZ (rf 2) adq Iq Rq cmq, pW AL AI AR]) _ (xF ad Ix rf) rfl (c_X5_households l CX.2.2 G cI cZ cQ cU cJ 20000 ox ad rf Ix Rx ra ta ea wa adq Iq Rq cmq AL AI AR x1 x2 x3 out f5) (fun _ _ h => ⟨_, h.2.1 rfl⟩) (fun k _ _ h => hn_12 (by rw [h.1]; exact hC))) (vj_pfj 11 [2, 3, 5, 9, 0, 1, 4, 6, 7, 8, 10] rfl rfl (by decide)) (vx_cwSW 5 C.1.2.2.2.2 gL_law_L_households rfl rfl rfl hy_L_households ⟨Nat.le_of_ble_eq_true rfl, Nat.le_of_ble_eq_true rfl⟩) rfl rfl (Nat.le_of_ble_eq_true rfl) dL_law_1025 ⟨Nat.le_of_ble_eq_true rfl, Nat.le_of_ble_eq_true rfl⟩ hR ?_
  intro r M1 h9
  obtain ⟨g2, rfl, rfl, hg⟩ := lm_s h9 hC (by decide +kernel) hv
  refine VJ.perm (pf_back _ _ _ _) ?_
  refine VJ.istore C [(5, .int (outM.2.1 0)), (0, .ref b), (1, .ref ox), (2, .ref om), (3, .ref oj), (4, .int i)] dL_law_1028 (Nat.le_of_ble_eq_true rfl) rfl ?_
  refine VJ.aload_n C 3 dL_law_1030 rfl ?_
  refine VJ.sarg (j := 1) C hX hbl hbA 1 5 rfl rfl ⟨h1, hx1.symm⟩ (by decide) dL_law_1031 dL_law_1032 dL_law_1034 dL_law_1035 dL_law_1036 ?_
  refine VJ.sarg (j := 2) C hX hbl hbA 1 5 rfl rfl ⟨h2, hx2.symm⟩ (by decide) dL_law_1037 dL_law_1038 dL_law_1040 dL_law_1041 dL_law_1042 ?_
  refine VJ.sarg (j := 3) C hX hbl hbA 1 5 rfl rfl ⟨h3, hx3.symm⟩ (by decide) dL_law_1043 dL_law_1044 dL_law_1046 dL_law_1047 dL_law_1048 ?_
  refine VJ.callC C [.int x1, .int x2, .int x3] (pf [mW cI cZ om adm I R]) (pf [jW cJ oj g2, (pf [xW cI cZ ox ad Ix Rx rf, aW cQ (rf 0) ra ta ea wa, lW cI cZ (rf 2) adq out.2.2.1 out.2.2.2.1 out.2.2.2.2, pW AL AI AR]), lW cI cZ (rf 1) adk Ik Rk cmk, lW cI cZ (rf 3) adc Ic Rc cmc, nW cI cZ (rf 4) adn In Rn, qW cU (rf 5) rs, RW cI cZ RL]) (pf [jW cJ oj g2, mW cI cZ om adm (outM.2.1) (outM.2.2), (pf [xW cI cZ ox ad Ix Rx rf, aW cQ (rf 0) ra ta ea wa, lW cI cZ (rf 2) adq out.2.2.1 out.2.2.2.1 out.2.2.2.2, pW AL AI AR]), lW cI cZ (rf 1) adk Ik Rk cmk, lW cI cZ (rf 3) adc Ic Rc cmc, nW cI cZ (rf 4) adn In Rn, qW cU (rf 5) rs, RW cI cZ RL]) (c_X6_households l G cI cZ cQ cU cJ 20000 om adm I R x1 x2 x3 outM f6) (pf_m1 _ _ _) (pf_m2 _ _ _) 0 rfl rfl (cwV 3 C.1.2.2.2.2 gL_law_X6_households rfl rfl rfl hyV_X6_households ⟨Nat.le_of_ble_eq_true rfl, Nat.le_of_ble_eq_true rfl⟩) rfl rfl (Nat.le_of_ble_eq_true rfl) dL_law_1049 ⟨rfl, rfl⟩ hR ?_
  refine VJ.istore C [(6, .int (outM.1)), (5, .int (outM.2.1 0)), (0, .ref b), (1, .ref ox), (2, .ref om), (3, .ref oj), (4, .int i)] dL_law_1052 (Nat.le_of_ble_eq_true rfl) rfl ?_
  refine law_tail 1054 C hR rfl hg dL_law_1054 dL_law_1055 dL_law_1058 dL_law_1060 dL_law_1065 dL_law_1067 dL_law_1070 dL_law_1071 dL_law_1072 dL_law_1073 dL_law_1075 dL_law_1076 dL_law_1077 dL_law_1082 (by decide) ?_
  refine VJ.sub [2, 3, 4, 5, 6] rfl ?_
  exact kk _ ⟨ad, Ix, Rx, rf, ra, ta, ea, wa, adk, Ik, Rk, cmk, adq, out.2.2.1, out.2.2.2.1, out.2.2.2.2, adc, Ic, Rc, cmc, adn, In, Rn, AL, AI, AR, rs, RL, adm, outM.2.1, outM.2.2, g2, hI, by rw [pf_nest]; exact vj_pfe 11 [0, 1, 2, 3, 6, 4, 7, 8, 9, 5, 10] rfl rfl (by decide)⟩

set_option maxHeartbeats 8000000 in
set_option maxRecDepth 100000 in
theorem law_money {p : Program} {l : Launch} {e : Env} {s : State} {m : MethodId} {args : Array Value} {below : List Frame} {meth : Method} {c : Code} {G : va_G} {cI cZ cQ cU cJ : ClassId} {A : Nat → Prop} {Qf : Unit → State → Prop} {cells slots : Nat} {b L : Nat} {xs : Nat → Int32} {ox om oj t : Nat} {M : va_W} {i : Int32} (CX : CxX p l s m args meth c cL_law 7 wsL_law RL G vwCl (tys cI cZ cQ cU cJ) nws strs A) (hN : NC s) (hX : va_X b L xs s s.heap) (hbl : b < s.heap.size) (hbA : ¬ A b) (ht : t ≤ 511) (h1 : vp_in (i + 1) L) (h2 : vp_in (i + 2) L) (h3 : vp_in (i + 3) L) (h4 : vp_in (i + 4) L) (hR : cells + 40 ≤ room_1.cells ∧ slots + 13000 ≤ room_1.slots) (hM : LI cI cZ cQ cU cJ 20000 t ox om oj M) (kk : ∀ M' : va_W, LI cI cZ cQ cU cJ 20000 (t + 1) ox om oj M' → VJ p l e room_1 s m args below meth c 7 G vwCl A Qf (cells + 40) (slots + 13000) (some ()) M' 2216 [(0, .ref b), (1, .ref ox), (2, .ref om), (3, .ref oj), (4, .int i)] []) : VJ p l e room_1 s m args below meth c 7 G vwCl A Qf cells slots (some ()) M 1085 [(0, .ref b), (1, .ref ox), (2, .ref om), (3, .ref oj), (4, .int i)] [] := by
  obtain ⟨ad, Ix, Rx, rf, ra, ta, ea, wa, adk, Ik, Rk, cmk, adq, Iq, Rq, cmq, adc, Ic, Rc, cmc, adn, In, Rn, AL, AI, AR, rs, RL, adm, I, R, g, hIV, hM⟩ := hM
  obtain ⟨n9, m9, P9, d9, g9, od9, ao9, hc⟩ := hIV
  have C := CX.1
  obtain ⟨x1, hx1⟩ : ∃ z, z = xs (i + 1).toNatClampNeg := ⟨_, rfl⟩
  obtain ⟨x2, hx2⟩ : ∃ z, z = xs (i + 2).toNatClampNeg := ⟨_, rfl⟩
  obtain ⟨x3, hx3⟩ : ∃ z, z = xs (i + 3).toNatClampNeg := ⟨_, rfl⟩
  obtain ⟨x4, hx4⟩ : ∃ z, z = xs (i + 4).toNatClampNeg := ⟨_, rfl⟩
  obtain ⟨out, outM, f5, f6, hC, hv, hI⟩ := sim_money (Nat.le_of_ble_eq_true rfl) hc Iq Rq cmq x1 x2 x3 x4
  refine VJ.perm hM ?_
  refine VJ.aload_n C 1 dL_law_1085 rfl ?_
  refine VJ.sarg (j := 1) C hX hbl hbA 0 4 rfl rfl ⟨h1, hx1.symm⟩ (by decide) dL_law_1086 dL_law_1087 dL_law_1089 dL_law_1090 dL_law_1091 ?_
  refine VJ.sarg (j := 2) C hX hbl hbA 0 4 rfl rfl ⟨h2, hx2.symm⟩ (by decide) dL_law_1092 dL_law_1093 dL_law_1095 dL_law_1096 dL_law_1097 ?_
  refine VJ.sarg (j := 3) C hX hbl hbA 0 4 rfl rfl ⟨h3, hx3.symm⟩ (by decide) dL_law_1098 dL_law_1099 dL_law_1101 dL_law_1102 dL_law_1103 ?_
  refine VJ.sarg (j := 4) C hX hbl hbA 0 4 rfl rfl ⟨h4, hx4.symm⟩ (by decide) dL_law_1104 dL_law_1105 dL_law_1107 dL_law_1108 dL_law_1109 ?_
  refine VJ.aload_n C 3 dL_law_1110 rfl ?_
  refine VJ.callW CX hN [.ref ox, .int x1, .int x2, .int x3, .int x4, .ref oj] (pf [xW cI cZ ox ad Ix Rx rf, aW cQ (rf 0) ra ta ea wa, lW cI cZ (rf 2) adq Iq Rq cmq, pW AL AI AR] ++ jW cJ oj g) (pf [mW cI cZ om adm I R, lW cI cZ (rf 1) adk Ik Rk cmk, lW cI cZ (rf 3) adc Ic Rc cmc, nW cI cZ (rf 4) adn In Rn, qW cU (rf 5) rs, RW cI cZ RL]) 40 13000 (c_L_money l CX.2.2 G cI cZ cQ cU cJ ox oj x1 x2 x3 x4 g (pf [xW cI cZ ox ad Ix Rx rf, aW cQ (rf 0) ra ta ea wa, lW cI cZ (rf 2) adq Iq Rq cmq, pW AL AI AR]) _ (xF ad Ix rf) rfl (c_X5_money l CX.2.2 G cI cZ cQ cU cJ 20000 ox ad rf Ix Rx ra ta ea wa adq Iq Rq cmq AL AI AR x1 x2 x3 x4 out f5) (fun _ _ h => ⟨_, h.2.1 rfl⟩) (fun k _ _ h => hn_12 (by rw [h.1]; exact hC))) (vj_pfj 11 [2, 3, 5, 9, 0, 1, 4, 6, 7, 8, 10] rfl rfl (by decide)) (vx_cwSW 6 C.1.2.2.2.2 gL_law_L_money rfl rfl rfl hy_L_money ⟨Nat.le_of_ble_eq_true rfl, Nat.le_of_ble_eq_true rfl⟩) rfl rfl (Nat.le_of_ble_eq_true rfl) dL_law_1111 ⟨Nat.le_of_ble_eq_true rfl, Nat.le_of_ble_eq_true rfl⟩ hR ?_
  intro r M1 h9
  obtain ⟨g2, rfl, rfl, hg⟩ := lm_s h9 hC (by decide +kernel) hv
  refine VJ.perm (pf_back _ _ _ _) ?_
  refine VJ.istore C [(5, .int (outM.2.1 0)), (0, .ref b), (1, .ref ox), (2, .ref om), (3, .ref oj), (4, .int i)] dL_law_1114 (Nat.le_of_ble_eq_true rfl) rfl ?_
  refine VJ.aload_n C 3 dL_law_1116 rfl ?_
  refine VJ.sarg (j := 1) C hX hbl hbA 1 5 rfl rfl ⟨h1, hx1.symm⟩ (by decide) dL_law_1117 dL_law_1118 dL_law_1120 dL_law_1121 dL_law_1122 ?_
  refine VJ.sarg (j := 2) C hX hbl hbA 1 5 rfl rfl ⟨h2, hx2.symm⟩ (by decide) dL_law_1123 dL_law_1124 dL_law_1126 dL_law_1127 dL_law_1128 ?_
  refine VJ.sarg (j := 3) C hX hbl hbA 1 5 rfl rfl ⟨h3, hx3.symm⟩ (by decide) dL_law_1129 dL_law_1130 dL_law_1132 dL_law_1133 dL_law_1134 ?_
  refine VJ.sarg (j := 4) C hX hbl hbA 1 5 rfl rfl ⟨h4, hx4.symm⟩ (by decide) dL_law_1135 dL_law_1136 dL_law_1138 dL_law_1139 dL_law_1140 ?_
  refine VJ.callC C [.int x1, .int x2, .int x3, .int x4] (pf [mW cI cZ om adm I R]) (pf [jW cJ oj g2, (pf [xW cI cZ ox ad Ix Rx rf, aW cQ (rf 0) ra ta ea wa, lW cI cZ (rf 2) adq out.2.2.1 out.2.2.2.1 out.2.2.2.2, pW AL AI AR]), lW cI cZ (rf 1) adk Ik Rk cmk, lW cI cZ (rf 3) adc Ic Rc cmc, nW cI cZ (rf 4) adn In Rn, qW cU (rf 5) rs, RW cI cZ RL]) (pf [jW cJ oj g2, mW cI cZ om adm (outM.2.1) (outM.2.2), (pf [xW cI cZ ox ad Ix Rx rf, aW cQ (rf 0) ra ta ea wa, lW cI cZ (rf 2) adq out.2.2.1 out.2.2.2.1 out.2.2.2.2, pW AL AI AR]), lW cI cZ (rf 1) adk Ik Rk cmk, lW cI cZ (rf 3) adc Ic Rc cmc, nW cI cZ (rf 4) adn In Rn, qW cU (rf 5) rs, RW cI cZ RL]) (c_X6_money l G cI cZ cQ cU cJ 20000 om adm I R x1 x2 x3 x4 outM f6) (pf_m1 _ _ _) (pf_m2 _ _ _) 0 rfl rfl (cwV 4 C.1.2.2.2.2 gL_law_X6_money rfl rfl rfl hyV_X6_money ⟨Nat.le_of_ble_eq_true rfl, Nat.le_of_ble_eq_true rfl⟩) rfl rfl (Nat.le_of_ble_eq_true rfl) dL_law_1141 ⟨rfl, rfl⟩ hR ?_
  refine VJ.istore C [(6, .int (outM.1)), (5, .int (outM.2.1 0)), (0, .ref b), (1, .ref ox), (2, .ref om), (3, .ref oj), (4, .int i)] dL_law_1144 (Nat.le_of_ble_eq_true rfl) rfl ?_
  refine law_tail 1146 C hR rfl hg dL_law_1146 dL_law_1147 dL_law_1150 dL_law_1152 dL_law_1157 dL_law_1159 dL_law_1162 dL_law_1163 dL_law_1164 dL_law_1165 dL_law_1167 dL_law_1168 dL_law_1169 dL_law_1174 (by decide) ?_
  refine VJ.sub [2, 3, 4, 5, 6] rfl ?_
  exact kk _ ⟨ad, Ix, Rx, rf, ra, ta, ea, wa, adk, Ik, Rk, cmk, adq, out.2.2.1, out.2.2.2.1, out.2.2.2.2, adc, Ic, Rc, cmc, adn, In, Rn, AL, AI, AR, rs, RL, adm, outM.2.1, outM.2.2, g2, hI, by rw [pf_nest]; exact vj_pfe 11 [0, 1, 2, 3, 6, 4, 7, 8, 9, 5, 10] rfl rfl (by decide)⟩

set_option maxHeartbeats 8000000 in
set_option maxRecDepth 100000 in
theorem law_changed {p : Program} {l : Launch} {e : Env} {s : State} {m : MethodId} {args : Array Value} {below : List Frame} {meth : Method} {c : Code} {G : va_G} {cI cZ cQ cU cJ : ClassId} {A : Nat → Prop} {Qf : Unit → State → Prop} {cells slots : Nat} {b L : Nat} {xs : Nat → Int32} {ox om oj t : Nat} {M : va_W} {i : Int32} (CX : CxX p l s m args meth c cL_law 7 wsL_law RL G vwCl (tys cI cZ cQ cU cJ) nws strs A) (hN : NC s) (hX : va_X b L xs s s.heap) (hbl : b < s.heap.size) (hbA : ¬ A b) (ht : t ≤ 511) (h1 : vp_in (i + 1) L) (h2 : vp_in (i + 2) L) (h3 : vp_in (i + 3) L) (h4 : vp_in (i + 4) L) (hR : cells + 40 ≤ room_1.cells ∧ slots + 13000 ≤ room_1.slots) (hM : LI cI cZ cQ cU cJ 20000 t ox om oj M) (kk : ∀ M' : va_W, LI cI cZ cQ cU cJ 20000 (t + 1) ox om oj M' → VJ p l e room_1 s m args below meth c 7 G vwCl A Qf (cells + 40) (slots + 13000) (some ()) M' 2216 [(0, .ref b), (1, .ref ox), (2, .ref om), (3, .ref oj), (4, .int i)] []) : VJ p l e room_1 s m args below meth c 7 G vwCl A Qf cells slots (some ()) M 1177 [(0, .ref b), (1, .ref ox), (2, .ref om), (3, .ref oj), (4, .int i)] [] := by
  obtain ⟨ad, Ix, Rx, rf, ra, ta, ea, wa, adk, Ik, Rk, cmk, adq, Iq, Rq, cmq, adc, Ic, Rc, cmc, adn, In, Rn, AL, AI, AR, rs, RL, adm, I, R, g, hIV, hM⟩ := hM
  obtain ⟨n9, m9, P9, d9, g9, od9, ao9, hc⟩ := hIV
  have C := CX.1
  obtain ⟨x1, hx1⟩ : ∃ z, z = xs (i + 1).toNatClampNeg := ⟨_, rfl⟩
  obtain ⟨x2, hx2⟩ : ∃ z, z = xs (i + 2).toNatClampNeg := ⟨_, rfl⟩
  obtain ⟨x3, hx3⟩ : ∃ z, z = xs (i + 3).toNatClampNeg := ⟨_, rfl⟩
  obtain ⟨out, outM, f5, f6, hC, hv, hI⟩ := sim_changed (Nat.le_of_ble_eq_true rfl) hc Iq Rq cmq Ic Rc cmc x1 x2 x3
  refine VJ.perm hM ?_
  refine VJ.aload_n C 1 dL_law_1177 rfl ?_
  refine VJ.sarg (j := 1) C hX hbl hbA 0 4 rfl rfl ⟨h1, hx1.symm⟩ (by decide) dL_law_1178 dL_law_1179 dL_law_1181 dL_law_1182 dL_law_1183 ?_
  refine VJ.sarg (j := 2) C hX hbl hbA 0 4 rfl rfl ⟨h2, hx2.symm⟩ (by decide) dL_law_1184 dL_law_1185 dL_law_1187 dL_law_1188 dL_law_1189 ?_
  refine VJ.sarg (j := 3) C hX hbl hbA 0 4 rfl rfl ⟨h3, hx3.symm⟩ (by decide) dL_law_1190 dL_law_1191 dL_law_1193 dL_law_1194 dL_law_1195 ?_
  refine VJ.aload_n C 3 dL_law_1196 rfl ?_
  refine VJ.callW CX hN [.ref ox, .int x1, .int x2, .int x3, .ref oj] (pf [xW cI cZ ox ad Ix Rx rf, aW cQ (rf 0) ra ta ea wa, lW cI cZ (rf 2) adq Iq Rq cmq, lW cI cZ (rf 3) adc Ic Rc cmc, pW AL AI AR] ++ jW cJ oj g) (pf [mW cI cZ om adm I R, lW cI cZ (rf 1) adk Ik Rk cmk, nW cI cZ (rf 4) adn In Rn, qW cU (rf 5) rs, RW cI cZ RL]) 40 13000 (c_L_changed l CX.2.2 G cI cZ cQ cU cJ ox oj x1 x2 x3 g (pf [xW cI cZ ox ad Ix Rx rf, aW cQ (rf 0) ra ta ea wa, lW cI cZ (rf 2) adq Iq Rq cmq, lW cI cZ (rf 3) adc Ic Rc cmc, pW AL AI AR]) _ (xF ad Ix rf) rfl (c_X5_changed l CX.2.2 G cI cZ cQ cU cJ 20000 ox ad rf Ix Rx ra ta ea wa adq Iq Rq cmq adc Ic Rc cmc AL AI AR x1 x2 x3 out f5) (fun _ _ h => ⟨_, h.2.1 rfl⟩) (fun k _ _ h => hn_2 (by rw [h.1]; exact hC))) (vj_pfj 11 [2, 3, 5, 6, 9, 0, 1, 4, 7, 8, 10] rfl rfl (by decide)) (vx_cwSW 5 C.1.2.2.2.2 gL_law_L_changed rfl rfl rfl hy_L_changed ⟨Nat.le_of_ble_eq_true rfl, Nat.le_of_ble_eq_true rfl⟩) rfl rfl (Nat.le_of_ble_eq_true rfl) dL_law_1197 ⟨Nat.le_of_ble_eq_true rfl, Nat.le_of_ble_eq_true rfl⟩ hR ?_
  intro r M1 h9
  obtain ⟨g2, rfl, rfl, hg⟩ := lm_s h9 hC (by decide +kernel) hv
  refine VJ.perm (pf_back _ _ _ _) ?_
  refine VJ.istore C [(5, .int (outM.2.1 0)), (0, .ref b), (1, .ref ox), (2, .ref om), (3, .ref oj), (4, .int i)] dL_law_1200 (Nat.le_of_ble_eq_true rfl) rfl ?_
  refine VJ.aload_n C 3 dL_law_1202 rfl ?_
  refine VJ.sarg (j := 1) C hX hbl hbA 1 5 rfl rfl ⟨h1, hx1.symm⟩ (by decide) dL_law_1203 dL_law_1204 dL_law_1206 dL_law_1207 dL_law_1208 ?_
  refine VJ.sarg (j := 2) C hX hbl hbA 1 5 rfl rfl ⟨h2, hx2.symm⟩ (by decide) dL_law_1209 dL_law_1210 dL_law_1212 dL_law_1213 dL_law_1214 ?_
  refine VJ.sarg (j := 3) C hX hbl hbA 1 5 rfl rfl ⟨h3, hx3.symm⟩ (by decide) dL_law_1215 dL_law_1216 dL_law_1218 dL_law_1219 dL_law_1220 ?_
  refine VJ.callC C [.int x1, .int x2, .int x3] (pf [mW cI cZ om adm I R]) (pf [jW cJ oj g2, (pf [xW cI cZ ox ad Ix Rx rf, aW cQ (rf 0) ra ta ea wa, lW cI cZ (rf 2) adq out.2.2.1 out.2.2.2.1 out.2.2.2.2.1, lW cI cZ (rf 3) adc out.2.2.2.2.2.1 out.2.2.2.2.2.2.1 out.2.2.2.2.2.2.2, pW AL AI AR]), lW cI cZ (rf 1) adk Ik Rk cmk, nW cI cZ (rf 4) adn In Rn, qW cU (rf 5) rs, RW cI cZ RL]) (pf [jW cJ oj g2, mW cI cZ om adm (outM.2.1) (outM.2.2), (pf [xW cI cZ ox ad Ix Rx rf, aW cQ (rf 0) ra ta ea wa, lW cI cZ (rf 2) adq out.2.2.1 out.2.2.2.1 out.2.2.2.2.1, lW cI cZ (rf 3) adc out.2.2.2.2.2.1 out.2.2.2.2.2.2.1 out.2.2.2.2.2.2.2, pW AL AI AR]), lW cI cZ (rf 1) adk Ik Rk cmk, nW cI cZ (rf 4) adn In Rn, qW cU (rf 5) rs, RW cI cZ RL]) (c_X6_changed l G cI cZ cQ cU cJ 20000 om adm I R x1 x2 x3 outM f6) (pf_m1 _ _ _) (pf_m2 _ _ _) 0 rfl rfl (cwV 3 C.1.2.2.2.2 gL_law_X6_changed rfl rfl rfl hyV_X6_changed ⟨Nat.le_of_ble_eq_true rfl, Nat.le_of_ble_eq_true rfl⟩) rfl rfl (Nat.le_of_ble_eq_true rfl) dL_law_1221 ⟨rfl, rfl⟩ hR ?_
  refine VJ.istore C [(6, .int (outM.1)), (5, .int (outM.2.1 0)), (0, .ref b), (1, .ref ox), (2, .ref om), (3, .ref oj), (4, .int i)] dL_law_1224 (Nat.le_of_ble_eq_true rfl) rfl ?_
  refine law_tail 1226 C hR rfl hg dL_law_1226 dL_law_1227 dL_law_1230 dL_law_1232 dL_law_1237 dL_law_1239 dL_law_1242 dL_law_1243 dL_law_1244 dL_law_1245 dL_law_1247 dL_law_1248 dL_law_1249 dL_law_1254 (by decide) ?_
  refine VJ.sub [2, 3, 4, 5, 6] rfl ?_
  exact kk _ ⟨ad, Ix, Rx, rf, ra, ta, ea, wa, adk, Ik, Rk, cmk, adq, out.2.2.1, out.2.2.2.1, out.2.2.2.2.1, adc, out.2.2.2.2.2.1, out.2.2.2.2.2.2.1, out.2.2.2.2.2.2.2, adn, In, Rn, AL, AI, AR, rs, RL, adm, outM.2.1, outM.2.2, g2, hI, by rw [pf_nest]; exact vj_pfe 11 [0, 1, 2, 3, 7, 4, 5, 8, 9, 6, 10] rfl rfl (by decide)⟩

set_option maxHeartbeats 8000000 in
set_option maxRecDepth 100000 in
theorem law_origin {p : Program} {l : Launch} {e : Env} {s : State} {m : MethodId} {args : Array Value} {below : List Frame} {meth : Method} {c : Code} {G : va_G} {cI cZ cQ cU cJ : ClassId} {A : Nat → Prop} {Qf : Unit → State → Prop} {cells slots : Nat} {b L : Nat} {xs : Nat → Int32} {ox om oj t : Nat} {M : va_W} {i : Int32} (CX : CxX p l s m args meth c cL_law 7 wsL_law RL G vwCl (tys cI cZ cQ cU cJ) nws strs A) (hN : NC s) (hX : va_X b L xs s s.heap) (hbl : b < s.heap.size) (hbA : ¬ A b) (ht : t ≤ 511) (h1 : vp_in (i + 1) L) (h2 : vp_in (i + 2) L) (h3 : vp_in (i + 3) L) (h4 : vp_in (i + 4) L) (hR : cells + 40 ≤ room_1.cells ∧ slots + 13000 ≤ room_1.slots) (hM : LI cI cZ cQ cU cJ 20000 t ox om oj M) (kk : ∀ M' : va_W, LI cI cZ cQ cU cJ 20000 (t + 1) ox om oj M' → VJ p l e room_1 s m args below meth c 7 G vwCl A Qf (cells + 40) (slots + 13000) (some ()) M' 2216 [(0, .ref b), (1, .ref ox), (2, .ref om), (3, .ref oj), (4, .int i)] []) : VJ p l e room_1 s m args below meth c 7 G vwCl A Qf cells slots (some ()) M 1257 [(0, .ref b), (1, .ref ox), (2, .ref om), (3, .ref oj), (4, .int i)] [] := by
  obtain ⟨ad, Ix, Rx, rf, ra, ta, ea, wa, adk, Ik, Rk, cmk, adq, Iq, Rq, cmq, adc, Ic, Rc, cmc, adn, In, Rn, AL, AI, AR, rs, RL, adm, I, R, g, hIV, hM⟩ := hM
  obtain ⟨n9, m9, P9, d9, g9, od9, ao9, hc⟩ := hIV
  have C := CX.1
  obtain ⟨x1, hx1⟩ : ∃ z, z = xs (i + 1).toNatClampNeg := ⟨_, rfl⟩
  obtain ⟨x2, hx2⟩ : ∃ z, z = xs (i + 2).toNatClampNeg := ⟨_, rfl⟩
  obtain ⟨out, outM, f5, f6, hC, hv, hI⟩ := sim_origin (Nat.le_of_ble_eq_true rfl) hc x1 x2
  refine VJ.perm hM ?_
  refine VJ.aload_n C 1 dL_law_1257 rfl ?_
  refine VJ.sarg (j := 1) C hX hbl hbA 0 4 rfl rfl ⟨h1, hx1.symm⟩ (by decide) dL_law_1258 dL_law_1259 dL_law_1261 dL_law_1262 dL_law_1263 ?_
  refine VJ.sarg (j := 2) C hX hbl hbA 0 4 rfl rfl ⟨h2, hx2.symm⟩ (by decide) dL_law_1264 dL_law_1265 dL_law_1267 dL_law_1268 dL_law_1269 ?_
  refine VJ.aload_n C 3 dL_law_1270 rfl ?_
  refine VJ.callW CX hN [.ref ox, .int x1, .int x2, .ref oj] (pf [xW cI cZ ox ad Ix Rx rf, lW cI cZ (rf 1) adk Ik Rk cmk] ++ jW cJ oj g) (pf [mW cI cZ om adm I R, aW cQ (rf 0) ra ta ea wa, lW cI cZ (rf 2) adq Iq Rq cmq, lW cI cZ (rf 3) adc Ic Rc cmc, nW cI cZ (rf 4) adn In Rn, qW cU (rf 5) rs, pW AL AI AR, RW cI cZ RL]) 40 13000 (c_L_origin l CX.2.2 G cI cZ cQ cU cJ ox oj x1 x2 g (pf [xW cI cZ ox ad Ix Rx rf, lW cI cZ (rf 1) adk Ik Rk cmk]) _ (xF ad Ix rf) rfl (c_X5_origin l CX.2.2 G cI cZ cQ cU cJ ox ad rf Ix Rx adk Ik Rk cmk x1 x2 out f5) (fun _ _ h => ⟨_, h.2.1 rfl⟩) (fun k _ _ h => hn_1 (by rw [h.1]; exact hC))) (vj_pfj 11 [2, 4, 0, 1, 3, 5, 6, 7, 8, 9, 10] rfl rfl (by decide)) (vx_cwSW 4 C.1.2.2.2.2 gL_law_L_origin rfl rfl rfl hy_L_origin ⟨Nat.le_of_ble_eq_true rfl, Nat.le_of_ble_eq_true rfl⟩) rfl rfl (Nat.le_of_ble_eq_true rfl) dL_law_1271 ⟨Nat.le_of_ble_eq_true rfl, Nat.le_of_ble_eq_true rfl⟩ hR ?_
  intro r M1 h9
  obtain ⟨g2, rfl, rfl, hg⟩ := lm_s h9 hC (by decide +kernel) hv
  refine VJ.perm (pf_back _ _ _ _) ?_
  refine VJ.istore C [(5, .int (outM.2.1 0)), (0, .ref b), (1, .ref ox), (2, .ref om), (3, .ref oj), (4, .int i)] dL_law_1274 (Nat.le_of_ble_eq_true rfl) rfl ?_
  refine VJ.aload_n C 3 dL_law_1276 rfl ?_
  refine VJ.sarg (j := 1) C hX hbl hbA 1 5 rfl rfl ⟨h1, hx1.symm⟩ (by decide) dL_law_1277 dL_law_1278 dL_law_1280 dL_law_1281 dL_law_1282 ?_
  refine VJ.sarg (j := 2) C hX hbl hbA 1 5 rfl rfl ⟨h2, hx2.symm⟩ (by decide) dL_law_1283 dL_law_1284 dL_law_1286 dL_law_1287 dL_law_1288 ?_
  refine VJ.callC C [.int x1, .int x2] (pf [mW cI cZ om adm I R]) (pf [jW cJ oj g2, (pf [xW cI cZ ox ad Ix Rx rf, lW cI cZ (rf 1) adk Ik Rk cmk]), aW cQ (rf 0) ra ta ea wa, lW cI cZ (rf 2) adq Iq Rq cmq, lW cI cZ (rf 3) adc Ic Rc cmc, nW cI cZ (rf 4) adn In Rn, qW cU (rf 5) rs, pW AL AI AR, RW cI cZ RL]) (pf [jW cJ oj g2, mW cI cZ om adm (outM.2.1) (outM.2.2), (pf [xW cI cZ ox ad Ix Rx rf, lW cI cZ (rf 1) adk Ik Rk cmk]), aW cQ (rf 0) ra ta ea wa, lW cI cZ (rf 2) adq Iq Rq cmq, lW cI cZ (rf 3) adc Ic Rc cmc, nW cI cZ (rf 4) adn In Rn, qW cU (rf 5) rs, pW AL AI AR, RW cI cZ RL]) (c_X6_origin l G cI cZ cQ cU cJ 20000 om adm I R x1 x2 outM f6) (pf_m1 _ _ _) (pf_m2 _ _ _) 0 rfl rfl (cwV 2 C.1.2.2.2.2 gL_law_X6_origin rfl rfl rfl hyV_X6_origin ⟨Nat.le_of_ble_eq_true rfl, Nat.le_of_ble_eq_true rfl⟩) rfl rfl (Nat.le_of_ble_eq_true rfl) dL_law_1289 ⟨rfl, rfl⟩ hR ?_
  refine VJ.istore C [(6, .int (outM.1)), (5, .int (outM.2.1 0)), (0, .ref b), (1, .ref ox), (2, .ref om), (3, .ref oj), (4, .int i)] dL_law_1292 (Nat.le_of_ble_eq_true rfl) rfl ?_
  refine law_tail 1294 C hR rfl hg dL_law_1294 dL_law_1295 dL_law_1298 dL_law_1300 dL_law_1305 dL_law_1307 dL_law_1310 dL_law_1311 dL_law_1312 dL_law_1313 dL_law_1315 dL_law_1316 dL_law_1317 dL_law_1322 (by decide) ?_
  refine VJ.sub [2, 3, 4, 5, 6] rfl ?_
  exact kk _ ⟨ad, Ix, Rx, rf, ra, ta, ea, wa, adk, Ik, Rk, cmk, adq, Iq, Rq, cmq, adc, Ic, Rc, cmc, adn, In, Rn, AL, AI, AR, rs, RL, adm, outM.2.1, outM.2.2, g2, hI, by rw [pf_nest]; exact vj_pfe 11 [0, 1, 2, 4, 3, 5, 6, 7, 8, 9, 10] rfl rfl (by decide)⟩

end LC
