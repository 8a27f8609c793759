section LC
set_option maxHeartbeats 8000000 in
set_option maxRecDepth 100000 in
theorem law_pass {p : Program} {l : Launch} {e : Env} {s : State} {m : MethodId} {args : Array Value} {below : List Frame} {meth : Method} {c : Code} {G : va_G} {cI cZ cQ cU cJ : ClassId} {A : Nat → Prop} {Qf : Unit → State → Prop} {cells slots : Nat} {b L : Nat} {xs : Nat → Int32} {ox om oj t : Nat} {M : va_W} {i : Int32} (CX : CxX p l s m args meth c cL_law 7 wsL_law RL G vwCl (tys cI cZ cQ cU cJ) nws strs A) (hN : NC s) (hX : va_X b L xs s s.heap) (hbl : b < s.heap.size) (hbA : ¬ A b) (ht : t ≤ 511) (h1 : vp_in (i + 1) L) (h2 : vp_in (i + 2) L) (h3 : vp_in (i + 3) L) (h4 : vp_in (i + 4) L) (hR : cells + 40 ≤ room_1.cells ∧ slots + 13000 ≤ room_1.slots) (hM : LI cI cZ cQ cU cJ 20000 t ox om oj M) (kk : ∀ M' : va_W, LI cI cZ cQ cU cJ 20000 (t + 1) ox om oj M' → VJ p l e room_1 s m args below meth c 7 G vwCl A Qf (cells + 40) (slots + 13000) (some ()) M' 2216 [(0, .ref b), (1, .ref ox), (2, .ref om), (3, .ref oj), (4, .int i)] []) : VJ p l e room_1 s m args below meth c 7 G vwCl A Qf cells slots (some ()) M 172 [(0, .ref b), (1, .ref ox), (2, .ref om), (3, .ref oj), (4, .int i)] [] := by
  obtain ⟨ad, Ix, Rx, rf, ra, ta, ea, wa, adk, Ik, Rk, cmk, adq, Iq, Rq, cmq, adc, Ic, Rc, cmc, adn, In, Rn, AL, AI, AR, rs, RL, adm, I, R, g, hIV, hM⟩ := hM
  obtain ⟨n9, m9, P9, d9, g9, od9, ao9, hc⟩ := hIV
  have C := CX.1
  obtain ⟨x1, hx1⟩ : ∃ z, z = xs (i + 1).toNatClampNeg := ⟨_, rfl⟩
  obtain ⟨out, outM, f5, f6, hC, hv, hI⟩ := sim_pass (Nat.le_of_ble_eq_true rfl) hc x1
  refine VJ.perm hM ?_
  refine VJ.aload_n C 1 dL_law_172 rfl ?_
  refine VJ.sarg (j := 1) C hX hbl hbA 0 4 rfl rfl ⟨h1, hx1.symm⟩ (by decide) dL_law_173 dL_law_174 dL_law_176 dL_law_177 dL_law_178 ?_
  refine VJ.aload_n C 3 dL_law_179 rfl ?_
  refine VJ.callW CX hN [.ref ox, .int x1, .ref oj] (pf [xW cI cZ ox ad Ix Rx rf, lW cI cZ (rf 1) adk Ik Rk cmk, pW AL AI AR] ++ jW cJ oj g) (pf [mW cI cZ om adm I R, aW cQ (rf 0) ra ta ea wa, lW cI cZ (rf 2) adq Iq Rq cmq, lW cI cZ (rf 3) adc Ic Rc cmc, nW cI cZ (rf 4) adn In Rn, qW cU (rf 5) rs, RW cI cZ RL]) 40 13000 (c_L_pass l CX.2.2 G cI cZ cQ cU cJ ox oj x1 g (pf [xW cI cZ ox ad Ix Rx rf, lW cI cZ (rf 1) adk Ik Rk cmk, pW AL AI AR]) _ (xF ad Ix rf) rfl (c_X5_pass l CX.2.2 G cI cZ cQ cU cJ 20000 ox ad rf Ix Rx adk Ik Rk cmk AL AI AR x1 out f5) (fun _ _ h => ⟨_, h.2.1 rfl⟩) (fun k _ _ h => hn_23 (by rw [h.1]; exact hC))) (vj_pfj 11 [2, 4, 9, 0, 1, 3, 5, 6, 7, 8, 10] rfl rfl (by decide)) (vx_cwSW 3 C.1.2.2.2.2 gL_law_L_pass rfl rfl rfl hy_L_pass ⟨Nat.le_of_ble_eq_true rfl, Nat.le_of_ble_eq_true rfl⟩) rfl rfl (Nat.le_of_ble_eq_true rfl) dL_law_180 ⟨Nat.le_of_ble_eq_true rfl, Nat.le_of_ble_eq_true rfl⟩ hR ?_
  intro r M1 h9
  obtain ⟨g2, rfl, rfl, hg⟩ := lm_s h9 hC (by decide +kernel) hv
  refine VJ.perm (pf_back _ _ _ _) ?_
  refine VJ.istore C [(5, .int (outM.2 0)), (0, .ref b), (1, .ref ox), (2, .ref om), (3, .ref oj), (4, .int i)] dL_law_183 (Nat.le_of_ble_eq_true rfl) rfl ?_
  refine VJ.aload_n C 3 dL_law_185 rfl ?_
  refine VJ.sarg (j := 1) C hX hbl hbA 1 5 rfl rfl ⟨h1, hx1.symm⟩ (by decide) dL_law_186 dL_law_187 dL_law_189 dL_law_190 dL_law_191 ?_
  refine VJ.callC C [.int x1] (pf [mW cI cZ om adm I R]) (pf [jW cJ oj g2, (pf [xW cI cZ ox ad out.2.2.1 Rx rf, lW cI cZ (rf 1) adk out.2.2.2.1 out.2.2.2.2.1 out.2.2.2.2.2, pW AL AI AR]), aW cQ (rf 0) ra ta ea wa, lW cI cZ (rf 2) adq Iq Rq cmq, lW cI cZ (rf 3) adc Ic Rc cmc, nW cI cZ (rf 4) adn In Rn, qW cU (rf 5) rs, RW cI cZ RL]) (pf [jW cJ oj g2, mW cI cZ om adm (outM.2) (R), (pf [xW cI cZ ox ad out.2.2.1 Rx rf, lW cI cZ (rf 1) adk out.2.2.2.1 out.2.2.2.2.1 out.2.2.2.2.2, pW AL AI AR]), aW cQ (rf 0) ra ta ea wa, lW cI cZ (rf 2) adq Iq Rq cmq, lW cI cZ (rf 3) adc Ic Rc cmc, nW cI cZ (rf 4) adn In Rn, qW cU (rf 5) rs, RW cI cZ RL]) (c_X6_pass l G cI cZ cQ cU cJ om adm I R x1 outM f6) (pf_m1 _ _ _) (pf_m2 _ _ _) 0 rfl rfl (cwV 1 C.1.2.2.2.2 gL_law_X6_pass rfl rfl rfl hyV_X6_pass ⟨Nat.le_of_ble_eq_true rfl, Nat.le_of_ble_eq_true rfl⟩) rfl rfl (Nat.le_of_ble_eq_true rfl) dL_law_192 ⟨rfl, rfl⟩ hR ?_
  refine VJ.istore C [(6, .int (outM.1)), (5, .int (outM.2 0)), (0, .ref b), (1, .ref ox), (2, .ref om), (3, .ref oj), (4, .int i)] dL_law_195 (Nat.le_of_ble_eq_true rfl) rfl ?_
  refine law_tail 197 C hR rfl hg dL_law_197 dL_law_198 dL_law_201 dL_law_203 dL_law_208 dL_law_210 dL_law_213 dL_law_214 dL_law_215 dL_law_216 dL_law_218 dL_law_219 dL_law_220 dL_law_225 (by decide) ?_
  refine VJ.sub [2, 3, 4, 5, 6] rfl ?_
  exact kk _ ⟨ad, out.2.2.1, Rx, rf, ra, ta, ea, wa, adk, out.2.2.2.1, out.2.2.2.2.1, out.2.2.2.2.2, adq, Iq, Rq, cmq, adc, Ic, Rc, cmc, adn, In, Rn, AL, AI, AR, rs, RL, adm, outM.2, R, g2, hI, by rw [pf_nest]; exact vj_pfe 11 [0, 1, 2, 5, 3, 6, 7, 8, 9, 4, 10] rfl rfl (by decide)⟩

end LC
