/-! ===== the wrappers' calls, with their plain answers ===== -/
section OK
theorem LW.iv {cI cZ cQ cU : ClassId} {N t n P d g ox : Nat} {I : OI} {R : RI} {M : va_W} (h : LW cI cZ cQ cU N t n P d g ox I R M) : n ≤ 150 ∧ P ≤ 24 ∧ d ≤ 30000 ∧ g ≤ 60 ∧ I 2 = nI n ∧ I 4 = nI P ∧ I 1 = nI d ∧ I 5 = nI g := by
  obtain ⟨ad, Ix, Rx, rf, ra, ta, ea, wa, adk, Ik, Rk, cmk, adq, Iq, Rq, cmq, adc, Ic, Rc, cmc, adn, In, Rn, AL, AI, AR, rs, RL, m9, od9, ao9, hc, -⟩ := h
  obtain ⟨A, X, ⟨d1, -⟩, -, ⟨g0, g5, -⟩, -⟩ := hc
  exact ⟨A.n150, A.P24, X.dd, g0, A.i2, A.iP, d1, g5⟩
theorem LWe.at {cI cZ cQ cU : ClassId} {N t n P d g ox : Nat} {I : OI} {R : RI} {M : va_W} (h : LWe cI cZ cQ cU N t ox I R M) (i2 : I 2 = nI n) (hn : n ≤ 150) (i4 : I 4 = nI P) (hP : P ≤ 24) (i1 : I 1 = nI d) (hd : d ≤ 30000) (i5 : I 5 = nI g) (hg : g ≤ 60) : LW cI cZ cQ cU N t n P d g ox I R M := by
  obtain ⟨n', P', d', g', h⟩ := h
  obtain ⟨b1, b2, b3, b4, e1, e2, e3, e4⟩ := h.iv
  obtain rfl : n' = n := (n_eq (by omega) (by omega)).mp (e1.symm.trans i2)
  obtain rfl : P' = P := (n_eq (by omega) (by omega)).mp (e2.symm.trans i4)
  obtain rfl : d' = d := (n_eq (by omega) (by omega)).mp (e3.symm.trans i1)
  obtain rfl : g' = g := (n_eq (by omega) (by omega)).mp (e4.symm.trans i5)
  exact h
theorem LW.land {cI cZ cQ cU : ClassId} {t n P d g ox : Nat} {I : OI} {R : RI} {M : va_W} (h : LW cI cZ cQ cU 20000 t n P d g ox I R M) (Z : NX n R) {s : Nat} (hs : s ≤ 30000) (k : Nat) : ∃ Rl lo, LAND 20000 P I R s k Rl lo ∧ ∀ i o, i < n → o < 24 → R 0 i = 7 → kn R (nI k) i → R 4 i = nI o → Rl 1 o = 3 := by
  obtain ⟨ad, Ix, Rx, rf, ra, ta, ea, wa, adk, Ik, Rk, cmk, adq, Iq, Rq, cmq, adc, Ic, Rc, cmc, adn, In, Rn, AL, AI, AR, rs, RL, m9, od9, ao9, hc, -⟩ := h
  exact land_at hc Z (Nat.le_of_ble_eq_true rfl) hs k
theorem LW.mv {cI cZ cQ cU : ClassId} {t n P d g ox : Nat} {I : OI} {R : RI} {M : va_W} (h : LW cI cZ cQ cU 20000 t n P d g ox I R M) {s k : Nat} {Rl : RI} {lo : Nat → Nat} (L : LAND 20000 P I R s k Rl lo) {I2 : OI} {R2 : RI} (i2 : I2 2 = I 2) (i3 : I2 3 = I 3) (i4 : I2 4 = I 4) (hR : ∀ c, c < 9 → R2 c = R c) : LAND 20000 P I2 R2 s k Rl lo := by
  obtain ⟨ad, Ix, Rx, rf, ra, ta, ea, wa, adk, Ik, Rk, cmk, adq, Iq, Rq, cmq, adc, Ic, Rc, cmc, adn, In, Rn, AL, AI, AR, rs, RL, m9, od9, ao9, hc, -⟩ := h
  exact L.move hc (Nat.le_of_ble_eq_true rfl) i2 i3 i4 hR
theorem LW.last {cI cZ cQ cU : ClassId} {t n P d g ox : Nat} {I : OI} {R : RI} {M : va_W} (h : LW cI cZ cQ cU 20000 t n P d g ox I R M) {p : Nat} (hp : p < P) : ∃ j, j < g ∧ R 10 j = nI p ∧ R 9 j = nI (numv j) ∧ ∀ i, j < i → i < g → R 10 i ≠ nI p := by
  obtain ⟨ad, Ix, Rx, rf, ra, ta, ea, wa, adk, Ik, Rk, cmk, adq, Iq, Rq, cmq, adc, Ic, Rc, cmc, adn, In, Rn, AL, AI, AR, rs, RL, m9, od9, ao9, hc, -⟩ := h
  obtain ⟨j, h1, h2, h3⟩ := last_p hc hp
  exact ⟨j, h1, h2, num_at hc h1, h3⟩
theorem LW.rows {cI cZ cQ cU : ClassId} {t n P d g ox : Nat} {I : OI} {R : RI} {M : va_W} (h : LW cI cZ cQ cU 20000 t n P d g ox I R M) : (∀ i, i < n → ∃ k, k < 9 ∧ R 0 i = nI k) ∧ (∀ i, i < n → R 7 i = -1 ∨ ∃ z, z < n ∧ R 7 i = nI z) := by
  obtain ⟨ad, Ix, Rx, rf, ra, ta, ea, wa, adk, Ik, Rk, cmk, adq, Iq, Rq, cmq, adc, Ic, Rc, cmc, adn, In, Rn, AL, AI, AR, rs, RL, m9, od9, ao9, hc, -⟩ := h
  obtain ⟨A, -⟩ := hc
  refine ⟨A.kd, fun i hi => ?_⟩
  rcases A.sk i hi with ⟨h1, -⟩ | ⟨z, h1, h2, -⟩
  · exact Or.inl h1
  · exact Or.inr ⟨z, h1, h2⟩

set_option maxHeartbeats 4000000 in
theorem VJ.a_asOf {p : Program} {l : Launch} {e : Env} {Rm : Room} {s : State} {m : MethodId} {args : Array Value} {below : List Frame} {meth : Method} {c : Code} {cc : ByteArray} {nL : Nat} {Ts : List Cond} {own : String} {G : va_G} {cI cZ cQ cU cJ : ClassId} {A : Nat → Prop} {O : Type} {Qf : O → State → Prop} {cells slots : Nat} {f : Option O} {M : va_W} {pc : Nat} {lv : List (Nat × Value)} {st : List Value} {t n P d g ox : Nat} {I : OI} {R : RI} (CX : CxX p l s m args meth c cc nL Ts own G vwCl (tys cI cZ cQ cU cJ) nws strs A) (hN : NC s) (hM : LW cI cZ cQ cU 20000 t n P d g ox I R M) {q w : Nat} {ss kk : Nat} {Rl : RI} {lo : Nat → Nat} (L : LAND 20000 P I R ss kk Rl lo) (hq : q < P) (hw : w < 7) (hs : ss ≤ d) (hk : kk ≤ d) {index : Nat} {bytes : ByteArray} {maxL : Nat} {ret : Option FieldType} {hh : List (Nat × Nat × Nat × Nat)} (cw : vx_CSW Rm s args own index yL_asOf bytes maxL ret hh wsL_asOf rmL_asOf rmL_asOf.cells rmL_asOf.slots 5) (hroom : (st.map fun v => v.category).sum ≤ 8) (hdg : decode cc pc = .ok (.invokestatic index, 3)) (hR : cells + 8 ≤ Rm.cells ∧ slots + 48 ≤ Rm.slots) (k : ∀ M' : va_W, LW cI cZ cQ cU 20000 t n P d g ox I R M' → VJ p l e Rm s m args below meth c nL G vwCl A Qf (cells + 8) (slots + 48) f M' (pc + 3) lv (.long ((tv Rl ss lo q w).toInt64) :: st)) : VJ p l e Rm s m args below meth c nL G vwCl A Qf cells slots f M pc lv (.int (nI kk) :: .int (nI ss) :: .int (nI w) :: .int (nI q) :: .ref ox :: st) := by
  obtain ⟨ad, Ix, Rx, rf, ra, ta, ea, wa, adk, Ik, Rk, cmk, adq, Iq, Rq, cmq, adc, Ic, Rc, cmc, adn, In, Rn, AL, AI, AR, rs, RL, m9, od9, ao9, hc, -⟩ := id hM
  have r1 := hR.1
  have r2 := hR.2
  obtain ⟨R', hf⟩ := m_asOf hc (Nat.le_of_ble_eq_true rfl) L hq hw hs hk
  refine VJ.w_asOf CX hN hM _ _ _ _ hf cw hroom hdg ⟨Nat.le_trans (Nat.add_le_add_left (Nat.le_of_ble_eq_true rfl) _) r1, Nat.le_trans (Nat.add_le_add_left (Nat.le_of_ble_eq_true rfl) _) r2⟩ (fun M' L' hL hM' => ?_)
  obtain rfl := hL.ok up_same (by decide +kernel)
  exact VJ.widen (Nat.add_le_add_left (Nat.le_of_ble_eq_true rfl) _) (Nat.add_le_add_left (Nat.le_of_ble_eq_true rfl) _) (k M' hM')

set_option maxHeartbeats 4000000 in
theorem VJ.a_now {p : Program} {l : Launch} {e : Env} {Rm : Room} {s : State} {m : MethodId} {args : Array Value} {below : List Frame} {meth : Method} {c : Code} {cc : ByteArray} {nL : Nat} {Ts : List Cond} {own : String} {G : va_G} {cI cZ cQ cU cJ : ClassId} {A : Nat → Prop} {O : Type} {Qf : O → State → Prop} {cells slots : Nat} {f : Option O} {M : va_W} {pc : Nat} {lv : List (Nat × Value)} {st : List Value} {t n P d g ox : Nat} {I : OI} {R : RI} (CX : CxX p l s m args meth c cc nL Ts own G vwCl (tys cI cZ cQ cU cJ) nws strs A) (hN : NC s) (hM : LW cI cZ cQ cU 20000 t n P d g ox I R M) {q w : Nat} {Rl : RI} {lo : Nat → Nat} (L : LAND 20000 P I R d d Rl lo) (hq : q < P) (hw : w < 7) {index : Nat} {bytes : ByteArray} {maxL : Nat} {ret : Option FieldType} {hh : List (Nat × Nat × Nat × Nat)} (cw : vx_CSW Rm s args own index yL_now bytes maxL ret hh wsL_now rmL_now rmL_now.cells rmL_now.slots 3) (hroom : (st.map fun v => v.category).sum ≤ 8) (hdg : decode cc pc = .ok (.invokestatic index, 3)) (hR : cells + 8 ≤ Rm.cells ∧ slots + 48 ≤ Rm.slots) (k : ∀ M' : va_W, LW cI cZ cQ cU 20000 t n P d g ox I R M' → VJ p l e Rm s m args below meth c nL G vwCl A Qf (cells + 8) (slots + 48) f M' (pc + 3) lv (.long ((tv Rl d lo q w).toInt64) :: st)) : VJ p l e Rm s m args below meth c nL G vwCl A Qf cells slots f M pc lv (.int (nI w) :: .int (nI q) :: .ref ox :: st) := by
  obtain ⟨ad, Ix, Rx, rf, ra, ta, ea, wa, adk, Ik, Rk, cmk, adq, Iq, Rq, cmq, adc, Ic, Rc, cmc, adn, In, Rn, AL, AI, AR, rs, RL, m9, od9, ao9, hc, -⟩ := id hM
  have r1 := hR.1
  have r2 := hR.2
  obtain ⟨R', hf⟩ := m_now hc (Nat.le_of_ble_eq_true rfl) L hq hw
  refine VJ.w_now CX hN hM _ _ hf cw hroom hdg ⟨Nat.le_trans (Nat.add_le_add_left (Nat.le_of_ble_eq_true rfl) _) r1, Nat.le_trans (Nat.add_le_add_left (Nat.le_of_ble_eq_true rfl) _) r2⟩ (fun M' L' hL hM' => ?_)
  obtain rfl := hL.ok up_same (by decide +kernel)
  exact VJ.widen (Nat.add_le_add_left (Nat.le_of_ble_eq_true rfl) _) (Nat.add_le_add_left (Nat.le_of_ble_eq_true rfl) _) (k M' hM')

set_option maxHeartbeats 4000000 in
theorem VJ.a_households {p : Program} {l : Launch} {e : Env} {Rm : Room} {s : State} {m : MethodId} {args : Array Value} {below : List Frame} {meth : Method} {c : Code} {cc : ByteArray} {nL : Nat} {Ts : List Cond} {own : String} {G : va_G} {cI cZ cQ cU cJ : ClassId} {A : Nat → Prop} {O : Type} {Qf : O → State → Prop} {cells slots : Nat} {f : Option O} {M : va_W} {pc : Nat} {lv : List (Nat × Value)} {st : List Value} {t n P d g ox : Nat} {I : OI} {R : RI} (CX : CxX p l s m args meth c cc nL Ts own G vwCl (tys cI cZ cQ cU cJ) nws strs A) (hN : NC s) (hM : LW cI cZ cQ cU 20000 t n P d g ox I R M) {w : Nat} {ss kk : Nat} {Rl : RI} {lo : Nat → Nat} (L : LAND 20000 P I R ss kk Rl lo) (hw : w < 16) (hs : ss ≤ d) (hk : kk ≤ d) {index : Nat} {bytes : ByteArray} {maxL : Nat} {ret : Option FieldType} {hh : List (Nat × Nat × Nat × Nat)} (cw : vx_CSW Rm s args own index yL_households bytes maxL ret hh wsL_households rmL_households rmL_households.cells rmL_households.slots 4) (hroom : (st.map fun v => v.category).sum ≤ 8) (hdg : decode cc pc = .ok (.invokestatic index, 3)) (hR : cells + 8 ≤ Rm.cells ∧ slots + 48 ≤ Rm.slots) (k : ∀ M' : va_W, LW cI cZ cQ cU 20000 t n P d g ox I R M' → VJ p l e Rm s m args below meth c nL G vwCl A Qf (cells + 8) (slots + 48) f M' (pc + 3) lv (.long ((nI (cnt (fun p => decide (tv Rl ss lo p 1 = nI w ∧ tv Rl ss lo p 6 = nI p)) 0 P)).toInt64) :: st)) : VJ p l e Rm s m args below meth c nL G vwCl A Qf cells slots f M pc lv (.int (nI kk) :: .int (nI ss) :: .int (nI w) :: .ref ox :: st) := by
  obtain ⟨ad, Ix, Rx, rf, ra, ta, ea, wa, adk, Ik, Rk, cmk, adq, Iq, Rq, cmq, adc, Ic, Rc, cmc, adn, In, Rn, AL, AI, AR, rs, RL, m9, od9, ao9, hc, -⟩ := id hM
  have r1 := hR.1
  have r2 := hR.2
  obtain ⟨R', hf⟩ := m_households hc (Nat.le_of_ble_eq_true rfl) L hw hs hk
  refine VJ.w_households CX hN hM _ _ _ hf cw hroom hdg ⟨Nat.le_trans (Nat.add_le_add_left (Nat.le_of_ble_eq_true rfl) _) r1, Nat.le_trans (Nat.add_le_add_left (Nat.le_of_ble_eq_true rfl) _) r2⟩ (fun M' L' hL hM' => ?_)
  obtain rfl := hL.ok up_same (by decide +kernel)
  exact VJ.widen (Nat.add_le_add_left (Nat.le_of_ble_eq_true rfl) _) (Nat.add_le_add_left (Nat.le_of_ble_eq_true rfl) _) (k M' hM')

set_option maxHeartbeats 4000000 in
theorem VJ.a_money {p : Program} {l : Launch} {e : Env} {Rm : Room} {s : State} {m : MethodId} {args : Array Value} {below : List Frame} {meth : Method} {c : Code} {cc : ByteArray} {nL : Nat} {Ts : List Cond} {own : String} {G : va_G} {cI cZ cQ cU cJ : ClassId} {A : Nat → Prop} {O : Type} {Qf : O → State → Prop} {cells slots : Nat} {f : Option O} {M : va_W} {pc : Nat} {lv : List (Nat × Value)} {st : List Value} {t n P d g ox : Nat} {I : OI} {R : RI} (CX : CxX p l s m args meth c cc nL Ts own G vwCl (tys cI cZ cQ cU cJ) nws strs A) (hN : NC s) (hM : LW cI cZ cQ cU 20000 t n P d g ox I R M) {o : Nat} {ss kk : Nat} {Rl : RI} {lo : Nat → Nat} (L : LAND 20000 P I R ss kk Rl lo) (ho : o < 4) (hs : ss ≤ d) (hk : kk ≤ d) {index : Nat} {bytes : ByteArray} {maxL : Nat} {ret : Option FieldType} {hh : List (Nat × Nat × Nat × Nat)} (cw : vx_CSW Rm s args own index yL_money bytes maxL ret hh wsL_money rmL_money rmL_money.cells rmL_money.slots 5) (hroom : (st.map fun v => v.category).sum ≤ 8) (hdg : decode cc pc = .ok (.invokestatic index, 3)) (hR : cells + 8 ≤ Rm.cells ∧ slots + 48 ≤ Rm.slots) (k : ∀ M' : va_W, LW cI cZ cQ cU 20000 t n P d g ox I R M' → VJ p l e Rm s m args below meth c nL G vwCl A Qf (cells + 8) (slots + 48) f M' (pc + 3) lv (.long ((nI (cnt (fun p => decide (¬ tv Rl ss lo p 1 = -1 ∧ tv Rl ss lo p 1 / 4 = nI o)) 0 P)).toInt64) :: st)) : VJ p l e Rm s m args below meth c nL G vwCl A Qf cells slots f M pc lv (.int (nI kk) :: .int (nI 1) :: .int (nI ss) :: .int (nI o) :: .ref ox :: st) := by
  obtain ⟨ad, Ix, Rx, rf, ra, ta, ea, wa, adk, Ik, Rk, cmk, adq, Iq, Rq, cmq, adc, Ic, Rc, cmc, adn, In, Rn, AL, AI, AR, rs, RL, m9, od9, ao9, hc, -⟩ := id hM
  have r1 := hR.1
  have r2 := hR.2
  obtain ⟨R', hf⟩ := m_money hc (Nat.le_of_ble_eq_true rfl) L ho hs hk
  refine VJ.w_money CX hN hM _ _ _ _ hf cw hroom hdg ⟨Nat.le_trans (Nat.add_le_add_left (Nat.le_of_ble_eq_true rfl) _) r1, Nat.le_trans (Nat.add_le_add_left (Nat.le_of_ble_eq_true rfl) _) r2⟩ (fun M' L' hL hM' => ?_)
  obtain rfl := hL.ok up_same (by decide +kernel)
  exact VJ.widen (Nat.add_le_add_left (Nat.le_of_ble_eq_true rfl) _) (Nat.add_le_add_left (Nat.le_of_ble_eq_true rfl) _) (k M' hM')

set_option maxHeartbeats 4000000 in
theorem VJ.a_changed {p : Program} {l : Launch} {e : Env} {Rm : Room} {s : State} {m : MethodId} {args : Array Value} {below : List Frame} {meth : Method} {c : Code} {cc : ByteArray} {nL : Nat} {Ts : List Cond} {own : String} {G : va_G} {cI cZ cQ cU cJ : ClassId} {A : Nat → Prop} {O : Type} {Qf : O → State → Prop} {cells slots : Nat} {f : Option O} {M : va_W} {pc : Nat} {lv : List (Nat × Value)} {st : List Value} {t n P d g ox : Nat} {I : OI} {R : RI} (CX : CxX p l s m args meth c cc nL Ts own G vwCl (tys cI cZ cQ cU cJ) nws strs A) (hN : NC s) (hM : LW cI cZ cQ cU 20000 t n P d g ox I R M) {ss kk : Nat} (hs : ss ≤ d) (hk : kk ≤ d) {index : Nat} {bytes : ByteArray} {maxL : Nat} {ret : Option FieldType} {hh : List (Nat × Nat × Nat × Nat)} (cw : vx_CSW Rm s args own index yL_changed bytes maxL ret hh wsL_changed rmL_changed rmL_changed.cells rmL_changed.slots 4) (hroom : (st.map fun v => v.category).sum ≤ 8) (hdg : decode cc pc = .ok (.invokestatic index, 3)) (hR : cells + 8 ≤ Rm.cells ∧ slots + 48 ≤ Rm.slots) (k : ∀ M' : va_W, LW cI cZ cQ cU 20000 t n P d g ox I R M' → VJ p l e Rm s m args below meth c nL G vwCl A Qf (cells + 8) (slots + 48) f M' (pc + 3) lv (.long ((0 : Int32).toInt64) :: st)) : VJ p l e Rm s m args below meth c nL G vwCl A Qf cells slots f M pc lv (.int (nI kk) :: .int (nI kk) :: .int (nI ss) :: .ref ox :: st) := by
  obtain ⟨ad, Ix, Rx, rf, ra, ta, ea, wa, adk, Ik, Rk, cmk, adq, Iq, Rq, cmq, adc, Ic, Rc, cmc, adn, In, Rn, AL, AI, AR, rs, RL, m9, od9, ao9, hc, -⟩ := id hM
  have r1 := hR.1
  have r2 := hR.2
  obtain ⟨R', hf⟩ := m_changed hc (Nat.le_of_ble_eq_true rfl) hs hk
  refine VJ.w_changed CX hN hM _ _ _ hf cw hroom hdg ⟨Nat.le_trans (Nat.add_le_add_left (Nat.le_of_ble_eq_true rfl) _) r1, Nat.le_trans (Nat.add_le_add_left (Nat.le_of_ble_eq_true rfl) _) r2⟩ (fun M' L' hL hM' => ?_)
  obtain rfl := hL.ok up_same (by decide +kernel)
  exact VJ.widen (Nat.add_le_add_left (Nat.le_of_ble_eq_true rfl) _) (Nat.add_le_add_left (Nat.le_of_ble_eq_true rfl) _) (k M' hM')

set_option maxHeartbeats 4000000 in
theorem VJ.a_likeness {p : Program} {l : Launch} {e : Env} {Rm : Room} {s : State} {m : MethodId} {args : Array Value} {below : List Frame} {meth : Method} {c : Code} {cc : ByteArray} {nL : Nat} {Ts : List Cond} {own : String} {G : va_G} {cI cZ cQ cU cJ : ClassId} {A : Nat → Prop} {O : Type} {Qf : O → State → Prop} {cells slots : Nat} {f : Option O} {M : va_W} {pc : Nat} {lv : List (Nat × Value)} {st : List Value} {t n P d g ox : Nat} {I : OI} {R : RI} (CX : CxX p l s m args meth c cc nL Ts own G vwCl (tys cI cZ cQ cU cJ) nws strs A) (hN : NC s) (hM : LW cI cZ cQ cU 20000 t n P d g ox I R M) {q1 q2 : Nat} {Rl : RI} {lo : Nat → Nat} (L : LAND 20000 P I R d d Rl lo) (h1 : q1 < P) (h2 : q2 < P) (h12 : q1 ≠ q2) (h3 : Rl 1 q2 = 3) {index : Nat} {bytes : ByteArray} {maxL : Nat} {ret : Option FieldType} {hh : List (Nat × Nat × Nat × Nat)} (cw : vx_CSW Rm s args own index yL_likeness bytes maxL ret hh wsL_likeness rmL_likeness rmL_likeness.cells rmL_likeness.slots 3) (hroom : (st.map fun v => v.category).sum ≤ 8) (hdg : decode cc pc = .ok (.invokestatic index, 3)) (hR : cells + 8 ≤ Rm.cells ∧ slots + 48 ≤ Rm.slots) (k : ∀ M' : va_W, LW cI cZ cQ cU 20000 t n P d g ox I R M' → VJ p l e Rm s m args below meth c nL G vwCl A Qf (cells + 8) (slots + 48) f M' (pc + 3) lv (.long ((0 : Int32).toInt64) :: st)) : VJ p l e Rm s m args below meth c nL G vwCl A Qf cells slots f M pc lv (.int (nI q2) :: .int (nI q1) :: .ref ox :: st) := by
  obtain ⟨ad, Ix, Rx, rf, ra, ta, ea, wa, adk, Ik, Rk, cmk, adq, Iq, Rq, cmq, adc, Ic, Rc, cmc, adn, In, Rn, AL, AI, AR, rs, RL, m9, od9, ao9, hc, -⟩ := id hM
  have r1 := hR.1
  have r2 := hR.2
  obtain ⟨R', hf⟩ := m_likeness hc L h1 h2 h12 h3
  refine VJ.w_likeness CX hN hM _ _ hf cw hroom hdg ⟨Nat.le_trans (Nat.add_le_add_left (Nat.le_of_ble_eq_true rfl) _) r1, Nat.le_trans (Nat.add_le_add_left (Nat.le_of_ble_eq_true rfl) _) r2⟩ (fun M' L' hL hM' => ?_)
  obtain rfl := hL.ok up_same (by decide +kernel)
  exact VJ.widen (Nat.add_le_add_left (Nat.le_of_ble_eq_true rfl) _) (Nat.add_le_add_left (Nat.le_of_ble_eq_true rfl) _) (k M' hM')

set_option maxHeartbeats 4000000 in
theorem VJ.a_origin {p : Program} {l : Launch} {e : Env} {Rm : Room} {s : State} {m : MethodId} {args : Array Value} {below : List Frame} {meth : Method} {c : Code} {cc : ByteArray} {nL : Nat} {Ts : List Cond} {own : String} {G : va_G} {cI cZ cQ cU cJ : ClassId} {A : Nat → Prop} {O : Type} {Qf : O → State → Prop} {cells slots : Nat} {f : Option O} {M : va_W} {pc : Nat} {lv : List (Nat × Value)} {st : List Value} {t n P d g ox : Nat} {I : OI} {R : RI} (CX : CxX p l s m args meth c cc nL Ts own G vwCl (tys cI cZ cQ cU cJ) nws strs A) (hN : NC s) (hM : LW cI cZ cQ cU 20000 t n P d g ox I R M) {q : Nat} {Rl : RI} {lo : Nat → Nat} (L : LAND 20000 P I R d d Rl lo) (hq : q < P) (h3 : Rl 1 q = 3) {index : Nat} {bytes : ByteArray} {maxL : Nat} {ret : Option FieldType} {hh : List (Nat × Nat × Nat × Nat)} (cw : vx_CSW Rm s args own index yL_origin bytes maxL ret hh wsL_origin rmL_origin rmL_origin.cells rmL_origin.slots 3) (hroom : (st.map fun v => v.category).sum ≤ 8) (hdg : decode cc pc = .ok (.invokestatic index, 3)) (hR : cells + 8 ≤ Rm.cells ∧ slots + 48 ≤ Rm.slots) (k : ∀ M' : va_W, LW cI cZ cQ cU 20000 t n P d g ox I R M' → VJ p l e Rm s m args below meth c nL G vwCl A Qf (cells + 8) (slots + 48) f M' (pc + 3) lv (.long ((-1 : Int32).toInt64) :: st)) : VJ p l e Rm s m args below meth c nL G vwCl A Qf cells slots f M pc lv (.int (-1) :: .int (nI q) :: .ref ox :: st) := by
  obtain ⟨ad, Ix, Rx, rf, ra, ta, ea, wa, adk, Ik, Rk, cmk, adq, Iq, Rq, cmq, adc, Ic, Rc, cmc, adn, In, Rn, AL, AI, AR, rs, RL, m9, od9, ao9, hc, -⟩ := id hM
  have r1 := hR.1
  have r2 := hR.2
  obtain ⟨R', hf⟩ := m_origin hc (Nat.le_of_ble_eq_true rfl) L hq h3
  refine VJ.w_origin CX hN hM _ _ hf cw hroom hdg ⟨Nat.le_trans (Nat.add_le_add_left (Nat.le_of_ble_eq_true rfl) _) r1, Nat.le_trans (Nat.add_le_add_left (Nat.le_of_ble_eq_true rfl) _) r2⟩ (fun M' L' hL hM' => ?_)
  obtain rfl := hL.ok up_same (by decide +kernel)
  exact VJ.widen (Nat.add_le_add_left (Nat.le_of_ble_eq_true rfl) _) (Nat.add_le_add_left (Nat.le_of_ble_eq_true rfl) _) (k M' hM')

set_option maxHeartbeats 4000000 in
theorem VJ.a_number {p : Program} {l : Launch} {e : Env} {Rm : Room} {s : State} {m : MethodId} {args : Array Value} {below : List Frame} {meth : Method} {c : Code} {cc : ByteArray} {nL : Nat} {Ts : List Cond} {own : String} {G : va_G} {cI cZ cQ cU cJ : ClassId} {A : Nat → Prop} {O : Type} {Qf : O → State → Prop} {cells slots : Nat} {f : Option O} {M : va_W} {pc : Nat} {lv : List (Nat × Value)} {st : List Value} {t n P d g ox : Nat} {I : OI} {R : RI} (CX : CxX p l s m args meth c cc nL Ts own G vwCl (tys cI cZ cQ cU cJ) nws strs A) (hN : NC s) (hM : LW cI cZ cQ cU 20000 t n P d g ox I R M) {q j : Nat} (hq : q < P) (hj : j < g) (hx : R 10 j = nI q) (h9 : R 9 j = nI (numv j)) (hl : ∀ i, j < i → i < g → R 10 i ≠ nI q) {index : Nat} {bytes : ByteArray} {maxL : Nat} {ret : Option FieldType} {hh : List (Nat × Nat × Nat × Nat)} (cw : vx_CSW Rm s args own index yL_number bytes maxL ret hh wsL_number rmL_number rmL_number.cells rmL_number.slots 2) (hroom : (st.map fun v => v.category).sum ≤ 8) (hdg : decode cc pc = .ok (.invokestatic index, 3)) (hR : cells + 8 ≤ Rm.cells ∧ slots + 48 ≤ Rm.slots) (k : ∀ M' : va_W, LW cI cZ cQ cU 20000 t n P d g ox I R M' → VJ p l e Rm s m args below meth c nL G vwCl A Qf (cells + 8) (slots + 48) f M' (pc + 3) lv (.long ((nI (numv j)).toInt64) :: st)) : VJ p l e Rm s m args below meth c nL G vwCl A Qf cells slots f M pc lv (.int (nI q) :: .ref ox :: st) := by
  obtain ⟨ad, Ix, Rx, rf, ra, ta, ea, wa, adk, Ik, Rk, cmk, adq, Iq, Rq, cmq, adc, Ic, Rc, cmc, adn, In, Rn, AL, AI, AR, rs, RL, m9, od9, ao9, hc, -⟩ := id hM
  have r1 := hR.1
  have r2 := hR.2
  have hf := m_number hc (Nat.le_of_ble_eq_true rfl) hq hj hx hl
  rw [h9] at hf
  refine VJ.w_number CX hN hM _ hf cw hroom hdg ⟨Nat.le_trans (Nat.add_le_add_left (Nat.le_of_ble_eq_true rfl) _) r1, Nat.le_trans (Nat.add_le_add_left (Nat.le_of_ble_eq_true rfl) _) r2⟩ (fun M' L' hL hM' => ?_)
  obtain rfl := hL.ok up_same (by decide +kernel)
  exact VJ.widen (Nat.add_le_add_left (Nat.le_of_ble_eq_true rfl) _) (Nat.add_le_add_left (Nat.le_of_ble_eq_true rfl) _) (k M' hM')

set_option maxHeartbeats 4000000 in
theorem VJ.a_bearer {p : Program} {l : Launch} {e : Env} {Rm : Room} {s : State} {m : MethodId} {args : Array Value} {below : List Frame} {meth : Method} {c : Code} {cc : ByteArray} {nL : Nat} {Ts : List Cond} {own : String} {G : va_G} {cI cZ cQ cU cJ : ClassId} {A : Nat → Prop} {O : Type} {Qf : O → State → Prop} {cells slots : Nat} {f : Option O} {M : va_W} {pc : Nat} {lv : List (Nat × Value)} {st : List Value} {t n P d g ox : Nat} {I : OI} {R : RI} (CX : CxX p l s m args meth c cc nL Ts own G vwCl (tys cI cZ cQ cU cJ) nws strs A) (hN : NC s) (hM : LW cI cZ cQ cU 20000 t n P d g ox I R M) {j q : Nat} (hj : j < g) (hx : R 10 j = nI q) {index : Nat} {bytes : ByteArray} {maxL : Nat} {ret : Option FieldType} {hh : List (Nat × Nat × Nat × Nat)} (cw : vx_CSW Rm s args own index yL_bearer bytes maxL ret hh wsL_bearer rmL_bearer rmL_bearer.cells rmL_bearer.slots 2) (hroom : (st.map fun v => v.category).sum ≤ 8) (hdg : decode cc pc = .ok (.invokestatic index, 3)) (hR : cells + 8 ≤ Rm.cells ∧ slots + 48 ≤ Rm.slots) (k : ∀ M' : va_W, LW cI cZ cQ cU 20000 t n P d g ox I R M' → VJ p l e Rm s m args below meth c nL G vwCl A Qf (cells + 8) (slots + 48) f M' (pc + 3) lv (.long ((nI q).toInt64) :: st)) : VJ p l e Rm s m args below meth c nL G vwCl A Qf cells slots f M pc lv (.int (nI (numv j)) :: .ref ox :: st) := by
  obtain ⟨ad, Ix, Rx, rf, ra, ta, ea, wa, adk, Ik, Rk, cmk, adq, Iq, Rq, cmq, adc, Ic, Rc, cmc, adn, In, Rn, AL, AI, AR, rs, RL, m9, od9, ao9, hc, -⟩ := id hM
  have r1 := hR.1
  have r2 := hR.2
  have hf := m_bearer hc (Nat.le_of_ble_eq_true rfl) hj
  rw [hx] at hf
  refine VJ.w_bearer CX hN hM _ hf cw hroom hdg ⟨Nat.le_trans (Nat.add_le_add_left (Nat.le_of_ble_eq_true rfl) _) r1, Nat.le_trans (Nat.add_le_add_left (Nat.le_of_ble_eq_true rfl) _) r2⟩ (fun M' L' hL hM' => ?_)
  obtain rfl := hL.ok up_same (by decide +kernel)
  exact VJ.widen (Nat.add_le_add_left (Nat.le_of_ble_eq_true rfl) _) (Nat.add_le_add_left (Nat.le_of_ble_eq_true rfl) _) (k M' hM')

set_option maxHeartbeats 4000000 in
theorem VJ.a_actk {p : Program} {l : Launch} {e : Env} {Rm : Room} {s : State} {m : MethodId} {args : Array Value} {below : List Frame} {meth : Method} {c : Code} {cc : ByteArray} {nL : Nat} {Ts : List Cond} {own : String} {G : va_G} {cI cZ cQ cU cJ : ClassId} {A : Nat → Prop} {O : Type} {Qf : O → State → Prop} {cells slots : Nat} {f : Option O} {M : va_W} {pc : Nat} {lv : List (Nat × Value)} {st : List Value} {t n P d g ox : Nat} {I : OI} {R : RI} (CX : CxX p l s m args meth c cc nL Ts own G vwCl (tys cI cZ cQ cU cJ) nws strs A) (hN : NC s) (hM : LW cI cZ cQ cU 20000 t n P d g ox I R M) {a : Nat} (ha : a < n) {index : Nat} {bytes : ByteArray} {maxL : Nat} {ret : Option FieldType} {hh : List (Nat × Nat × Nat × Nat)} (cw : vx_CSW Rm s args own index yL_actOf bytes maxL ret hh wsL_actOf rmL_actOf rmL_actOf.cells rmL_actOf.slots 3) (hroom : (st.map fun v => v.category).sum ≤ 8) (hdg : decode cc pc = .ok (.invokestatic index, 3)) (hR : cells + 8 ≤ Rm.cells ∧ slots + 48 ≤ Rm.slots) (k : ∀ M' : va_W, LW cI cZ cQ cU 20000 t n P d g ox I R M' → VJ p l e Rm s m args below meth c nL G vwCl A Qf (cells + 8) (slots + 48) f M' (pc + 3) lv (.long ((R 0 a).toInt64) :: st)) : VJ p l e Rm s m args below meth c nL G vwCl A Qf cells slots f M pc lv (.int (nI 0) :: .int (nI a) :: .ref ox :: st) := by
  obtain ⟨ad, Ix, Rx, rf, ra, ta, ea, wa, adk, Ik, Rk, cmk, adq, Iq, Rq, cmq, adc, Ic, Rc, cmc, adn, In, Rn, AL, AI, AR, rs, RL, m9, od9, ao9, hc, -⟩ := id hM
  have r1 := hR.1
  have r2 := hR.2
  have hf := (m_actOf hc ha).1
  refine VJ.w_actOf CX hN hM _ _ hf cw hroom hdg ⟨Nat.le_trans (Nat.add_le_add_left (Nat.le_of_ble_eq_true rfl) _) r1, Nat.le_trans (Nat.add_le_add_left (Nat.le_of_ble_eq_true rfl) _) r2⟩ (fun M' L' hL hM' => ?_)
  obtain rfl := hL.ok up_same (by decide +kernel)
  exact VJ.widen (Nat.add_le_add_left (Nat.le_of_ble_eq_true rfl) _) (Nat.add_le_add_left (Nat.le_of_ble_eq_true rfl) _) (k M' hM')

set_option maxHeartbeats 4000000 in
theorem VJ.a_actt {p : Program} {l : Launch} {e : Env} {Rm : Room} {s : State} {m : MethodId} {args : Array Value} {below : List Frame} {meth : Method} {c : Code} {cc : ByteArray} {nL : Nat} {Ts : List Cond} {own : String} {G : va_G} {cI cZ cQ cU cJ : ClassId} {A : Nat → Prop} {O : Type} {Qf : O → State → Prop} {cells slots : Nat} {f : Option O} {M : va_W} {pc : Nat} {lv : List (Nat × Value)} {st : List Value} {t n P d g ox : Nat} {I : OI} {R : RI} (CX : CxX p l s m args meth c cc nL Ts own G vwCl (tys cI cZ cQ cU cJ) nws strs A) (hN : NC s) (hM : LW cI cZ cQ cU 20000 t n P d g ox I R M) {a : Nat} (ha : a < n) {index : Nat} {bytes : ByteArray} {maxL : Nat} {ret : Option FieldType} {hh : List (Nat × Nat × Nat × Nat)} (cw : vx_CSW Rm s args own index yL_actOf bytes maxL ret hh wsL_actOf rmL_actOf rmL_actOf.cells rmL_actOf.slots 3) (hroom : (st.map fun v => v.category).sum ≤ 8) (hdg : decode cc pc = .ok (.invokestatic index, 3)) (hR : cells + 8 ≤ Rm.cells ∧ slots + 48 ≤ Rm.slots) (k : ∀ M' : va_W, LW cI cZ cQ cU 20000 t n P d g ox I R M' → VJ p l e Rm s m args below meth c nL G vwCl A Qf (cells + 8) (slots + 48) f M' (pc + 3) lv (.long ((R 1 a).toInt64) :: st)) : VJ p l e Rm s m args below meth c nL G vwCl A Qf cells slots f M pc lv (.int (nI 1) :: .int (nI a) :: .ref ox :: st) := by
  obtain ⟨ad, Ix, Rx, rf, ra, ta, ea, wa, adk, Ik, Rk, cmk, adq, Iq, Rq, cmq, adc, Ic, Rc, cmc, adn, In, Rn, AL, AI, AR, rs, RL, m9, od9, ao9, hc, -⟩ := id hM
  have r1 := hR.1
  have r2 := hR.2
  have hf := (m_actOf hc ha).2.1
  refine VJ.w_actOf CX hN hM _ _ hf cw hroom hdg ⟨Nat.le_trans (Nat.add_le_add_left (Nat.le_of_ble_eq_true rfl) _) r1, Nat.le_trans (Nat.add_le_add_left (Nat.le_of_ble_eq_true rfl) _) r2⟩ (fun M' L' hL hM' => ?_)
  obtain rfl := hL.ok up_same (by decide +kernel)
  exact VJ.widen (Nat.add_le_add_left (Nat.le_of_ble_eq_true rfl) _) (Nat.add_le_add_left (Nat.le_of_ble_eq_true rfl) _) (k M' hM')

set_option maxHeartbeats 4000000 in
theorem VJ.a_acts {p : Program} {l : Launch} {e : Env} {Rm : Room} {s : State} {m : MethodId} {args : Array Value} {below : List Frame} {meth : Method} {c : Code} {cc : ByteArray} {nL : Nat} {Ts : List Cond} {own : String} {G : va_G} {cI cZ cQ cU cJ : ClassId} {A : Nat → Prop} {O : Type} {Qf : O → State → Prop} {cells slots : Nat} {f : Option O} {M : va_W} {pc : Nat} {lv : List (Nat × Value)} {st : List Value} {t n P d g ox : Nat} {I : OI} {R : RI} (CX : CxX p l s m args meth c cc nL Ts own G vwCl (tys cI cZ cQ cU cJ) nws strs A) (hN : NC s) (hM : LW cI cZ cQ cU 20000 t n P d g ox I R M) {a : Nat} (ha : a < n) {index : Nat} {bytes : ByteArray} {maxL : Nat} {ret : Option FieldType} {hh : List (Nat × Nat × Nat × Nat)} (cw : vx_CSW Rm s args own index yL_actOf bytes maxL ret hh wsL_actOf rmL_actOf rmL_actOf.cells rmL_actOf.slots 3) (hroom : (st.map fun v => v.category).sum ≤ 8) (hdg : decode cc pc = .ok (.invokestatic index, 3)) (hR : cells + 8 ≤ Rm.cells ∧ slots + 48 ≤ Rm.slots) (k : ∀ M' : va_W, LW cI cZ cQ cU 20000 t n P d g ox I R M' → VJ p l e Rm s m args below meth c nL G vwCl A Qf (cells + 8) (slots + 48) f M' (pc + 3) lv (.long ((R 2 a).toInt64) :: st)) : VJ p l e Rm s m args below meth c nL G vwCl A Qf cells slots f M pc lv (.int (nI 2) :: .int (nI a) :: .ref ox :: st) := by
  obtain ⟨ad, Ix, Rx, rf, ra, ta, ea, wa, adk, Ik, Rk, cmk, adq, Iq, Rq, cmq, adc, Ic, Rc, cmc, adn, In, Rn, AL, AI, AR, rs, RL, m9, od9, ao9, hc, -⟩ := id hM
  have r1 := hR.1
  have r2 := hR.2
  have hf := (m_actOf hc ha).2.2.1
  refine VJ.w_actOf CX hN hM _ _ hf cw hroom hdg ⟨Nat.le_trans (Nat.add_le_add_left (Nat.le_of_ble_eq_true rfl) _) r1, Nat.le_trans (Nat.add_le_add_left (Nat.le_of_ble_eq_true rfl) _) r2⟩ (fun M' L' hL hM' => ?_)
  obtain rfl := hL.ok up_same (by decide +kernel)
  exact VJ.widen (Nat.add_le_add_left (Nat.le_of_ble_eq_true rfl) _) (Nat.add_le_add_left (Nat.le_of_ble_eq_true rfl) _) (k M' hM')

set_option maxHeartbeats 4000000 in
theorem VJ.a_actp {p : Program} {l : Launch} {e : Env} {Rm : Room} {s : State} {m : MethodId} {args : Array Value} {below : List Frame} {meth : Method} {c : Code} {cc : ByteArray} {nL : Nat} {Ts : List Cond} {own : String} {G : va_G} {cI cZ cQ cU cJ : ClassId} {A : Nat → Prop} {O : Type} {Qf : O → State → Prop} {cells slots : Nat} {f : Option O} {M : va_W} {pc : Nat} {lv : List (Nat × Value)} {st : List Value} {t n P d g ox : Nat} {I : OI} {R : RI} (CX : CxX p l s m args meth c cc nL Ts own G vwCl (tys cI cZ cQ cU cJ) nws strs A) (hN : NC s) (hM : LW cI cZ cQ cU 20000 t n P d g ox I R M) {a : Nat} (ha : a < n) {index : Nat} {bytes : ByteArray} {maxL : Nat} {ret : Option FieldType} {hh : List (Nat × Nat × Nat × Nat)} (cw : vx_CSW Rm s args own index yL_actOf bytes maxL ret hh wsL_actOf rmL_actOf rmL_actOf.cells rmL_actOf.slots 3) (hroom : (st.map fun v => v.category).sum ≤ 8) (hdg : decode cc pc = .ok (.invokestatic index, 3)) (hR : cells + 8 ≤ Rm.cells ∧ slots + 48 ≤ Rm.slots) (k : ∀ M' : va_W, LW cI cZ cQ cU 20000 t n P d g ox I R M' → VJ p l e Rm s m args below meth c nL G vwCl A Qf (cells + 8) (slots + 48) f M' (pc + 3) lv (.long ((R 3 a).toInt64) :: st)) : VJ p l e Rm s m args below meth c nL G vwCl A Qf cells slots f M pc lv (.int (nI 3) :: .int (nI a) :: .ref ox :: st) := by
  obtain ⟨ad, Ix, Rx, rf, ra, ta, ea, wa, adk, Ik, Rk, cmk, adq, Iq, Rq, cmq, adc, Ic, Rc, cmc, adn, In, Rn, AL, AI, AR, rs, RL, m9, od9, ao9, hc, -⟩ := id hM
  have r1 := hR.1
  have r2 := hR.2
  have hf := (m_actOf hc ha).2.2.2.1
  refine VJ.w_actOf CX hN hM _ _ hf cw hroom hdg ⟨Nat.le_trans (Nat.add_le_add_left (Nat.le_of_ble_eq_true rfl) _) r1, Nat.le_trans (Nat.add_le_add_left (Nat.le_of_ble_eq_true rfl) _) r2⟩ (fun M' L' hL hM' => ?_)
  obtain rfl := hL.ok up_same (by decide +kernel)
  exact VJ.widen (Nat.add_le_add_left (Nat.le_of_ble_eq_true rfl) _) (Nat.add_le_add_left (Nat.le_of_ble_eq_true rfl) _) (k M' hM')

set_option maxHeartbeats 4000000 in
theorem VJ.a_actx {p : Program} {l : Launch} {e : Env} {Rm : Room} {s : State} {m : MethodId} {args : Array Value} {below : List Frame} {meth : Method} {c : Code} {cc : ByteArray} {nL : Nat} {Ts : List Cond} {own : String} {G : va_G} {cI cZ cQ cU cJ : ClassId} {A : Nat → Prop} {O : Type} {Qf : O → State → Prop} {cells slots : Nat} {f : Option O} {M : va_W} {pc : Nat} {lv : List (Nat × Value)} {st : List Value} {t n P d g ox : Nat} {I : OI} {R : RI} (CX : CxX p l s m args meth c cc nL Ts own G vwCl (tys cI cZ cQ cU cJ) nws strs A) (hN : NC s) (hM : LW cI cZ cQ cU 20000 t n P d g ox I R M) {a : Nat} (ha : a < n) {index : Nat} {bytes : ByteArray} {maxL : Nat} {ret : Option FieldType} {hh : List (Nat × Nat × Nat × Nat)} (cw : vx_CSW Rm s args own index yL_actOf bytes maxL ret hh wsL_actOf rmL_actOf rmL_actOf.cells rmL_actOf.slots 3) (hroom : (st.map fun v => v.category).sum ≤ 8) (hdg : decode cc pc = .ok (.invokestatic index, 3)) (hR : cells + 8 ≤ Rm.cells ∧ slots + 48 ≤ Rm.slots) (k : ∀ M' : va_W, LW cI cZ cQ cU 20000 t n P d g ox I R M' → VJ p l e Rm s m args below meth c nL G vwCl A Qf (cells + 8) (slots + 48) f M' (pc + 3) lv (.long ((R 7 a).toInt64) :: st)) : VJ p l e Rm s m args below meth c nL G vwCl A Qf cells slots f M pc lv (.int (nI 4) :: .int (nI a) :: .ref ox :: st) := by
  obtain ⟨ad, Ix, Rx, rf, ra, ta, ea, wa, adk, Ik, Rk, cmk, adq, Iq, Rq, cmq, adc, Ic, Rc, cmc, adn, In, Rn, AL, AI, AR, rs, RL, m9, od9, ao9, hc, -⟩ := id hM
  have r1 := hR.1
  have r2 := hR.2
  have hf := (m_actOf hc ha).2.2.2.2
  refine VJ.w_actOf CX hN hM _ _ hf cw hroom hdg ⟨Nat.le_trans (Nat.add_le_add_left (Nat.le_of_ble_eq_true rfl) _) r1, Nat.le_trans (Nat.add_le_add_left (Nat.le_of_ble_eq_true rfl) _) r2⟩ (fun M' L' hL hM' => ?_)
  obtain rfl := hL.ok up_same (by decide +kernel)
  exact VJ.widen (Nat.add_le_add_left (Nat.le_of_ble_eq_true rfl) _) (Nat.add_le_add_left (Nat.le_of_ble_eq_true rfl) _) (k M' hM')

set_option maxHeartbeats 4000000 in
theorem VJ.a_looks {p : Program} {l : Launch} {e : Env} {Rm : Room} {s : State} {m : MethodId} {args : Array Value} {below : List Frame} {meth : Method} {c : Code} {cc : ByteArray} {nL : Nat} {Ts : List Cond} {own : String} {G : va_G} {cI cZ cQ cU cJ : ClassId} {A : Nat → Prop} {O : Type} {Qf : O → State → Prop} {cells slots : Nat} {f : Option O} {M : va_W} {pc : Nat} {lv : List (Nat × Value)} {st : List Value} {t n P d g ox : Nat} {I : OI} {R : RI} (CX : CxX p l s m args meth c cc nL Ts own G vwCl (tys cI cZ cQ cU cJ) nws strs A) (hN : NC s) (hM : LW cI cZ cQ cU 20000 t n P d g ox I R M) {q : Nat} (hq : q < P) {index : Nat} {bytes : ByteArray} {maxL : Nat} {ret : Option FieldType} {hh : List (Nat × Nat × Nat × Nat)} (cw : vx_CSW Rm s args own index yL_looks bytes maxL ret hh wsL_looks rmL_looks rmL_looks.cells rmL_looks.slots 2) (hroom : (st.map fun v => v.category).sum ≤ 8) (hdg : decode cc pc = .ok (.invokestatic index, 3)) (hR : cells + 8 ≤ Rm.cells ∧ slots + 48 ≤ Rm.slots) (k : ∀ M' : va_W, LW cI cZ cQ cU 20000 t n P d g ox I R M' → VJ p l e Rm s m args below meth c nL G vwCl A Qf (cells + 8) (slots + 48) f M' (pc + 3) lv (.long ((R 28 q).toInt64) :: st)) : VJ p l e Rm s m args below meth c nL G vwCl A Qf cells slots f M pc lv (.int (nI q) :: .ref ox :: st) := by
  obtain ⟨ad, Ix, Rx, rf, ra, ta, ea, wa, adk, Ik, Rk, cmk, adq, Iq, Rq, cmq, adc, Ic, Rc, cmc, adn, In, Rn, AL, AI, AR, rs, RL, m9, od9, ao9, hc, -⟩ := id hM
  have r1 := hR.1
  have r2 := hR.2
  have hf := m_looks hc hq
  refine VJ.w_looks CX hN hM _ hf cw hroom hdg ⟨Nat.le_trans (Nat.add_le_add_left (Nat.le_of_ble_eq_true rfl) _) r1, Nat.le_trans (Nat.add_le_add_left (Nat.le_of_ble_eq_true rfl) _) r2⟩ (fun M' L' hL hM' => ?_)
  obtain rfl := hL.ok up_same (by decide +kernel)
  exact VJ.widen (Nat.add_le_add_left (Nat.le_of_ble_eq_true rfl) _) (Nat.add_le_add_left (Nat.le_of_ble_eq_true rfl) _) (k M' hM')

set_option maxHeartbeats 4000000 in
theorem VJ.a_owes {p : Program} {l : Launch} {e : Env} {Rm : Room} {s : State} {m : MethodId} {args : Array Value} {below : List Frame} {meth : Method} {c : Code} {cc : ByteArray} {nL : Nat} {Ts : List Cond} {own : String} {G : va_G} {cI cZ cQ cU cJ : ClassId} {A : Nat → Prop} {O : Type} {Qf : O → State → Prop} {cells slots : Nat} {f : Option O} {M : va_W} {pc : Nat} {lv : List (Nat × Value)} {st : List Value} {t n P d g ox : Nat} {I : OI} {R : RI} (CX : CxX p l s m args meth c cc nL Ts own G vwCl (tys cI cZ cQ cU cJ) nws strs A) (hN : NC s) (hM : LW cI cZ cQ cU 20000 t n P d g ox I R M) {z r kd off : Nat} {Rl : RI} {lo : Nat → Nat} (L : LAND 20000 P I R d d Rl lo) (hz : z ≤ 5) (h7 : I 7 = nI z) (hr : r < z) (hk : kd < 4) (ek : R 22 r = nI kd) (ho : off < 4) (eo : R 23 r = nI off) {index : Nat} {bytes : ByteArray} {maxL : Nat} {ret : Option FieldType} {hh : List (Nat × Nat × Nat × Nat)} (cw : vx_CSW Rm s args own index yL_owes bytes maxL ret hh wsL_owes rmL_owes rmL_owes.cells rmL_owes.slots 2) (hroom : (st.map fun v => v.category).sum ≤ 8) (hdg : decode cc pc = .ok (.invokestatic index, 3)) (hR : cells + 8 ≤ Rm.cells ∧ slots + 48 ≤ Rm.slots) (k : ∀ M' : va_W, LW cI cZ cQ cU 20000 t n P d g ox I R M' → VJ p l e Rm s m args below meth c nL G vwCl A Qf (cells + 8) (slots + 48) f M' (pc + 3) lv (.long ((nI (cnt (dueq Rl R d kd off r) 0 P)).toInt64) :: st)) : VJ p l e Rm s m args below meth c nL G vwCl A Qf cells slots f M pc lv (.int (nI r) :: .ref ox :: st) := by
  obtain ⟨ad, Ix, Rx, rf, ra, ta, ea, wa, adk, Ik, Rk, cmk, adq, Iq, Rq, cmq, adc, Ic, Rc, cmc, adn, In, Rn, AL, AI, AR, rs, RL, m9, od9, ao9, hc, -⟩ := id hM
  have r1 := hR.1
  have r2 := hR.2
  obtain ⟨R', hf⟩ := m_owes hc (Nat.le_of_ble_eq_true rfl) L hz h7 hr hk ek ho eo
  refine VJ.w_owes CX hN hM _ hf cw hroom hdg ⟨Nat.le_trans (Nat.add_le_add_left (Nat.le_of_ble_eq_true rfl) _) r1, Nat.le_trans (Nat.add_le_add_left (Nat.le_of_ble_eq_true rfl) _) r2⟩ (fun M' L' hL hM' => ?_)
  obtain rfl := hL.ok up_same (by decide +kernel)
  exact VJ.widen (Nat.add_le_add_left (Nat.le_of_ble_eq_true rfl) _) (Nat.add_le_add_left (Nat.le_of_ble_eq_true rfl) _) (k M' hM')

set_option maxHeartbeats 4000000 in
theorem VJ.a_holds {p : Program} {l : Launch} {e : Env} {Rm : Room} {s : State} {m : MethodId} {args : Array Value} {below : List Frame} {meth : Method} {c : Code} {cc : ByteArray} {nL : Nat} {Ts : List Cond} {own : String} {G : va_G} {cI cZ cQ cU cJ : ClassId} {A : Nat → Prop} {O : Type} {Qf : O → State → Prop} {cells slots : Nat} {f : Option O} {M : va_W} {pc : Nat} {lv : List (Nat × Value)} {st : List Value} {t n P d g ox : Nat} {I : OI} {R : RI} (CX : CxX p l s m args meth c cc nL Ts own G vwCl (tys cI cZ cQ cU cJ) nws strs A) (hN : NC s) (hM : LW cI cZ cQ cU 20000 t n P d g ox I R M) {z r q : Nat} (hz : z ≤ 5) (h7 : I 7 = nI z) (hr : r < z) (hq : q < P) {index : Nat} {bytes : ByteArray} {maxL : Nat} {ret : Option FieldType} {hh : List (Nat × Nat × Nat × Nat)} (cw : vx_CSW Rm s args own index yL_holds bytes maxL ret hh wsL_holds rmL_holds rmL_holds.cells rmL_holds.slots 3) (hroom : (st.map fun v => v.category).sum ≤ 8) (hdg : decode cc pc = .ok (.invokestatic index, 3)) (hR : cells + 8 ≤ Rm.cells ∧ slots + 48 ≤ Rm.slots) (k : ∀ M' : va_W, LW cI cZ cQ cU 20000 t n P d g ox I R M' → VJ p l e Rm s m args below meth c nL G vwCl A Qf (cells + 8) (slots + 48) f M' (pc + 3) lv (.long ((R 24 (24 * r + q)).toInt64) :: st)) : VJ p l e Rm s m args below meth c nL G vwCl A Qf cells slots f M pc lv (.int (nI q) :: .int (nI r) :: .ref ox :: st) := by
  obtain ⟨ad, Ix, Rx, rf, ra, ta, ea, wa, adk, Ik, Rk, cmk, adq, Iq, Rq, cmq, adc, Ic, Rc, cmc, adn, In, Rn, AL, AI, AR, rs, RL, m9, od9, ao9, hc, -⟩ := id hM
  have r1 := hR.1
  have r2 := hR.2
  have hf := (m_holds hc hz h7 hr hq).1
  refine VJ.w_holds CX hN hM _ _ hf cw hroom hdg ⟨Nat.le_trans (Nat.add_le_add_left (Nat.le_of_ble_eq_true rfl) _) r1, Nat.le_trans (Nat.add_le_add_left (Nat.le_of_ble_eq_true rfl) _) r2⟩ (fun M' L' hL hM' => ?_)
  obtain rfl := hL.ok up_same (by decide +kernel)
  exact VJ.widen (Nat.add_le_add_left (Nat.le_of_ble_eq_true rfl) _) (Nat.add_le_add_left (Nat.le_of_ble_eq_true rfl) _) (k M' hM')

set_option maxHeartbeats 4000000 in
theorem VJ.a_holdsAnew {p : Program} {l : Launch} {e : Env} {Rm : Room} {s : State} {m : MethodId} {args : Array Value} {below : List Frame} {meth : Method} {c : Code} {cc : ByteArray} {nL : Nat} {Ts : List Cond} {own : String} {G : va_G} {cI cZ cQ cU cJ : ClassId} {A : Nat → Prop} {O : Type} {Qf : O → State → Prop} {cells slots : Nat} {f : Option O} {M : va_W} {pc : Nat} {lv : List (Nat × Value)} {st : List Value} {t n P d g ox : Nat} {I : OI} {R : RI} (CX : CxX p l s m args meth c cc nL Ts own G vwCl (tys cI cZ cQ cU cJ) nws strs A) (hN : NC s) (hM : LW cI cZ cQ cU 20000 t n P d g ox I R M) {z r q : Nat} (hz : z ≤ 5) (h7 : I 7 = nI z) (hr : r < z) (hq : q < P) {index : Nat} {bytes : ByteArray} {maxL : Nat} {ret : Option FieldType} {hh : List (Nat × Nat × Nat × Nat)} (cw : vx_CSW Rm s args own index yL_holdsAnew bytes maxL ret hh wsL_holdsAnew rmL_holdsAnew rmL_holdsAnew.cells rmL_holdsAnew.slots 3) (hroom : (st.map fun v => v.category).sum ≤ 8) (hdg : decode cc pc = .ok (.invokestatic index, 3)) (hR : cells + 8 ≤ Rm.cells ∧ slots + 48 ≤ Rm.slots) (k : ∀ M' : va_W, LW cI cZ cQ cU 20000 t n P d g ox I R M' → VJ p l e Rm s m args below meth c nL G vwCl A Qf (cells + 8) (slots + 48) f M' (pc + 3) lv (.long ((R 24 (24 * r + q)).toInt64) :: st)) : VJ p l e Rm s m args below meth c nL G vwCl A Qf cells slots f M pc lv (.int (nI q) :: .int (nI r) :: .ref ox :: st) := by
  obtain ⟨ad, Ix, Rx, rf, ra, ta, ea, wa, adk, Ik, Rk, cmk, adq, Iq, Rq, cmq, adc, Ic, Rc, cmc, adn, In, Rn, AL, AI, AR, rs, RL, m9, od9, ao9, hc, -⟩ := id hM
  have r1 := hR.1
  have r2 := hR.2
  have hf := (m_holds hc hz h7 hr hq).2
  refine VJ.w_holdsAnew CX hN hM _ _ hf cw hroom hdg ⟨Nat.le_trans (Nat.add_le_add_left (Nat.le_of_ble_eq_true rfl) _) r1, Nat.le_trans (Nat.add_le_add_left (Nat.le_of_ble_eq_true rfl) _) r2⟩ (fun M' L' hL hM' => ?_)
  obtain rfl := hL.ok up_same (by decide +kernel)
  exact VJ.widen (Nat.add_le_add_left (Nat.le_of_ble_eq_true rfl) _) (Nat.add_le_add_left (Nat.le_of_ble_eq_true rfl) _) (k M' hM')

set_option maxHeartbeats 4000000 in
theorem VJ.a_move {p : Program} {l : Launch} {e : Env} {Rm : Room} {s : State} {m : MethodId} {args : Array Value} {below : List Frame} {meth : Method} {c : Code} {cc : ByteArray} {nL : Nat} {Ts : List Cond} {own : String} {G : va_G} {cI cZ cQ cU cJ : ClassId} {A : Nat → Prop} {O : Type} {Qf : O → State → Prop} {cells slots : Nat} {f : Option O} {M : va_W} {pc : Nat} {lv : List (Nat × Value)} {st : List Value} {t n P d g ox : Nat} {I : OI} {R : RI} (CX : CxX p l s m args meth c cc nL Ts own G vwCl (tys cI cZ cQ cU cJ) nws strs A) (hN : NC s) (hM : LW cI cZ cQ cU 20000 t n P d g ox I R M) {q b w : Nat} (hn : n < 150) (hq : q < P) (hb : b ≤ d) (hw : w < 16) {index : Nat} {bytes : ByteArray} {maxL : Nat} {ret : Option FieldType} {hh : List (Nat × Nat × Nat × Nat)} (cw : vx_CSW Rm s args own index yL_move bytes maxL ret hh wsL_move rmL_move rmL_move.cells rmL_move.slots 4) (hroom : (st.map fun v => v.category).sum ≤ 8) (hdg : decode cc pc = .ok (.invokestatic index, 3)) (hR : cells + 8 ≤ Rm.cells ∧ slots + 48 ≤ Rm.slots) (k : ∀ (M' : va_W) (I' : OI) (R' : RI), LW cI cZ cQ cU 20000 (t + 1) (n + 1) (P) (d) (g) ox I' R' M' → (∀ c, c ≠ 0 → c ≠ 2 → c ≠ 3 → I' c = I c) → (∀ c, c ≠ 8 → R' c = tR R n (nI d) 1 (nI b) (nI q) (-1) (nI w) (-1) c) → VJ p l e Rm s m args below meth c nL G vwCl A Qf (cells + 8) (slots + 48) f M' (pc + 3) lv (.long ((nI n).toInt64) :: st)) : VJ p l e Rm s m args below meth c nL G vwCl A Qf cells slots f M pc lv (.int (nI w) :: .int (nI b) :: .int (nI q) :: .ref ox :: st) := by
  obtain ⟨b1, b2, b3, b4, j2, j4, j1, j5⟩ := hM.iv
  obtain ⟨ad, Ix, Rx, rf, ra, ta, ea, wa, adk, Ik, Rk, cmk, adq, Iq, Rq, cmq, adc, Ic, Rc, cmc, adn, In, Rn, AL, AI, AR, rs, RL, m9, od9, ao9, hc, -⟩ := id hM
  have r1 := hR.1
  have r2 := hR.2
  obtain ⟨I', R', hf, i0, i2, ic, rc⟩ := m_move hc (Nat.le_of_ble_eq_true rfl) hn hq hb hw
  refine VJ.w_move CX hN hM _ _ _ hf cw hroom hdg ⟨Nat.le_trans (Nat.add_le_add_left (Nat.le_of_ble_eq_true rfl) _) r1, Nat.le_trans (Nat.add_le_add_left (Nat.le_of_ble_eq_true rfl) _) r2⟩ (fun M' L' hL => ?_)
  rcases hL with ⟨-, rfl, hM'⟩ | ⟨⟨a9, b9, hm9, hb9, -⟩, -⟩
  · refine VJ.widen (Nat.add_le_add_left (Nat.le_of_ble_eq_true rfl) _) (Nat.add_le_add_left (Nat.le_of_ble_eq_true rfl) _) (k M' _ _ (hM'.at i2 (by omega) ((ic 4 (by omega) (by omega) (by omega)).trans j4) b2 ((ic 1 (by omega) (by omega) (by omega)).trans j1) b3 ((ic 5 (by omega) (by omega) (by omega)).trans j5) b4) ?_ ?_)
    · exact ic
    · exact rc
  · have h9 : ∀ q ∈ e123, nI q.2 ≠ 0 := by decide +kernel
    exact absurd (hb9.symm.trans i0) (h9 _ hm9)

set_option maxHeartbeats 4000000 in
theorem VJ.a_naming {p : Program} {l : Launch} {e : Env} {Rm : Room} {s : State} {m : MethodId} {args : Array Value} {below : List Frame} {meth : Method} {c : Code} {cc : ByteArray} {nL : Nat} {Ts : List Cond} {own : String} {G : va_G} {cI cZ cQ cU cJ : ClassId} {A : Nat → Prop} {O : Type} {Qf : O → State → Prop} {cells slots : Nat} {f : Option O} {M : va_W} {pc : Nat} {lv : List (Nat × Value)} {st : List Value} {t n P d g ox : Nat} {I : OI} {R : RI} (CX : CxX p l s m args meth c cc nL Ts own G vwCl (tys cI cZ cQ cU cJ) nws strs A) (hN : NC s) (hM : LW cI cZ cQ cU 20000 t n P d g ox I R M) {q b w : Nat} (hn : n < 150) (hq : q < P) (hb : b ≤ d) (hw : w < 1000) {index : Nat} {bytes : ByteArray} {maxL : Nat} {ret : Option FieldType} {hh : List (Nat × Nat × Nat × Nat)} (cw : vx_CSW Rm s args own index yL_naming bytes maxL ret hh wsL_naming rmL_naming rmL_naming.cells rmL_naming.slots 4) (hroom : (st.map fun v => v.category).sum ≤ 8) (hdg : decode cc pc = .ok (.invokestatic index, 3)) (hR : cells + 8 ≤ Rm.cells ∧ slots + 48 ≤ Rm.slots) (k : ∀ (M' : va_W) (I' : OI) (R' : RI), LW cI cZ cQ cU 20000 (t + 1) (n + 1) (P) (d) (g) ox I' R' M' → (∀ c, c ≠ 0 → c ≠ 2 → c ≠ 3 → I' c = I c) → (∀ c, c ≠ 8 → R' c = tR R n (nI d) 2 (nI b) (nI q) (-1) (-1) (nI w) c) → VJ p l e Rm s m args below meth c nL G vwCl A Qf (cells + 8) (slots + 48) f M' (pc + 3) lv (.long ((nI n).toInt64) :: st)) : VJ p l e Rm s m args below meth c nL G vwCl A Qf cells slots f M pc lv (.int (nI w) :: .int (nI b) :: .int (nI q) :: .ref ox :: st) := by
  obtain ⟨b1, b2, b3, b4, j2, j4, j1, j5⟩ := hM.iv
  obtain ⟨ad, Ix, Rx, rf, ra, ta, ea, wa, adk, Ik, Rk, cmk, adq, Iq, Rq, cmq, adc, Ic, Rc, cmc, adn, In, Rn, AL, AI, AR, rs, RL, m9, od9, ao9, hc, -⟩ := id hM
  have r1 := hR.1
  have r2 := hR.2
  obtain ⟨I', R', hf, i0, i2, ic, rc⟩ := m_naming hc (Nat.le_of_ble_eq_true rfl) hn hq hb hw
  refine VJ.w_naming CX hN hM _ _ _ hf cw hroom hdg ⟨Nat.le_trans (Nat.add_le_add_left (Nat.le_of_ble_eq_true rfl) _) r1, Nat.le_trans (Nat.add_le_add_left (Nat.le_of_ble_eq_true rfl) _) r2⟩ (fun M' L' hL => ?_)
  rcases hL with ⟨-, rfl, hM'⟩ | ⟨⟨a9, b9, hm9, hb9, -⟩, -⟩
  · refine VJ.widen (Nat.add_le_add_left (Nat.le_of_ble_eq_true rfl) _) (Nat.add_le_add_left (Nat.le_of_ble_eq_true rfl) _) (k M' _ _ (hM'.at i2 (by omega) ((ic 4 (by omega) (by omega) (by omega)).trans j4) b2 ((ic 1 (by omega) (by omega) (by omega)).trans j1) b3 ((ic 5 (by omega) (by omega) (by omega)).trans j5) b4) ?_ ?_)
    · exact ic
    · exact rc
  · have h9 : ∀ q ∈ e123, nI q.2 ≠ 0 := by decide +kernel
    exact absurd (hb9.symm.trans i0) (h9 _ hm9)

set_option maxHeartbeats 4000000 in
theorem VJ.a_tie {p : Program} {l : Launch} {e : Env} {Rm : Room} {s : State} {m : MethodId} {args : Array Value} {below : List Frame} {meth : Method} {c : Code} {cc : ByteArray} {nL : Nat} {Ts : List Cond} {own : String} {G : va_G} {cI cZ cQ cU cJ : ClassId} {A : Nat → Prop} {O : Type} {Qf : O → State → Prop} {cells slots : Nat} {f : Option O} {M : va_W} {pc : Nat} {lv : List (Nat × Value)} {st : List Value} {t n P d g ox : Nat} {I : OI} {R : RI} (CX : CxX p l s m args meth c cc nL Ts own G vwCl (tys cI cZ cQ cU cJ) nws strs A) (hN : NC s) (hM : LW cI cZ cQ cU 20000 t n P d g ox I R M) {kd : Int32} {q1 q2 b : Nat} (hn : n < 150) (hk : kd = 3 ∨ kd = 4 ∨ kd = 6) (h1 : q1 < P) (h2 : q2 < P) (h12 : q1 ≠ q2) (hb : b ≤ d) {index : Nat} {bytes : ByteArray} {maxL : Nat} {ret : Option FieldType} {hh : List (Nat × Nat × Nat × Nat)} (cw : vx_CSW Rm s args own index yL_tie bytes maxL ret hh wsL_tie rmL_tie rmL_tie.cells rmL_tie.slots 5) (hroom : (st.map fun v => v.category).sum ≤ 8) (hdg : decode cc pc = .ok (.invokestatic index, 3)) (hR : cells + 8 ≤ Rm.cells ∧ slots + 48 ≤ Rm.slots) (k : ∀ (M' : va_W) (I' : OI) (R' : RI), LW cI cZ cQ cU 20000 (t + 1) (n + 1) (P) (d) (g) ox I' R' M' → (∀ c, c ≠ 0 → c ≠ 2 → c ≠ 3 → I' c = I c) → (∀ c, c ≠ 8 → R' c = tR R n (nI d) kd (nI b) (nI q1) (nI q2) (-1) (-1) c) → VJ p l e Rm s m args below meth c nL G vwCl A Qf (cells + 8) (slots + 48) f M' (pc + 3) lv (.long ((nI n).toInt64) :: st)) : VJ p l e Rm s m args below meth c nL G vwCl A Qf cells slots f M pc lv (.int (nI b) :: .int (nI q2) :: .int (nI q1) :: .int kd :: .ref ox :: st) := by
  obtain ⟨b1, b2, b3, b4, j2, j4, j1, j5⟩ := hM.iv
  obtain ⟨ad, Ix, Rx, rf, ra, ta, ea, wa, adk, Ik, Rk, cmk, adq, Iq, Rq, cmq, adc, Ic, Rc, cmc, adn, In, Rn, AL, AI, AR, rs, RL, m9, od9, ao9, hc, -⟩ := id hM
  have r1 := hR.1
  have r2 := hR.2
  obtain ⟨I', R', hf, i0, i2, ic, rc⟩ := m_tie hc (Nat.le_of_ble_eq_true rfl) hn hk h1 h2 h12 hb
  refine VJ.w_tie CX hN hM _ _ _ _ hf cw hroom hdg ⟨Nat.le_trans (Nat.add_le_add_left (Nat.le_of_ble_eq_true rfl) _) r1, Nat.le_trans (Nat.add_le_add_left (Nat.le_of_ble_eq_true rfl) _) r2⟩ (fun M' L' hL => ?_)
  rcases hL with ⟨-, rfl, hM'⟩ | ⟨⟨a9, b9, hm9, hb9, -⟩, -⟩
  · refine VJ.widen (Nat.add_le_add_left (Nat.le_of_ble_eq_true rfl) _) (Nat.add_le_add_left (Nat.le_of_ble_eq_true rfl) _) (k M' _ _ (hM'.at i2 (by omega) ((ic 4 (by omega) (by omega) (by omega)).trans j4) b2 ((ic 1 (by omega) (by omega) (by omega)).trans j1) b3 ((ic 5 (by omega) (by omega) (by omega)).trans j5) b4) ?_ ?_)
    · exact ic
    · exact rc
  · have h9 : ∀ q ∈ e123, nI q.2 ≠ 0 := by decide +kernel
    exact absurd (hb9.symm.trans i0) (h9 _ hm9)

set_option maxHeartbeats 4000000 in
theorem VJ.a_death {p : Program} {l : Launch} {e : Env} {Rm : Room} {s : State} {m : MethodId} {args : Array Value} {below : List Frame} {meth : Method} {c : Code} {cc : ByteArray} {nL : Nat} {Ts : List Cond} {own : String} {G : va_G} {cI cZ cQ cU cJ : ClassId} {A : Nat → Prop} {O : Type} {Qf : O → State → Prop} {cells slots : Nat} {f : Option O} {M : va_W} {pc : Nat} {lv : List (Nat × Value)} {st : List Value} {t n P d g ox : Nat} {I : OI} {R : RI} (CX : CxX p l s m args meth c cc nL Ts own G vwCl (tys cI cZ cQ cU cJ) nws strs A) (hN : NC s) (hM : LW cI cZ cQ cU 20000 t n P d g ox I R M) {q b : Nat} (hn : n < 150) (hq : q < P) (hb : b ≤ d) {index : Nat} {bytes : ByteArray} {maxL : Nat} {ret : Option FieldType} {hh : List (Nat × Nat × Nat × Nat)} (cw : vx_CSW Rm s args own index yL_death bytes maxL ret hh wsL_death rmL_death rmL_death.cells rmL_death.slots 3) (hroom : (st.map fun v => v.category).sum ≤ 8) (hdg : decode cc pc = .ok (.invokestatic index, 3)) (hR : cells + 8 ≤ Rm.cells ∧ slots + 48 ≤ Rm.slots) (k : ∀ (M' : va_W) (I' : OI) (R' : RI), LW cI cZ cQ cU 20000 (t + 1) (n + 1) (P) (d) (g) ox I' R' M' → (∀ c, c ≠ 0 → c ≠ 2 → c ≠ 3 → I' c = I c) → (∀ c, c ≠ 8 → R' c = tR R n (nI d) 5 (nI b) (nI q) (-1) (-1) (-1) c) → VJ p l e Rm s m args below meth c nL G vwCl A Qf (cells + 8) (slots + 48) f M' (pc + 3) lv (.long ((nI n).toInt64) :: st)) : VJ p l e Rm s m args below meth c nL G vwCl A Qf cells slots f M pc lv (.int (nI b) :: .int (nI q) :: .ref ox :: st) := by
  obtain ⟨b1, b2, b3, b4, j2, j4, j1, j5⟩ := hM.iv
  obtain ⟨ad, Ix, Rx, rf, ra, ta, ea, wa, adk, Ik, Rk, cmk, adq, Iq, Rq, cmq, adc, Ic, Rc, cmc, adn, In, Rn, AL, AI, AR, rs, RL, m9, od9, ao9, hc, -⟩ := id hM
  have r1 := hR.1
  have r2 := hR.2
  obtain ⟨I', R', hf, i0, i2, ic, rc⟩ := m_death hc (Nat.le_of_ble_eq_true rfl) hn hq hb
  refine VJ.w_death CX hN hM _ _ hf cw hroom hdg ⟨Nat.le_trans (Nat.add_le_add_left (Nat.le_of_ble_eq_true rfl) _) r1, Nat.le_trans (Nat.add_le_add_left (Nat.le_of_ble_eq_true rfl) _) r2⟩ (fun M' L' hL => ?_)
  rcases hL with ⟨-, rfl, hM'⟩ | ⟨⟨a9, b9, hm9, hb9, -⟩, -⟩
  · refine VJ.widen (Nat.add_le_add_left (Nat.le_of_ble_eq_true rfl) _) (Nat.add_le_add_left (Nat.le_of_ble_eq_true rfl) _) (k M' _ _ (hM'.at i2 (by omega) ((ic 4 (by omega) (by omega) (by omega)).trans j4) b2 ((ic 1 (by omega) (by omega) (by omega)).trans j1) b3 ((ic 5 (by omega) (by omega) (by omega)).trans j5) b4) ?_ ?_)
    · exact ic
    · exact rc
  · have h9 : ∀ q ∈ e123, nI q.2 ≠ 0 := by decide +kernel
    exact absurd (hb9.symm.trans i0) (h9 _ hm9)

set_option maxHeartbeats 4000000 in
theorem VJ.a_join {p : Program} {l : Launch} {e : Env} {Rm : Room} {s : State} {m : MethodId} {args : Array Value} {below : List Frame} {meth : Method} {c : Code} {cc : ByteArray} {nL : Nat} {Ts : List Cond} {own : String} {G : va_G} {cI cZ cQ cU cJ : ClassId} {A : Nat → Prop} {O : Type} {Qf : O → State → Prop} {cells slots : Nat} {f : Option O} {M : va_W} {pc : Nat} {lv : List (Nat × Value)} {st : List Value} {t n P d g ox : Nat} {I : OI} {R : RI} (CX : CxX p l s m args meth c cc nL Ts own G vwCl (tys cI cZ cQ cU cJ) nws strs A) (hN : NC s) (hM : LW cI cZ cQ cU 20000 t n P d g ox I R M) {q1 q2 : Nat} (hn : n < 150) (h2 : q2 < P) (h12 : q1 < q2) {index : Nat} {bytes : ByteArray} {maxL : Nat} {ret : Option FieldType} {hh : List (Nat × Nat × Nat × Nat)} (cw : vx_CSW Rm s args own index yL_join bytes maxL ret hh wsL_join rmL_join rmL_join.cells rmL_join.slots 3) (hroom : (st.map fun v => v.category).sum ≤ 8) (hdg : decode cc pc = .ok (.invokestatic index, 3)) (hR : cells + 8 ≤ Rm.cells ∧ slots + 48 ≤ Rm.slots) (k : ∀ (M' : va_W) (I' : OI) (R' : RI), LW cI cZ cQ cU 20000 (t + 1) (n + 1) (P) (d) (g) ox I' R' M' → (∀ c, c ≠ 0 → c ≠ 2 → c ≠ 3 → I' c = I c) → (∀ c, c ≠ 8 → R' c = tR R n (nI d) 7 (-1) (nI q1) (nI q2) (-1) (-1) c) → VJ p l e Rm s m args below meth c nL G vwCl A Qf (cells + 8) (slots + 48) f M' (pc + 3) lv (.long ((nI n).toInt64) :: st)) : VJ p l e Rm s m args below meth c nL G vwCl A Qf cells slots f M pc lv (.int (nI q2) :: .int (nI q1) :: .ref ox :: st) := by
  obtain ⟨b1, b2, b3, b4, j2, j4, j1, j5⟩ := hM.iv
  obtain ⟨ad, Ix, Rx, rf, ra, ta, ea, wa, adk, Ik, Rk, cmk, adq, Iq, Rq, cmq, adc, Ic, Rc, cmc, adn, In, Rn, AL, AI, AR, rs, RL, m9, od9, ao9, hc, -⟩ := id hM
  have r1 := hR.1
  have r2 := hR.2
  obtain ⟨I', R', hf, i0, i2, ic, rc⟩ := m_join hc (Nat.le_of_ble_eq_true rfl) hn h2 h12
  refine VJ.w_join CX hN hM _ _ hf cw hroom hdg ⟨Nat.le_trans (Nat.add_le_add_left (Nat.le_of_ble_eq_true rfl) _) r1, Nat.le_trans (Nat.add_le_add_left (Nat.le_of_ble_eq_true rfl) _) r2⟩ (fun M' L' hL => ?_)
  rcases hL with ⟨-, rfl, hM'⟩ | ⟨⟨a9, b9, hm9, hb9, -⟩, -⟩
  · refine VJ.widen (Nat.add_le_add_left (Nat.le_of_ble_eq_true rfl) _) (Nat.add_le_add_left (Nat.le_of_ble_eq_true rfl) _) (k M' _ _ (hM'.at i2 (by omega) ((ic 4 (by omega) (by omega) (by omega)).trans j4) b2 ((ic 1 (by omega) (by omega) (by omega)).trans j1) b3 ((ic 5 (by omega) (by omega) (by omega)).trans j5) b4) ?_ ?_)
    · exact ic
    · exact rc
  · have h9 : ∀ q ∈ e123, nI q.2 ≠ 0 := by decide +kernel
    exact absurd (hb9.symm.trans i0) (h9 _ hm9)

set_option maxHeartbeats 4000000 in
theorem VJ.a_strike {p : Program} {l : Launch} {e : Env} {Rm : Room} {s : State} {m : MethodId} {args : Array Value} {below : List Frame} {meth : Method} {c : Code} {cc : ByteArray} {nL : Nat} {Ts : List Cond} {own : String} {G : va_G} {cI cZ cQ cU cJ : ClassId} {A : Nat → Prop} {O : Type} {Qf : O → State → Prop} {cells slots : Nat} {f : Option O} {M : va_W} {pc : Nat} {lv : List (Nat × Value)} {st : List Value} {t n P d g ox : Nat} {I : OI} {R : RI} (CX : CxX p l s m args meth c cc nL Ts own G vwCl (tys cI cZ cQ cU cJ) nws strs A) (hN : NC s) (hM : LW cI cZ cQ cU 20000 t n P d g ox I R M) {a : Nat} (hn : n < 150) (ha : a < n) (h0 : R 0 a ≠ 8) (h7 : R 7 a = -1) {index : Nat} {bytes : ByteArray} {maxL : Nat} {ret : Option FieldType} {hh : List (Nat × Nat × Nat × Nat)} (cw : vx_CSW Rm s args own index yL_strike bytes maxL ret hh wsL_strike rmL_strike rmL_strike.cells rmL_strike.slots 2) (hroom : (st.map fun v => v.category).sum ≤ 8) (hdg : decode cc pc = .ok (.invokestatic index, 3)) (hR : cells + 8 ≤ Rm.cells ∧ slots + 48 ≤ Rm.slots) (k : ∀ (M' : va_W) (I' : OI) (R' : RI), LW cI cZ cQ cU 20000 (t + 1) (n + 1) (P) (d) (g) ox I' R' M' → (∀ c, c ≠ 0 → c ≠ 2 → c ≠ 3 → I' c = I c) → (∀ c, c ≠ 8 → R' c = tR (va_up R 7 (upd (R 7) a (nI n))) n (nI d) 8 (-1) (-1) (nI a) (-1) (-1) c) → VJ p l e Rm s m args below meth c nL G vwCl A Qf (cells + 8) (slots + 48) f M' (pc + 3) lv (.long ((nI n).toInt64) :: st)) : VJ p l e Rm s m args below meth c nL G vwCl A Qf cells slots f M pc lv (.int (nI a) :: .ref ox :: st) := by
  obtain ⟨b1, b2, b3, b4, j2, j4, j1, j5⟩ := hM.iv
  obtain ⟨ad, Ix, Rx, rf, ra, ta, ea, wa, adk, Ik, Rk, cmk, adq, Iq, Rq, cmq, adc, Ic, Rc, cmc, adn, In, Rn, AL, AI, AR, rs, RL, m9, od9, ao9, hc, -⟩ := id hM
  have r1 := hR.1
  have r2 := hR.2
  obtain ⟨I', R', hf, i0, i2, ic, rc⟩ := m_strike hc (Nat.le_of_ble_eq_true rfl) hn ha h0 h7
  refine VJ.w_strike CX hN hM _ hf cw hroom hdg ⟨Nat.le_trans (Nat.add_le_add_left (Nat.le_of_ble_eq_true rfl) _) r1, Nat.le_trans (Nat.add_le_add_left (Nat.le_of_ble_eq_true rfl) _) r2⟩ (fun M' L' hL => ?_)
  rcases hL with ⟨-, rfl, hM'⟩ | ⟨⟨a9, b9, hm9, hb9, -⟩, -⟩
  · refine VJ.widen (Nat.add_le_add_left (Nat.le_of_ble_eq_true rfl) _) (Nat.add_le_add_left (Nat.le_of_ble_eq_true rfl) _) (k M' _ _ (hM'.at i2 (by omega) ((ic 4 (by omega) (by omega) (by omega)).trans j4) b2 ((ic 1 (by omega) (by omega) (by omega)).trans j1) b3 ((ic 5 (by omega) (by omega) (by omega)).trans j5) b4) ?_ ?_)
    · exact ic
    · exact rc
  · have h9 : ∀ q ∈ e13, nI q.2 ≠ 0 := by decide +kernel
    exact absurd (hb9.symm.trans i0) (h9 _ hm9)

set_option maxHeartbeats 4000000 in
theorem VJ.a_birth {p : Program} {l : Launch} {e : Env} {Rm : Room} {s : State} {m : MethodId} {args : Array Value} {below : List Frame} {meth : Method} {c : Code} {cc : ByteArray} {nL : Nat} {Ts : List Cond} {own : String} {G : va_G} {cI cZ cQ cU cJ : ClassId} {A : Nat → Prop} {O : Type} {Qf : O → State → Prop} {cells slots : Nat} {f : Option O} {M : va_W} {pc : Nat} {lv : List (Nat × Value)} {st : List Value} {t n P d g ox : Nat} {I : OI} {R : RI} (CX : CxX p l s m args meth c cc nL Ts own G vwCl (tys cI cZ cQ cU cJ) nws strs A) (hN : NC s) (hM : LW cI cZ cQ cU 20000 t n P d g ox I R M) {b w v : Nat} {mo : Int32} (hn : n < 150) (hP : P < 24) (hg : g < 60) (hb : b ≤ d) (hm : PN P mo) (hw : w < 16) (hv : v < 1000) {index : Nat} {bytes : ByteArray} {maxL : Nat} {ret : Option FieldType} {hh : List (Nat × Nat × Nat × Nat)} (cw : vx_CSW Rm s args own index yL_birth bytes maxL ret hh wsL_birth rmL_birth rmL_birth.cells rmL_birth.slots 5) (hroom : (st.map fun v => v.category).sum ≤ 8) (hdg : decode cc pc = .ok (.invokestatic index, 3)) (hR : cells + 8 ≤ Rm.cells ∧ slots + 48 ≤ Rm.slots) (k : ∀ (M' : va_W) (I' : OI) (R' : RI), LW cI cZ cQ cU 20000 (t + 1) (n + 1) (P + 1) (d) (g + 1) ox I' R' M' → (I' 7 = I 7) → (∀ c, c ≠ 8 → c ≠ 9 → c ≠ 10 → R' c = tR R n (nI d) 0 (nI b) (nI P) mo (nI w) (nI v) c) → (R' 9 = upd (R 9) g (nI (numv g))) → (R' 10 = upd (R 10) g (nI P)) → VJ p l e Rm s m args below meth c nL G vwCl A Qf (cells + 8) (slots + 48) f M' (pc + 3) lv (.long ((nI P).toInt64) :: st)) : VJ p l e Rm s m args below meth c nL G vwCl A Qf cells slots f M pc lv (.int (nI v) :: .int (nI w) :: .int mo :: .int (nI b) :: .ref ox :: st) := by
  obtain ⟨b1, b2, b3, b4, j2, j4, j1, j5⟩ := hM.iv
  obtain ⟨ad, Ix, Rx, rf, ra, ta, ea, wa, adk, Ik, Rk, cmk, adq, Iq, Rq, cmq, adc, Ic, Rc, cmc, adn, In, Rn, AL, AI, AR, rs, RL, m9, od9, ao9, hc, -⟩ := id hM
  have r1 := hR.1
  have r2 := hR.2
  obtain ⟨I', R', hf, i0, i1, i2, i4, i5, i7, rc, r9, r10⟩ := m_birth hc (Nat.le_of_ble_eq_true rfl) hn hP hg hb hm hw hv
  refine VJ.w_birth CX hN hM _ _ _ _ hf cw hroom hdg ⟨Nat.le_trans (Nat.add_le_add_left (Nat.le_of_ble_eq_true rfl) _) r1, Nat.le_trans (Nat.add_le_add_left (Nat.le_of_ble_eq_true rfl) _) r2⟩ (fun M' L' hL => ?_)
  rcases hL with ⟨-, rfl, hM'⟩ | ⟨⟨a9, b9, hm9, hb9, -⟩, -⟩
  · refine VJ.widen (Nat.add_le_add_left (Nat.le_of_ble_eq_true rfl) _) (Nat.add_le_add_left (Nat.le_of_ble_eq_true rfl) _) (k M' _ _ (hM'.at i2 (by omega) i4 (by omega) (i1.trans j1) b3 i5 (by omega)) ?_ ?_ ?_ ?_)
    · exact i7
    · exact rc
    · exact r9
    · exact r10
  · have h9 : ∀ q ∈ e123, nI q.2 ≠ 0 := by decide +kernel
    exact absurd (hb9.symm.trans i0) (h9 _ hm9)

set_option maxHeartbeats 4000000 in
theorem VJ.a_birth_no {p : Program} {l : Launch} {e : Env} {Rm : Room} {s : State} {m : MethodId} {args : Array Value} {below : List Frame} {meth : Method} {c : Code} {cc : ByteArray} {nL : Nat} {Ts : List Cond} {own : String} {G : va_G} {cI cZ cQ cU cJ : ClassId} {A : Nat → Prop} {O : Type} {Qf : O → State → Prop} {cells slots : Nat} {f : Option O} {M : va_W} {pc : Nat} {lv : List (Nat × Value)} {st : List Value} {t n P d g ox : Nat} {I : OI} {R : RI} (CX : CxX p l s m args meth c cc nL Ts own G vwCl (tys cI cZ cQ cU cJ) nws strs A) (hN : NC s) (hM : LW cI cZ cQ cU 20000 t n P d g ox I R M) {b w v : Nat} {mo : Int32} (hP : P = 24) (hb : b ≤ d) (hm : PN P mo) (hw : w < 16) (hv : v < 1000) {index : Nat} {bytes : ByteArray} {maxL : Nat} {ret : Option FieldType} {hh : List (Nat × Nat × Nat × Nat)} (cw : vx_CSW Rm s args own index yL_birth bytes maxL ret hh wsL_birth rmL_birth rmL_birth.cells rmL_birth.slots 5) (hroom : (st.map fun v => v.category).sum ≤ 8) (hdg : decode cc pc = .ok (.invokestatic index, 3)) (hR : cells + 8 ≤ Rm.cells ∧ slots + 48 ≤ Rm.slots) (k : ∀ M' : va_W, LW cI cZ cQ cU 20000 t n P d g ox I R M' → VJ p l e Rm s m args below meth c nL G vwCl A Qf (cells + 8) (slots + 48) f M' (pc + 3) lv (.long (kode 3) :: st)) : VJ p l e Rm s m args below meth c nL G vwCl A Qf cells slots f M pc lv (.int (nI v) :: .int (nI w) :: .int mo :: .int (nI b) :: .ref ox :: st) := by
  obtain ⟨b1, b2, b3, b4, j2, j4, j1, j5⟩ := hM.iv
  obtain ⟨ad, Ix, Rx, rf, ra, ta, ea, wa, adk, Ik, Rk, cmk, adq, Iq, Rq, cmq, adc, Ic, Rc, cmc, adn, In, Rn, AL, AI, AR, rs, RL, m9, od9, ao9, hc, -⟩ := id hM
  have r1 := hR.1
  have r2 := hR.2
  have hf := m_birth_no hc hP hb hm hw hv
  refine VJ.w_birth CX hN hM _ _ _ _ hf cw hroom hdg ⟨Nat.le_trans (Nat.add_le_add_left (Nat.le_of_ble_eq_true rfl) _) r1, Nat.le_trans (Nat.add_le_add_left (Nat.le_of_ble_eq_true rfl) _) r2⟩ (fun M' L' hL => ?_)
  have hy : (va_up I 0 3) 0 = nI 3 := up_same
  rcases hL with ⟨h0, -, -⟩ | ⟨⟨a9, b9, hm9, hb9, rfl⟩, hM'⟩
  · exact absurd (hy.symm.trans h0) (by decide)
  · have h9 : ∀ q ∈ e123, nI q.2 = nI 3 → q.1 = 3 := by decide +kernel
    have h8 := h9 _ hm9 (hb9.symm.trans hy)
    dsimp only at h8
    subst h8
    exact VJ.widen (Nat.add_le_add_left (Nat.le_of_ble_eq_true rfl) _) (Nat.add_le_add_left (Nat.le_of_ble_eq_true rfl) _) (k M' hM')

set_option maxHeartbeats 4000000 in
theorem VJ.a_strike_no {p : Program} {l : Launch} {e : Env} {Rm : Room} {s : State} {m : MethodId} {args : Array Value} {below : List Frame} {meth : Method} {c : Code} {cc : ByteArray} {nL : Nat} {Ts : List Cond} {own : String} {G : va_G} {cI cZ cQ cU cJ : ClassId} {A : Nat → Prop} {O : Type} {Qf : O → State → Prop} {cells slots : Nat} {f : Option O} {M : va_W} {pc : Nat} {lv : List (Nat × Value)} {st : List Value} {t n P d g ox : Nat} {I : OI} {R : RI} (CX : CxX p l s m args meth c cc nL Ts own G vwCl (tys cI cZ cQ cU cJ) nws strs A) (hN : NC s) (hM : LW cI cZ cQ cU 20000 t n P d g ox I R M) {a : Nat} (ha : a < n) (h0 : R 0 a = 8 ∨ R 7 a ≠ -1) {index : Nat} {bytes : ByteArray} {maxL : Nat} {ret : Option FieldType} {hh : List (Nat × Nat × Nat × Nat)} (cw : vx_CSW Rm s args own index yL_strike bytes maxL ret hh wsL_strike rmL_strike rmL_strike.cells rmL_strike.slots 2) (hroom : (st.map fun v => v.category).sum ≤ 8) (hdg : decode cc pc = .ok (.invokestatic index, 3)) (hR : cells + 8 ≤ Rm.cells ∧ slots + 48 ≤ Rm.slots) (k : ∀ M' : va_W, LW cI cZ cQ cU 20000 t n P d g ox I R M' → VJ p l e Rm s m args below meth c nL G vwCl A Qf (cells + 8) (slots + 48) f M' (pc + 3) lv (.long (kode 3) :: st)) : VJ p l e Rm s m args below meth c nL G vwCl A Qf cells slots f M pc lv (.int (nI a) :: .ref ox :: st) := by
  obtain ⟨b1, b2, b3, b4, j2, j4, j1, j5⟩ := hM.iv
  obtain ⟨ad, Ix, Rx, rf, ra, ta, ea, wa, adk, Ik, Rk, cmk, adq, Iq, Rq, cmq, adc, Ic, Rc, cmc, adn, In, Rn, AL, AI, AR, rs, RL, m9, od9, ao9, hc, -⟩ := id hM
  have r1 := hR.1
  have r2 := hR.2
  have hf := m_strike_no hc ha h0
  refine VJ.w_strike CX hN hM _ hf cw hroom hdg ⟨Nat.le_trans (Nat.add_le_add_left (Nat.le_of_ble_eq_true rfl) _) r1, Nat.le_trans (Nat.add_le_add_left (Nat.le_of_ble_eq_true rfl) _) r2⟩ (fun M' L' hL => ?_)
  have hy : (va_up I 0 2) 0 = nI 2 := up_same
  rcases hL with ⟨h0, -, -⟩ | ⟨⟨a9, b9, hm9, hb9, rfl⟩, hM'⟩
  · exact absurd (hy.symm.trans h0) (by decide)
  · have h9 : ∀ q ∈ e13, nI q.2 = nI 2 → q.1 = 3 := by decide +kernel
    have h8 := h9 _ hm9 (hb9.symm.trans hy)
    dsimp only at h8
    subst h8
    exact VJ.widen (Nat.add_le_add_left (Nat.le_of_ble_eq_true rfl) _) (Nat.add_le_add_left (Nat.le_of_ble_eq_true rfl) _) (k M' hM')

set_option maxHeartbeats 4000000 in
theorem VJ.a_pass {p : Program} {l : Launch} {e : Env} {Rm : Room} {s : State} {m : MethodId} {args : Array Value} {below : List Frame} {meth : Method} {c : Code} {cc : ByteArray} {nL : Nat} {Ts : List Cond} {own : String} {G : va_G} {cI cZ cQ cU cJ : ClassId} {A : Nat → Prop} {O : Type} {Qf : O → State → Prop} {cells slots : Nat} {f : Option O} {M : va_W} {pc : Nat} {lv : List (Nat × Value)} {st : List Value} {t n P d g ox : Nat} {I : OI} {R : RI} (CX : CxX p l s m args meth c cc nL Ts own G vwCl (tys cI cZ cQ cU cJ) nws strs A) (hN : NC s) (hM : LW cI cZ cQ cU 20000 t n P d g ox I R M) {z : Nat} (h1 : 1 ≤ z) (hz : z ≤ 5000) (hd : d + z ≤ 30000) {index : Nat} {bytes : ByteArray} {maxL : Nat} {ret : Option FieldType} {hh : List (Nat × Nat × Nat × Nat)} (cw : vx_CSW Rm s args own index yL_pass bytes maxL ret hh wsL_pass rmL_pass rmL_pass.cells rmL_pass.slots 2) (hroom : (st.map fun v => v.category).sum ≤ 8) (hdg : decode cc pc = .ok (.invokestatic index, 3)) (hR : cells + 8 ≤ Rm.cells ∧ slots + 48 ≤ Rm.slots) (k : ∀ (M' : va_W) (I' : OI), LW cI cZ cQ cU 20000 (t + 1) (n) (P) (d + z) (g) ox I' R M' → (∀ c, c ≠ 0 → c ≠ 1 → I' c = I c) → VJ p l e Rm s m args below meth c nL G vwCl A Qf (cells + 8) (slots + 48) f M' (pc + 3) lv (.long ((nI (d + z)).toInt64) :: st)) : VJ p l e Rm s m args below meth c nL G vwCl A Qf cells slots f M pc lv (.int (nI z) :: .ref ox :: st) := by
  obtain ⟨b1, b2, b3, b4, j2, j4, j1, j5⟩ := hM.iv
  obtain ⟨ad, Ix, Rx, rf, ra, ta, ea, wa, adk, Ik, Rk, cmk, adq, Iq, Rq, cmq, adc, Ic, Rc, cmc, adn, In, Rn, AL, AI, AR, rs, RL, m9, od9, ao9, hc, -⟩ := id hM
  have r1 := hR.1
  have r2 := hR.2
  obtain ⟨I', hf, i0, i1, ic⟩ := m_pass hc h1 hz hd
  refine VJ.w_pass CX hN hM _ hf cw hroom hdg ⟨Nat.le_trans (Nat.add_le_add_left (Nat.le_of_ble_eq_true rfl) _) r1, Nat.le_trans (Nat.add_le_add_left (Nat.le_of_ble_eq_true rfl) _) r2⟩ (fun M' L' hL hM' => ?_)
  obtain rfl := hL.ok i0 (by decide +kernel)
  refine VJ.widen (Nat.add_le_add_left (Nat.le_of_ble_eq_true rfl) _) (Nat.add_le_add_left (Nat.le_of_ble_eq_true rfl) _) (k M' _ (hM'.at ((ic 2 (by omega) (by omega)).trans j2) b1 ((ic 4 (by omega) (by omega)).trans j4) b2 i1 hd ((ic 5 (by omega) (by omega)).trans j5) b4) ?_)
  · exact ic

set_option maxHeartbeats 4000000 in
theorem VJ.a_pass_no {p : Program} {l : Launch} {e : Env} {Rm : Room} {s : State} {m : MethodId} {args : Array Value} {below : List Frame} {meth : Method} {c : Code} {cc : ByteArray} {nL : Nat} {Ts : List Cond} {own : String} {G : va_G} {cI cZ cQ cU cJ : ClassId} {A : Nat → Prop} {O : Type} {Qf : O → State → Prop} {cells slots : Nat} {f : Option O} {M : va_W} {pc : Nat} {lv : List (Nat × Value)} {st : List Value} {t n P d g ox : Nat} {I : OI} {R : RI} (CX : CxX p l s m args meth c cc nL Ts own G vwCl (tys cI cZ cQ cU cJ) nws strs A) (hN : NC s) (hM : LW cI cZ cQ cU 20000 t n P d g ox I R M) {z : Nat} (h1 : 1 ≤ z) (hz : z ≤ 5000) (hd : 30000 < d + z) {index : Nat} {bytes : ByteArray} {maxL : Nat} {ret : Option FieldType} {hh : List (Nat × Nat × Nat × Nat)} (cw : vx_CSW Rm s args own index yL_pass bytes maxL ret hh wsL_pass rmL_pass rmL_pass.cells rmL_pass.slots 2) (hroom : (st.map fun v => v.category).sum ≤ 8) (hdg : decode cc pc = .ok (.invokestatic index, 3)) (hR : cells + 8 ≤ Rm.cells ∧ slots + 48 ≤ Rm.slots) (k : ∀ (M' : va_W) (I' : OI), LW cI cZ cQ cU 20000 (t + 1) n P d g ox I' R M' → (∀ c, c ≠ 0 → I' c = I c) → VJ p l e Rm s m args below meth c nL G vwCl A Qf (cells + 8) (slots + 48) f M' (pc + 3) lv (.long (kode 3) :: st)) : VJ p l e Rm s m args below meth c nL G vwCl A Qf cells slots f M pc lv (.int (nI z) :: .ref ox :: st) := by
  obtain ⟨b1, b2, b3, b4, j2, j4, j1, j5⟩ := hM.iv
  obtain ⟨ad, Ix, Rx, rf, ra, ta, ea, wa, adk, Ik, Rk, cmk, adq, Iq, Rq, cmq, adc, Ic, Rc, cmc, adn, In, Rn, AL, AI, AR, rs, RL, m9, od9, ao9, hc, -⟩ := id hM
  have r1 := hR.1
  have r2 := hR.2
  have hf := m_pass_no hc h1 hz hd
  refine VJ.w_pass CX hN hM _ hf cw hroom hdg ⟨Nat.le_trans (Nat.add_le_add_left (Nat.le_of_ble_eq_true rfl) _) r1, Nat.le_trans (Nat.add_le_add_left (Nat.le_of_ble_eq_true rfl) _) r2⟩ (fun M' L' hL hM' => ?_)
  obtain rfl := hL.no (a := 3) (b := 2) up_same (by decide) (by decide +kernel)
  exact VJ.widen (Nat.add_le_add_left (Nat.le_of_ble_eq_true rfl) _) (Nat.add_le_add_left (Nat.le_of_ble_eq_true rfl) _) (k M' _ (hM'.at ((up_ne (by omega)).trans j2) b1 ((up_ne (by omega)).trans j4) b2 ((up_ne (by omega)).trans j1) b3 ((up_ne (by omega)).trans j5) b4) (fun c hc => up_ne hc))

set_option maxHeartbeats 4000000 in
theorem VJ.a_look {p : Program} {l : Launch} {e : Env} {Rm : Room} {s : State} {m : MethodId} {args : Array Value} {below : List Frame} {meth : Method} {c : Code} {cc : ByteArray} {nL : Nat} {Ts : List Cond} {own : String} {G : va_G} {cI cZ cQ cU cJ : ClassId} {A : Nat → Prop} {O : Type} {Qf : O → State → Prop} {cells slots : Nat} {f : Option O} {M : va_W} {pc : Nat} {lv : List (Nat × Value)} {st : List Value} {t n P d g ox : Nat} {I : OI} {R : RI} (CX : CxX p l s m args meth c cc nL Ts own G vwCl (tys cI cZ cQ cU cJ) nws strs A) (hN : NC s) (hM : LW cI cZ cQ cU 20000 t n P d g ox I R M) {u q : Nat} {Rl : RI} {lo : Nat → Nat} (L : LAND 20000 P I R d d Rl lo) (hu : u < 4) (hq : q < P) {index : Nat} {bytes : ByteArray} {maxL : Nat} {ret : Option FieldType} {hh : List (Nat × Nat × Nat × Nat)} (cw : vx_CSW Rm s args own index yL_look bytes maxL ret hh wsL_look rmL_look rmL_look.cells rmL_look.slots 3) (hroom : (st.map fun v => v.category).sum ≤ 8) (hdg : decode cc pc = .ok (.invokestatic index, 3)) (hR : cells + 8 ≤ Rm.cells ∧ slots + 48 ≤ Rm.slots) (k : ∀ (M' : va_W) (I' : OI) (R' : RI) (v : Int32), LW cI cZ cQ cU 20000 (t + 1) n P d g ox I' R' M' → (v = -2 ∨ v = Rl 2 q) → R' 28 q = R 28 q + 1 → (∀ c, c ≠ 0 → I' c = I c) → (∀ c, ¬ (11 ≤ c ∧ c ≤ 21) → c ≠ 28 → R' c = R c) → VJ p l e Rm s m args below meth c nL G vwCl A Qf (cells + 8) (slots + 48) f M' (pc + 3) lv (.long (v.toInt64) :: st)) : VJ p l e Rm s m args below meth c nL G vwCl A Qf cells slots f M pc lv (.int (nI q) :: .int (nI u) :: .ref ox :: st) := by
  obtain ⟨b1, b2, b3, b4, j2, j4, j1, j5⟩ := hM.iv
  obtain ⟨ad, Ix, Rx, rf, ra, ta, ea, wa, adk, Ik, Rk, cmk, adq, Iq, Rq, cmq, adc, Ic, Rc, cmc, adn, In, Rn, AL, AI, AR, rs, RL, m9, od9, ao9, hc, -⟩ := id hM
  have r1 := hR.1
  have r2 := hR.2
  obtain ⟨v, R', hf, hv, h28, rc⟩ := m_look hc (Nat.le_of_ble_eq_true rfl) L hu hq
  refine VJ.w_look CX hN hM _ _ hf cw hroom hdg ⟨Nat.le_trans (Nat.add_le_add_left (Nat.le_of_ble_eq_true rfl) _) r1, Nat.le_trans (Nat.add_le_add_left (Nat.le_of_ble_eq_true rfl) _) r2⟩ (fun M' L' hL hM' => ?_)
  obtain rfl := hL.ok up_same (by decide +kernel)
  exact VJ.widen (Nat.add_le_add_left (Nat.le_of_ble_eq_true rfl) _) (Nat.add_le_add_left (Nat.le_of_ble_eq_true rfl) _) (k M' _ _ v (hM'.at ((up_ne (by omega)).trans j2) b1 ((up_ne (by omega)).trans j4) b2 ((up_ne (by omega)).trans j1) b3 ((up_ne (by omega)).trans j5) b4) hv h28 (fun c hc => up_ne hc) rc)

set_option maxHeartbeats 4000000 in
theorem VJ.a_bar {p : Program} {l : Launch} {e : Env} {Rm : Room} {s : State} {m : MethodId} {args : Array Value} {below : List Frame} {meth : Method} {c : Code} {cc : ByteArray} {nL : Nat} {Ts : List Cond} {own : String} {G : va_G} {cI cZ cQ cU cJ : ClassId} {A : Nat → Prop} {O : Type} {Qf : O → State → Prop} {cells slots : Nat} {f : Option O} {M : va_W} {pc : Nat} {lv : List (Nat × Value)} {st : List Value} {t n P d g ox : Nat} {I : OI} {R : RI} (CX : CxX p l s m args meth c cc nL Ts own G vwCl (tys cI cZ cQ cU cJ) nws strs A) (hN : NC s) (hM : LW cI cZ cQ cU 20000 t n P d g ox I R M) {q : Nat} {x2 : Int32} (hx2 : x2 = 0 ∨ x2 = 1) (hq : q < P) {index : Nat} {bytes : ByteArray} {maxL : Nat} {ret : Option FieldType} {hh : List (Nat × Nat × Nat × Nat)} (cw : vx_CSW Rm s args own index yL_bar bytes maxL ret hh wsL_bar rmL_bar rmL_bar.cells rmL_bar.slots 3) (hroom : (st.map fun v => v.category).sum ≤ 8) (hdg : decode cc pc = .ok (.invokestatic index, 3)) (hR : cells + 8 ≤ Rm.cells ∧ slots + 48 ≤ Rm.slots) (k : ∀ (M' : va_W) (I' : OI) (R' : RI) (L : Int64), LW cI cZ cQ cU 20000 (t + 1) n P d g ox I' R' M' → (L = 0 ∨ L = 1) → (∀ c, c ≠ 0 → I' c = I c) → (∀ c, c ≠ 27 → R' c = R c) → VJ p l e Rm s m args below meth c nL G vwCl A Qf (cells + 8) (slots + 48) f M' (pc + 3) lv (.long (L) :: st)) : VJ p l e Rm s m args below meth c nL G vwCl A Qf cells slots f M pc lv (.int x2 :: .int (nI q) :: .ref ox :: st) := by
  obtain ⟨b1, b2, b3, b4, j2, j4, j1, j5⟩ := hM.iv
  obtain ⟨ad, Ix, Rx, rf, ra, ta, ea, wa, adk, Ik, Rk, cmk, adq, Iq, Rq, cmq, adc, Ic, Rc, cmc, adn, In, Rn, AL, AI, AR, rs, RL, m9, od9, ao9, hc, -⟩ := id hM
  have r1 := hR.1
  have r2 := hR.2
  obtain ⟨R', hf, hv, rc⟩ := m_bar hc hq (x := x2)
  refine VJ.w_bar CX hN hM _ _ hx2 hf cw hroom hdg ⟨Nat.le_trans (Nat.add_le_add_left (Nat.le_of_ble_eq_true rfl) _) r1, Nat.le_trans (Nat.add_le_add_left (Nat.le_of_ble_eq_true rfl) _) r2⟩ (fun M' L' hL hM' => ?_)
  obtain rfl := hL.ok up_same (by decide +kernel)
  refine VJ.widen (Nat.add_le_add_left (Nat.le_of_ble_eq_true rfl) _) (Nat.add_le_add_left (Nat.le_of_ble_eq_true rfl) _) (k M' _ _ _ (hM'.at ((up_ne (by omega)).trans j2) b1 ((up_ne (by omega)).trans j4) b2 ((up_ne (by omega)).trans j1) b3 ((up_ne (by omega)).trans j5) b4) ?_ (fun c hc => up_ne hc) rc)
  by_cases h9 : R 27 q = 0
  · rw [if_pos h9]; exact Or.inl rfl
  · rw [if_neg h9]; exact Or.inr rfl

set_option maxHeartbeats 4000000 in
theorem VJ.a_renumber {p : Program} {l : Launch} {e : Env} {Rm : Room} {s : State} {m : MethodId} {args : Array Value} {below : List Frame} {meth : Method} {c : Code} {cc : ByteArray} {nL : Nat} {Ts : List Cond} {own : String} {G : va_G} {cI cZ cQ cU cJ : ClassId} {A : Nat → Prop} {O : Type} {Qf : O → State → Prop} {cells slots : Nat} {f : Option O} {M : va_W} {pc : Nat} {lv : List (Nat × Value)} {st : List Value} {t n P d g ox : Nat} {I : OI} {R : RI} (CX : CxX p l s m args meth c cc nL Ts own G vwCl (tys cI cZ cQ cU cJ) nws strs A) (hN : NC s) (hM : LW cI cZ cQ cU 20000 t n P d g ox I R M) {q : Nat} (hg : g < 60) (hq : q < P) {index : Nat} {bytes : ByteArray} {maxL : Nat} {ret : Option FieldType} {hh : List (Nat × Nat × Nat × Nat)} (cw : vx_CSW Rm s args own index yL_renumber bytes maxL ret hh wsL_renumber rmL_renumber rmL_renumber.cells rmL_renumber.slots 2) (hroom : (st.map fun v => v.category).sum ≤ 8) (hdg : decode cc pc = .ok (.invokestatic index, 3)) (hR : cells + 8 ≤ Rm.cells ∧ slots + 48 ≤ Rm.slots) (k : ∀ (M' : va_W) (I' : OI) (R' : RI), LW cI cZ cQ cU 20000 (t + 1) (n) (P) (d) (g + 1) ox I' R' M' → (∀ c, c ≠ 0 → c ≠ 5 → c ≠ 6 → I' c = I c) → (∀ c, c ≠ 9 → c ≠ 10 → R' c = R c) → (R' 9 = upd (R 9) g (nI (numv g))) → (R' 10 = upd (R 10) g (nI q)) → VJ p l e Rm s m args below meth c nL G vwCl A Qf (cells + 8) (slots + 48) f M' (pc + 3) lv (.long ((nI (numv g)).toInt64) :: st)) : VJ p l e Rm s m args below meth c nL G vwCl A Qf cells slots f M pc lv (.int (nI q) :: .ref ox :: st) := by
  obtain ⟨b1, b2, b3, b4, j2, j4, j1, j5⟩ := hM.iv
  obtain ⟨ad, Ix, Rx, rf, ra, ta, ea, wa, adk, Ik, Rk, cmk, adq, Iq, Rq, cmq, adc, Ic, Rc, cmc, adn, In, Rn, AL, AI, AR, rs, RL, m9, od9, ao9, hc, -⟩ := id hM
  have r1 := hR.1
  have r2 := hR.2
  obtain ⟨I', R', hf, i0, i5, ic, rc, r9, r10⟩ := m_renumber hc (Nat.le_of_ble_eq_true rfl) hg hq
  refine VJ.w_renumber CX hN hM _ hf cw hroom hdg ⟨Nat.le_trans (Nat.add_le_add_left (Nat.le_of_ble_eq_true rfl) _) r1, Nat.le_trans (Nat.add_le_add_left (Nat.le_of_ble_eq_true rfl) _) r2⟩ (fun M' L' hL hM' => ?_)
  obtain rfl := hL.ok i0 (by decide +kernel)
  refine VJ.widen (Nat.add_le_add_left (Nat.le_of_ble_eq_true rfl) _) (Nat.add_le_add_left (Nat.le_of_ble_eq_true rfl) _) (k M' _ _ (hM'.at ((ic 2 (by omega) (by omega) (by omega)).trans j2) b1 ((ic 4 (by omega) (by omega) (by omega)).trans j4) b2 ((ic 1 (by omega) (by omega) (by omega)).trans j1) b3 i5 (by omega)) ?_ ?_ ?_ ?_)
  · exact ic
  · exact rc
  · exact r9
  · exact r10

set_option maxHeartbeats 4000000 in
theorem VJ.a_deliver {p : Program} {l : Launch} {e : Env} {Rm : Room} {s : State} {m : MethodId} {args : Array Value} {below : List Frame} {meth : Method} {c : Code} {cc : ByteArray} {nL : Nat} {Ts : List Cond} {own : String} {G : va_G} {cI cZ cQ cU cJ : ClassId} {A : Nat → Prop} {O : Type} {Qf : O → State → Prop} {cells slots : Nat} {f : Option O} {M : va_W} {pc : Nat} {lv : List (Nat × Value)} {st : List Value} {t n P d g ox : Nat} {I : OI} {R : RI} (CX : CxX p l s m args meth c cc nL Ts own G vwCl (tys cI cZ cQ cU cJ) nws strs A) (hN : NC s) (hM : LW cI cZ cQ cU 20000 t n P d g ox I R M) {z r kd off : Nat} {Rl : RI} {lo : Nat → Nat} (ht : t ≤ 511) (L : LAND 20000 P I R d d Rl lo) (hz : z ≤ 5) (h7 : I 7 = nI z) (hr : r < z) (hk : kd < 4) (ek : R 22 r = nI kd) (ho : off < 4) (eo : R 23 r = nI off) {index : Nat} {bytes : ByteArray} {maxL : Nat} {ret : Option FieldType} {hh : List (Nat × Nat × Nat × Nat)} (cw : vx_CSW Rm s args own index yL_deliver bytes maxL ret hh wsL_deliver rmL_deliver rmL_deliver.cells rmL_deliver.slots 2) (hroom : (st.map fun v => v.category).sum ≤ 8) (hdg : decode cc pc = .ok (.invokestatic index, 3)) (hR : cells + 8 ≤ Rm.cells ∧ slots + 12400 ≤ Rm.slots) (k : ∀ (M' : va_W) (I' : OI) (R' : RI), LW cI cZ cQ cU 20000 (t + 1) (n) (P) (d) (g) ox I' R' M' → (∀ c, c ≠ 0 → c ≠ 8 → I' c = I c) → (∀ c, ¬ (11 ≤ c ∧ c ≤ 19) → c ≠ 24 → c ≠ 25 → c ≠ 26 → R' c = R c) → (∀ j, j < P → R' 24 (24 * r + j) = trg Rl d kd off j) → VJ p l e Rm s m args below meth c nL G vwCl A Qf (cells + 8) (slots + 12400) f M' (pc + 3) lv (.long ((nI (cnt (dueq Rl R d kd off r) 0 P)).toInt64) :: st)) : VJ p l e Rm s m args below meth c nL G vwCl A Qf cells slots f M pc lv (.int (nI r) :: .ref ox :: st) := by
  obtain ⟨b1, b2, b3, b4, j2, j4, j1, j5⟩ := hM.iv
  obtain ⟨ad, Ix, Rx, rf, ra, ta, ea, wa, adk, Ik, Rk, cmk, adq, Iq, Rq, cmq, adc, Ic, Rc, cmc, adn, In, Rn, AL, AI, AR, rs, RL, m9, od9, ao9, hc, -⟩ := id hM
  have r1 := hR.1
  have r2 := hR.2
  obtain ⟨I', R', hf, i0, ic, rc, r24⟩ := m_deliver hc (Nat.le_of_ble_eq_true rfl) ht L hz h7 hr hk ek ho eo
  refine VJ.w_deliver CX hN hM ht _ hf cw hroom hdg ⟨Nat.le_trans (Nat.add_le_add_left (Nat.le_of_ble_eq_true rfl) _) r1, Nat.le_trans (Nat.add_le_add_left (Nat.le_of_ble_eq_true rfl) _) r2⟩ (fun M' L' hL hM' => ?_)
  obtain rfl := hL.ok i0 (by decide +kernel)
  refine VJ.widen (Nat.add_le_add_left (Nat.le_of_ble_eq_true rfl) _) (Nat.add_le_add_left (Nat.le_of_ble_eq_true rfl) _) (k M' _ _ (hM'.at ((ic 2 (by omega) (by omega)).trans j2) b1 ((ic 4 (by omega) (by omega)).trans j4) b2 ((ic 1 (by omega) (by omega)).trans j1) b3 ((ic 5 (by omega) (by omega)).trans j5) b4) ?_ ?_ ?_)
  · exact ic
  · exact rc
  · exact r24

set_option maxHeartbeats 4000000 in
theorem VJ.a_roll {p : Program} {l : Launch} {e : Env} {Rm : Room} {s : State} {m : MethodId} {args : Array Value} {below : List Frame} {meth : Method} {c : Code} {cc : ByteArray} {nL : Nat} {Ts : List Cond} {own : String} {G : va_G} {cI cZ cQ cU cJ : ClassId} {A : Nat → Prop} {O : Type} {Qf : O → State → Prop} {cells slots : Nat} {f : Option O} {M : va_W} {pc : Nat} {lv : List (Nat × Value)} {st : List Value} {t n P d g ox : Nat} {I : OI} {R : RI} (CX : CxX p l s m args meth c cc nL Ts own G vwCl (tys cI cZ cQ cU cJ) nws strs A) (hN : NC s) (hM : LW cI cZ cQ cU 20000 t n P d g ox I R M) {z kd off : Nat} (hz : z < 5) (h7 : I 7 = nI z) (hk : kd < 4) (ho : off < 4) {index : Nat} {bytes : ByteArray} {maxL : Nat} {ret : Option FieldType} {hh : List (Nat × Nat × Nat × Nat)} (cw : vx_CSW Rm s args own index yL_roll bytes maxL ret hh wsL_roll rmL_roll rmL_roll.cells rmL_roll.slots 3) (hroom : (st.map fun v => v.category).sum ≤ 8) (hdg : decode cc pc = .ok (.invokestatic index, 3)) (hR : cells + 8 ≤ Rm.cells ∧ slots + 96 ≤ Rm.slots) (k : ∀ (M' : va_W) (I' : OI) (R' : RI), LW cI cZ cQ cU 20000 (t + 1) (n) (P) (d) (g) ox I' R' M' → (I' 7 = nI (z + 1)) → (∀ c, c ≠ 0 → c ≠ 7 → I' c = I c) → (R' 22 = upd (R 22) z (nI kd)) → (R' 23 = upd (R 23) z (nI off)) → (∀ c, c ≠ 22 → c ≠ 23 → R' c = R c) → VJ p l e Rm s m args below meth c nL G vwCl A Qf (cells + 8) (slots + 96) f M' (pc + 3) lv (.long ((nI z).toInt64) :: st)) : VJ p l e Rm s m args below meth c nL G vwCl A Qf cells slots f M pc lv (.int (nI off) :: .int (nI kd) :: .ref ox :: st) := by
  obtain ⟨b1, b2, b3, b4, j2, j4, j1, j5⟩ := hM.iv
  obtain ⟨ad, Ix, Rx, rf, ra, ta, ea, wa, adk, Ik, Rk, cmk, adq, Iq, Rq, cmq, adc, Ic, Rc, cmc, adn, In, Rn, AL, AI, AR, rs, RL, m9, od9, ao9, hc, -⟩ := id hM
  have r1 := hR.1
  have r2 := hR.2
  obtain ⟨I', R', hf, i0, i7, ic, r22, r23, rc⟩ := m_roll hz h7 hk ho (R := R)
  refine VJ.w_roll CX hN hM _ _ hf cw hroom hdg ⟨Nat.le_trans (Nat.add_le_add_left (Nat.le_of_ble_eq_true rfl) _) r1, Nat.le_trans (Nat.add_le_add_left (Nat.le_of_ble_eq_true rfl) _) r2⟩ (fun M' L' hL => ?_)
  rcases hL with ⟨-, rfl, hM'⟩ | ⟨⟨a9, b9, hm9, hb9, -⟩, -⟩
  · refine VJ.widen (Nat.add_le_add_left (Nat.le_of_ble_eq_true rfl) _) (Nat.add_le_add_left (Nat.le_of_ble_eq_true rfl) _) (k M' _ _ (hM'.at ((ic 2 (by omega) (by omega)).trans j2) b1 ((ic 4 (by omega) (by omega)).trans j4) b2 ((ic 1 (by omega) (by omega)).trans j1) b3 ((ic 5 (by omega) (by omega)).trans j5) b4) ?_ ?_ ?_ ?_ ?_)
    · exact i7
    · exact ic
    · exact r22
    · exact r23
    · exact rc
  · have h9 : ∀ q ∈ e123, nI q.2 ≠ 0 := by decide +kernel
    exact absurd (hb9.symm.trans i0) (h9 _ hm9)

set_option maxHeartbeats 4000000 in
theorem VJ.a_day {p : Program} {l : Launch} {e : Env} {Rm : Room} {s : State} {m : MethodId} {args : Array Value} {below : List Frame} {meth : Method} {c : Code} {cc : ByteArray} {nL : Nat} {Ts : List Cond} {own : String} {G : va_G} {cI cZ cQ cU cJ : ClassId} {A : Nat → Prop} {O : Type} {Qf : O → State → Prop} {cells slots : Nat} {f : Option O} {M : va_W} {pc : Nat} {lv : List (Nat × Value)} {st : List Value} {t n P d g ox : Nat} {I : OI} {R : RI} (CX : CxX p l s m args meth c cc nL Ts own G vwCl (tys cI cZ cQ cU cJ) nws strs A) (hN : NC s) (hM : LW cI cZ cQ cU 20000 t n P d g ox I R M) {index : Nat} {bytes : ByteArray} {maxL : Nat} {ret : Option FieldType} (cw : CallW Rm s args own RX5 index yX5_day bytes maxL ret wsX5_day rmX5_day rmX5_day.cells rmX5_day.slots 0) (hroom : (st.map fun v => v.category).sum ≤ 8) (hdg : decode cc pc = .ok (.invokevirtual index, 3)) (hR : cells ≤ Rm.cells ∧ slots ≤ Rm.slots) (k : ∀ M' : va_W, LW cI cZ cQ cU 20000 t n P d g ox I R M' → VJ p l e Rm s m args below meth c nL G vwCl A Qf cells slots f M' (pc + 3) lv (.int (nI d) :: st)) : VJ p l e Rm s m args below meth c nL G vwCl A Qf cells slots f M pc lv (.ref ox :: st) := by
  obtain ⟨ad, Ix, Rx, rf, ra, ta, ea, wa, adk, Ik, Rk, cmk, adq, Iq, Rq, cmq, adc, Ic, Rc, cmc, adn, In, Rn, AL, AI, AR, rs, RL, m9, od9, ao9, hc, hp⟩ := hM
  have e5 : f_X5_day Ix Rx = some (nI d) := by
    obtain ⟨-, -, ⟨-, d2, -⟩, -⟩ := hc
    unfold f_X5_day
    rw [d2]
  refine VJ.perm hp ?_
  refine VJ.callC CX.1 [] (pf [xW cI cZ ox ad Ix Rx rf]) (pf [aW cQ (rf 0) ra ta ea wa, lW cI cZ (rf 1) adk Ik Rk cmk, lW cI cZ (rf 2) adq Iq Rq cmq, lW cI cZ (rf 3) adc Ic Rc cmc, nW cI cZ (rf 4) adn In Rn, qW cU (rf 5) rs, pW AL AI AR, RW cI cZ RL]) (pf [xW cI cZ ox ad Ix Rx rf, aW cQ (rf 0) ra ta ea wa, lW cI cZ (rf 1) adk Ik Rk cmk, lW cI cZ (rf 2) adq Iq Rq cmq, lW cI cZ (rf 3) adc Ic Rc cmc, nW cI cZ (rf 4) adn In Rn, qW cU (rf 5) rs, pW AL AI AR, RW cI cZ RL]) (c_X5_day l G cI cZ cQ cU cJ ox ad rf Ix Rx (nI d) e5) (vj_pf 9 [0, 1, 2, 3, 4, 5, 6, 7, 8] rfl rfl (by decide)) (by rw [pf_two]; exact List.Perm.refl _) 0 rfl rfl cw rfl rfl hroom hdg ⟨rfl, rfl⟩ hR ?_
  exact k _ ⟨ad, Ix, Rx, rf, ra, ta, ea, wa, adk, Ik, Rk, cmk, adq, Iq, Rq, cmq, adc, Ic, Rc, cmc, adn, In, Rn, AL, AI, AR, rs, RL, m9, od9, ao9, hc, List.Perm.refl _⟩

end OK
