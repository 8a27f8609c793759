/-! ===== the law's state between two steps ===== -/
section LLs
def LSt (cI cZ cQ cU : ClassId) (t n P d g kd kc ox : Nat) (I : OI) (R : RI) (M : va_W) : Prop := LW cI cZ cQ cU 20000 t n P d g ox I R M ∧ NX n R ∧ I 7 = nI 2 ∧ R 22 0 = nI 3 ∧ R 23 0 = nI 1 ∧ R 22 1 = nI kd ∧ R 23 1 = nI 0 ∧ ∀ q, q < 24 → ∃ z, z ≤ kc ∧ R 28 q = nI z
section one
variable {cI cZ cQ cU : ClassId} {t n P d g kd kc ox : Nat} {I : OI} {R : RI} {M : va_W}
theorem LSt.lw (h : LSt cI cZ cQ cU t n P d g kd kc ox I R M) : LW cI cZ cQ cU 20000 t n P d g ox I R M := h.1
theorem LSt.nx (h : LSt cI cZ cQ cU t n P d g kd kc ox I R M) : NX n R := h.2.1
theorem LSt.lk (h : LSt cI cZ cQ cU t n P d g kd kc ox I R M) : ∀ q, q < 24 → ∃ z, z ≤ kc ∧ R 28 q = nI z := h.2.2.2.2.2.2.2
theorem LSt.with (h : LSt cI cZ cQ cU t n P d g kd kc ox I R M) {M' : va_W} (hM : LW cI cZ cQ cU 20000 t n P d g ox I R M') : LSt cI cZ cQ cU t n P d g kd kc ox I R M' := ⟨hM, h.2⟩
theorem LSt.up (h : LSt cI cZ cQ cU t n P d g kd kc ox I R M) {kc' : Nat} (hk : kc ≤ kc') : LSt cI cZ cQ cU t n P d g kd kc' ox I R M := by
  obtain ⟨h1, h2, h3, h4, h5, h6, h7, h8⟩ := h
  refine ⟨h1, h2, h3, h4, h5, h6, h7, fun q hq => ?_⟩
  obtain ⟨z, hz, e⟩ := h8 q hq
  exact ⟨z, by omega, e⟩
theorem LSt.told (h : LSt cI cZ cQ cU t n P d g kd kc ox I R M) {t' P' d' g' : Nat} {I' : OI} {R' : RI} {M' : va_W} (hM : LW cI cZ cQ cU 20000 t' (n + 1) P' d' g' ox I' R' M') (i7 : I' 7 = I 7) {R0 : RI} (h0 : ∀ c, c ≠ 7 → R0 c = R c) {dd x1 x2 x3 x4 x5 x6 : Int32} (rc : ∀ c, c ≠ 8 → c ≠ 9 → c ≠ 10 → R' c = tR R0 n dd x1 x2 x3 x4 x5 x6 c) (hx : x1 = 0 ∨ x1 = 2 → ∃ v, v < 1000 ∧ x6 = nI v) : LSt cI cZ cQ cU t' (n + 1) P' d' g' kd kc ox I' R' M' := by
  obtain ⟨h1, h2, h3, h4, h5, h6, h7, h8⟩ := h
  have hr : ∀ c, 8 ≤ c → c ≠ 8 → c ≠ 9 → c ≠ 10 → R' c = R c := fun c c0 c1 c2 c3 => by rw [rc c c1 c2 c3, tR_hi c0, h0 c (by omega)]
  refine ⟨hM, ?_, i7.trans h3, ?_, ?_, ?_, ?_, ?_⟩
  · intro i hi
    rw [rc 0 (by omega) (by omega) (by omega), rc 6 (by omega) (by omega) (by omega), tR0, tR6]
    by_cases e : i = n
    · rw [if_pos e, if_pos e]; exact hx
    · rw [if_neg e, if_neg e, h0 0 (by omega), h0 6 (by omega)]; exact h2 i (by omega)
  · rw [hr 22 (by omega) (by omega) (by omega) (by omega)]; exact h4
  · rw [hr 23 (by omega) (by omega) (by omega) (by omega)]; exact h5
  · rw [hr 22 (by omega) (by omega) (by omega) (by omega)]; exact h6
  · rw [hr 23 (by omega) (by omega) (by omega) (by omega)]; exact h7
  · rw [hr 28 (by omega) (by omega) (by omega) (by omega)]; exact h8
theorem LSt.same (h : LSt cI cZ cQ cU t n P d g kd kc ox I R M) {t' P' d' g' : Nat} {I' : OI} {R' : RI} {M' : va_W} (hM : LW cI cZ cQ cU 20000 t' n P' d' g' ox I' R' M') (i7 : I' 7 = I 7) (r0 : R' 0 = R 0) (r6 : R' 6 = R 6) (r22 : R' 22 = R 22) (r23 : R' 23 = R 23) (r28 : R' 28 = R 28) : LSt cI cZ cQ cU t' n P' d' g' kd kc ox I' R' M' := by
  obtain ⟨h1, h2, h3, h4, h5, h6, h7, h8⟩ := h
  refine ⟨hM, ?_, i7.trans h3, ?_, ?_, ?_, ?_, ?_⟩
  · intro i hi
    rw [r0, r6]
    exact h2 i hi
  · rw [r22]; exact h4
  · rw [r23]; exact h5
  · rw [r22]; exact h6
  · rw [r23]; exact h7
  · rw [r28]; exact h8
theorem LSt.looked (h : LSt cI cZ cQ cU t n P d g kd kc ox I R M) {t' : Nat} {I' : OI} {R' : RI} {M' : va_W} (hM : LW cI cZ cQ cU 20000 t' n P d g ox I' R' M') (i7 : I' 7 = I 7) (r0 : R' 0 = R 0) (r6 : R' 6 = R 6) (r22 : R' 22 = R 22) (r23 : R' 23 = R 23) {q0 : Nat} (r28 : R' 28 = upd (R 28) q0 (R 28 q0 + 1)) : LSt cI cZ cQ cU t' n P d g kd (kc + 1) ox I' R' M' := by
  obtain ⟨h1, h2, h3, h4, h5, h6, h7, h8⟩ := h
  refine ⟨hM, ?_, i7.trans h3, ?_, ?_, ?_, ?_, ?_⟩
  · intro i hi
    rw [r0, r6]
    exact h2 i hi
  · rw [r22]; exact h4
  · rw [r23]; exact h5
  · rw [r22]; exact h6
  · rw [r23]; exact h7
  · intro q hq
    obtain ⟨z, hz, e⟩ := h8 q hq
    rw [r28, upd_at]
    by_cases e2 : q = q0
    · rw [if_pos e2, ← e2, e, nI_s1]; exact ⟨z + 1, by omega, rfl⟩
    · rw [if_neg e2]; exact ⟨z, by omega, e⟩
end one
theorem tie_ne {p r P : Nat} (hp : p < P) (hr : r < P - 1) : p ≠ (p + 1 + r) % P ∧ (p + 1 + r) % P < P := by
  refine ⟨?_, Nat.mod_lt _ (by omega)⟩
  by_cases h : p + 1 + r < P
  · rw [Nat.mod_eq_of_lt h]; omega
  · rw [Nat.mod_eq_sub_mod (by omega), Nat.mod_eq_of_lt (by omega)]; omega
theorem bar_nn {L : Int64} (h : L = 0 ∨ L = 1) : ¬ lg_cmp L (nI 0).toInt64 < 0 := by
  rcases h with rfl | rfl <;> decide
theorem lwk_124 : Cond.constantLong RL 124 (-1) ∈ wsL_law := List.mem_of_getElem? (i := 3) (by decide +kernel)
theorem lwk_21 : Cond.constantLong RL 21 (-9000000000000000003) ∈ wsL_law := List.mem_of_getElem? (i := 4) (by decide +kernel)
theorem lwk_120 : Cond.constantLong RL 120 3 ∈ wsL_law := List.mem_of_getElem? (i := 5) (by decide +kernel)
theorem lwk_203 : Cond.constantLong RL 203 8 ∈ wsL_law := List.mem_of_getElem? (i := 6) (by decide +kernel)
theorem lwk_205 : Cond.constantLong RL 205 (-2) ∈ wsL_law := List.mem_of_getElem? (i := 7) (by decide +kernel)
section two
variable {N t n m P d g : Nat} {od ad : Nat → Nat} {Ix : OI} {Rx : RI} {ta : Int32} {ea : Option Nat} {wa : OO} {Ik : OI} {Rk : RI} {cmk : Option Nat} {In : OI} {Rn : RI} {AL : List Nat} {AI : Nat → OI} {AR : Nat → OO} {rs : OO} {RL : List RLT} {I : OI} {R : RI}
theorem m_look2 (h : IVc N t n m P d g od ad Ix Rx ta ea wa Ik Rk cmk In Rn AL AI AR rs RL I R) (hN : 200 ≤ N) {Rl : RI} {lo : Nat → Nat} (L : LAND N P I R d d Rl lo) {u p : Nat} (hu : u < 4) (hp : p < P) : ∃ v R', f_X6_look N I R (nI u) (nI p) = some (v, va_up I 0 0, R') ∧ (v = -2 ∨ v = Rl 2 p) ∧ R' 28 = upd (R 28) p (R 28 p + 1) ∧ (∀ c, ¬ (11 ≤ c ∧ c ≤ 21) → c ≠ 28 → R' c = R c) := by
  have h9 := h
  obtain ⟨A, X, ⟨d1, -⟩, -⟩ := h
  have hP := A.P24
  have hp24 : p < 24 := by omega
  have L2 := L.move h9 hN (I2 := I) (R2 := va_up R 28 (upd (R 28) p (R 28 p + 1))) rfl rfl rfl (fun c hc => up_ne (by omega))
  obtain ⟨R1, l1, l2, l3, l4, l5, l6, l7, l8⟩ := L2
  unfold f_X6_look
  rw [ip1 hP A.iP hp, ob1_some, if_neg one0, w3 hu, ob1_some, if_neg one0]
  unfold f_X6_look_j27
  rw [refused_0, ob2_mk, if_pos rfl, og_nI hp24 (by omega), og_nI hp24 (by omega), ol_eq, show va_up I 0 0 1 = nI d from (up_ne (by omega)).trans d1, nI_tn (bd4 hp24), l1, ob1_some, og_nI hp24 (by omega), og_nI hp24 (by omega), ← l2.hm p hp24]
  have r28 : R1 28 = upd (R 28) p (R 28 p + 1) := by rw [l6 28 (by omega), up_same]
  have rc : ∀ c, ¬ (11 ≤ c ∧ c ≤ 21) → c ≠ 28 → R1 c = R c := fun c c1 c2 => by rw [l6 c (by omega), up_ne c2]
  by_cases e : R1 27 p = 0
  · rw [if_pos e]
    exact ⟨_, R1, rfl, Or.inr rfl, r28, rc⟩
  · rw [if_neg e]
    by_cases e2 : nI u = 0
    · rw [if_pos e2]
      exact ⟨_, R1, rfl, Or.inr rfl, r28, rc⟩
    · rw [if_neg e2]
      exact ⟨_, R1, rfl, Or.inl rfl, r28, rc⟩

end two
set_option maxHeartbeats 4000000 in
theorem VJ.a_look2 {p : Program} {l : Launch} {e : Env} {Rm : Room} {s : State} {m : MethodId} {args : Array Value} {below : List Frame} {meth : Method} {c : Code} {cc : ByteArray} {nL : Nat} {Ts : List Cond} {own : String} {G : va_G} {cI cZ cQ cU cJ : ClassId} {A : Nat → Prop} {O : Type} {Qf : O → State → Prop} {cells slots : Nat} {f : Option O} {M : va_W} {pc : Nat} {lv : List (Nat × Value)} {st : List Value} {t n P d g ox : Nat} {I : OI} {R : RI} (CX : CxX p l s m args meth c cc nL Ts own G vwCl (tys cI cZ cQ cU cJ) nws strs A) (hN : NC s) (hM : LW cI cZ cQ cU 20000 t n P d g ox I R M) {u q : Nat} {Rl : RI} {lo : Nat → Nat} (L : LAND 20000 P I R d d Rl lo) (hu : u < 4) (hq : q < P) {index : Nat} {bytes : ByteArray} {maxL : Nat} {ret : Option FieldType} {hh : List (Nat × Nat × Nat × Nat)} (cw : vx_CSW Rm s args own index yL_look bytes maxL ret hh wsL_look rmL_look rmL_look.cells rmL_look.slots 3) (hroom : (st.map fun v => v.category).sum ≤ 8) (hdg : decode cc pc = .ok (.invokestatic index, 3)) (hR : cells + 8 ≤ Rm.cells ∧ slots + 48 ≤ Rm.slots) (k : ∀ (M' : va_W) (I' : OI) (R' : RI) (v : Int32), LW cI cZ cQ cU 20000 (t + 1) n P d g ox I' R' M' → (v = -2 ∨ v = Rl 2 q) → R' 28 = upd (R 28) q (R 28 q + 1) → (∀ c, c ≠ 0 → I' c = I c) → (∀ c, ¬ (11 ≤ c ∧ c ≤ 21) → c ≠ 28 → R' c = R c) → VJ p l e Rm s m args below meth c nL G vwCl A Qf (cells + 8) (slots + 48) f M' (pc + 3) lv (.long (v.toInt64) :: st)) : VJ p l e Rm s m args below meth c nL G vwCl A Qf cells slots f M pc lv (.int (nI q) :: .int (nI u) :: .ref ox :: st) := by
  obtain ⟨b1, b2, b3, b4, j2, j4, j1, j5⟩ := hM.iv
  obtain ⟨ad, Ix, Rx, rf, ra, ta, ea, wa, adk, Ik, Rk, cmk, adq, Iq, Rq, cmq, adc, Ic, Rc, cmc, adn, In, Rn, AL, AI, AR, rs, RL, m9, od9, ao9, hc, -⟩ := id hM
  have r1 := hR.1
  have r2 := hR.2
  obtain ⟨v, R', hf, hv, h28, rc⟩ := m_look2 hc (Nat.le_of_ble_eq_true rfl) L hu hq
  refine VJ.w_look CX hN hM _ _ hf cw hroom hdg ⟨Nat.le_trans (Nat.add_le_add_left (Nat.le_of_ble_eq_true rfl) _) r1, Nat.le_trans (Nat.add_le_add_left (Nat.le_of_ble_eq_true rfl) _) r2⟩ (fun M' L' hL hM' => ?_)
  obtain rfl := hL.ok up_same (by decide +kernel)
  exact VJ.widen (Nat.add_le_add_left (Nat.le_of_ble_eq_true rfl) _) (Nat.add_le_add_left (Nat.le_of_ble_eq_true rfl) _) (k M' _ _ v (hM'.at ((up_ne (by omega)).trans j2) b1 ((up_ne (by omega)).trans j4) b2 ((up_ne (by omega)).trans j1) b3 ((up_ne (by omega)).trans j5) b4) hv h28 (fun c hc => up_ne hc) rc)


end LLs
