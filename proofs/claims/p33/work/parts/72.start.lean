/-! ===== PURE: where all begins ===== -/
section PSt
theorem init_l {N : Nat} : ∀ (c j : Nat) (R : RI) (f : Nat), j + c = 120 → (∀ c, c ≠ 24 → R c = fun _ => 0) → (∀ i, i < j → R 24 i = -1) → c < f → ∃ R', f_X6_init_l261 N f R (nI j) = some R' ∧ (∀ c, c ≠ 24 → R' c = fun _ => 0) ∧ (∀ i, i < 120 → R' 24 i = -1)
  | c, j, R, 0, _, _, _, hf => absurd hf (by omega)
  | 0, j, R, f + 1, hj, h1, h2, hf => by
    obtain rfl : j = 120 := by omega
    refine ⟨R, ?_, h1, h2⟩
    show f_X6_init_l261b N (f_X6_init_l261 N f) R (nI 120) = _
    unfold f_X6_init_l261b
    rw [if_pos (by decide)]
  | c + 1, j, R, f + 1, hj, h1, h2, hf => by
    show ∃ R', f_X6_init_l261b N (f_X6_init_l261 N f) R (nI j) = _ ∧ _
    unfold f_X6_init_l261b
    rw [if_neg (fun e => by have := (n_le (a := 120) (by omega) (by omega)).mp e; omega), og_nI (by omega) (by omega), nI_tn (by omega), ol_eq, ol_eq, nI_s9]
    refine init_l c (j + 1) _ f (by omega) (fun c hc => by rw [up_ne hc]; exact h1 c hc) (fun i hi => ?_) (by omega)
    rw [up_same, upd_at]
    by_cases e : i = j
    · rw [if_pos e]
    · rw [if_neg e]; exact h2 i (by omega)
theorem init_iv {N : Nat} (hN : 700 ≤ N) : ∃ R0 out, f_X6_init N = some R0 ∧ f_X5_init N = some out ∧ IV N 0 (va_up (fun _ => 0) 0 10000) (fun _ _ => 0) 0 none (fun _ => none) out.1 out.2.1 out.2.2 (va_up (fun _ => 0) 1 1001) (fun _ _ => 0) [] (fun _ _ => 0) (fun _ _ => none) (fun _ => none) [] (va_up (va_up (fun _ => 0) 1 10000) 6 1000) R0 := by
  obtain ⟨R0, h1, h2, h3⟩ := init_l (N := N) 120 0 (fun _ _ => 0) N rfl (fun _ _ => rfl) (fun i hi => absurd hi (Nat.not_lt_zero i)) (by omega)
  have no : ∀ {i : Nat}, i < 0 → False := fun h => Nat.not_lt_zero _ h
  have A : AC 0 0 0 (fun i => i) (fun i => i) (va_up (va_up (fun _ => 0) 1 10000) 6 1000) R0 [] (fun _ _ => 0) (fun _ _ => none) 0 none (fun _ => none) := by
    refine ⟨by omega, by omega, by omega, ?_, ?_, ?_, rfl, fun i hi => (no hi).elim, fun i j hi => (no hi).elim, fun i _ => by rw [if_neg (by omega)], fun i hi => (no hi).elim, fun i hi => (no hi).elim, fun i hi => (no hi).elim, fun i hi => (no hi).elim, fun i hi => (no hi).elim, fun i hi => (no hi).elim, fun i hi => (no hi).elim, fun i hi => (no hi).elim, fun i hi => (no hi).elim, fun i hi => (no hi).elim, fun i hi => (no hi).elim, fun i hi => (no hi).elim, fun i hi => (no hi).elim, fun i hi => (no hi).elim, fun i hi => (no hi).elim, fun i hi => (no hi).elim, fun i hi => (no hi).elim, by rw [if_neg (by omega)], fun i j _ hj => (no hj).elim⟩
    · rw [up_ne (by omega), up_ne (by omega)]; rfl
    · rw [up_ne (by omega), up_ne (by omega)]; rfl
    · rw [up_ne (by omega), up_ne (by omega)]; rfl
  have hf : ∃ Ik Rk cm, f_X2_find N ([]) 0 none (fun _ => none) (fun _ _ => 0) (fun _ _ => none) (fun _ => 0) (fun _ _ => 0) none (nI 10000) (nI 10000) = some (Ik, Rk, cm) ∧ Ik 0 = nI 10000 ∧ cm = none := by
    obtain ⟨Rb, c, -, g2, -, -, g5, -⟩ := find_run A (show 200 ≤ N by omega) (fun _ => 0) (fun _ _ => 0) none (nI 10000) (nI 10000)
    refine ⟨_, _, _, g5, up_same, ?_⟩
    unfold nth
    rw [if_neg (Nat.not_lt_zero c)]
  obtain ⟨Ik, Rk, cm, g5, e0, ecm⟩ := hf
  have g5' : f_X2_find N ([]) 0 none (fun _ => none) (fun _ _ => 0) (fun _ _ => none) (fun _ => 0) (fun _ _ => 0) none ((va_up (fun _ => 0) 0 10000) 0) ((va_up (fun _ => 0) 0 10000) 0) = some (Ik, Rk, cm) := g5
  refine ⟨R0, (Ik, Rk, cm), ?_, ?_, ?_⟩
  · unfold f_X6_init
    exact h1
  · unfold f_X5_init
    rw [g5', ob3_mk]
  · refine ⟨0, 0, 0, 10000, 0, fun i => i, fun i => i, A, ⟨by omega, fun i hi => (no hi).elim, fun i hi => (no hi).elim, fun i hi => (no hi).elim⟩, ⟨?_, up_same, ?_, e0, ecm⟩, ⟨Ik, Rk, cm, g5, LEq.rf⟩, ⟨by omega, ?_, ?_, ?_, ?_, fun j hj => (no hj).elim, fun j hj => (no hj).elim⟩, ⟨fun j hj => (no hj).elim, fun p hp => (no hp).elim⟩, ⟨fun j _ => ?_, fun j _ => ?_, fun j _ => Or.inl ?_⟩, ⟨0, by omega, ?_, Nat.zero_le _, ?_, ?_, fun i _ => rfl, fun i e he => ?_, fun j hj => (no hj).elim, fun i p _ h5 hp => h3 _ (by omega)⟩⟩
    · rw [up_ne (by omega), up_same]; rfl
    · rw [up_ne (by omega)]; rfl
    · rw [up_ne (by omega), up_ne (by omega)]; rfl
    · rw [up_same]; rfl
    · rw [up_ne (by omega)]; rfl
    · rw [up_same]; rfl
    · rw [h2 27 (by omega)]
    · rw [h2 28 (by omega)]
    · rw [h2 27 (by omega)]
    · rw [up_ne (by omega), up_ne (by omega)]; rfl
    · rw [up_ne (by omega), up_ne (by omega)]; rfl
    · rw [up_ne (by omega)]; rfl
    · cases he
end PSt
