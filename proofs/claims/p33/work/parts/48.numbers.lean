/-! ===== PURE: the numbers for life ===== -/
section PNum
def chk (s : Nat) : Nat := (2 * (s / 1000) + 3 * (s / 100 % 10) + 4 * (s / 10 % 10) + 5 * (s % 10)) % 11
theorem chk_m {s : Nat} (hs : s < 100000) : f_X6_checkOf (nI s) = some (nI (chk s)) := by
  have e1 : (nI s / 100) = nI (s / 100) := nI_div (b := 100) (by omega) (by omega)
  have e2 : (nI s / 10) = nI (s / 10) := nI_div (b := 10) (by omega) (by omega)
  have e3 : (nI s / 1000) = nI (s / 1000) := nI_div (b := 1000) (by omega) (by omega)
  have m1 : nI (s / 100) - nI (s / 100) / 10 * 10 = nI (s / 100 % 10) := nI_mod (b := 10) (by omega) (by omega)
  have m2 : nI (s / 10) - nI (s / 10) / 10 * 10 = nI (s / 10 % 10) := nI_mod (b := 10) (by omega) (by omega)
  have m3 : nI s - nI s / 10 * 10 = nI (s % 10) := nI_mod (b := 10) (by omega) (by omega)
  unfold f_X6_checkOf
  simp only [ol_eq]
  rw [m3, e1, e2, e3, m1, m2, show (2 : Int32) = nI 2 from rfl, show (3 : Int32) = nI 3 from rfl, show (4 : Int32) = nI 4 from rfl, show (5 : Int32) = nI 5 from rfl, nI_mul, nI_mul, nI_mul, nI_mul, nI_ad, nI_ad, nI_ad]
  exact congrArg some (nI_mod (b := 11) (by omega) (by omega))
theorem chk_c {s : Nat} (hs : s < 10000) : f_X3_checkOf (nI s) = some (nI (chk s)) := by
  have e1 : (nI s / 100) = nI (s / 100) := nI_div (b := 100) (by omega) (by omega)
  have e2 : (nI s / 10) = nI (s / 10) := nI_div (b := 10) (by omega) (by omega)
  have e3 : (nI s / 1000) = nI (s / 1000) := nI_div (b := 1000) (by omega) (by omega)
  have m1 : nI (s / 100) - nI (s / 100) / 10 * 10 = nI (s / 100 % 10) := nI_mod (b := 10) (by omega) (by omega)
  have m2 : nI (s / 10) - nI (s / 10) / 10 * 10 = nI (s / 10 % 10) := nI_mod (b := 10) (by omega) (by omega)
  have m3 : nI s - nI s / 10 * 10 = nI (s % 10) := nI_mod (b := 10) (by omega) (by omega)
  have m4 : nI (s / 1000) - nI (s / 1000) / 10 * 10 = nI (s / 1000 % 10) := nI_mod (b := 10) (by omega) (by omega)
  unfold f_X3_checkOf
  simp only [ol_eq]
  rw [m3, e1, e2, e3, m1, m2, m4, show (2 : Int32) = nI 2 from rfl, show (3 : Int32) = nI 3 from rfl, show (4 : Int32) = nI 4 from rfl, show (5 : Int32) = nI 5 from rfl, nI_mul, nI_mul, nI_mul, nI_mul, nI_ad, nI_ad, nI_ad]
  have : s / 1000 % 10 = s / 1000 := by omega
  rw [this]
  exact congrArg some (nI_mod (b := 11) (by omega) (by omega))
end PNum
def nx (s : Nat) : Nat := if chk (s + 1) = 10 then (if chk (s + 2) = 10 then s + 3 else s + 2) else s + 1
def ser : Nat → Nat
  | 0 => 1000
  | g + 1 => nx (ser g)
theorem ser_ok : ∀ g, g < 61 → 1000 ≤ ser g ∧ ser g ≤ 2000 ∧ chk (ser (g + 1)) ≠ 10 ∧ (ser (g + 1) = ser g + 1 ∨ ser (g + 1) = ser g + 2 ∧ chk (ser g + 1) = 10) := by decide +kernel
section PNg
theorem nI10 {c : Nat} (h : c < 11) : nI c = 10 ↔ c = 10 := by
  rw [show (10 : Int32) = nI 10 from rfl, n_eq (by omega) (by omega)]
theorem chk_lt (s : Nat) : chk s < 11 := Nat.mod_lt _ (by omega)
theorem give_m {N g : Nat} {I : OI} {R : RI} {x : Int32} (hN : 3 ≤ N) (hg : g < 60) (h5 : I 5 = nI g) (h6 : I 6 = nI (ser g)) :
    f_X6_giveTo N I R x = some (nI (10 * ser (g + 1) + chk (ser (g + 1))), va_up (va_up I 6 (nI (ser (g + 1)))) 5 (nI (g + 1)), va_up (va_up R 9 (upd (R 9) g (nI (10 * ser (g + 1) + chk (ser (g + 1)))))) 10 (upd (R 10) g x)) := by
  obtain ⟨s0, s1, s2, s3⟩ := ser_ok g (by omega)
  have fin : ∀ (J : OI) (f s : Nat), J 6 = nI s → J 5 = nI g → s < 9000 → chk s ≠ 10 → f_X6_giveTo_l10 N (f + 1) J R x = some (nI (10 * s + chk s), va_up J 5 (nI (g + 1)), va_up (va_up R 9 (upd (R 9) g (nI (10 * s + chk s)))) 10 (upd (R 10) g x)) := by
    intro J f s e6 e5 hs hc
    show f_X6_giveTo_l10b N (f_X6_giveTo_l10 N f) J R x = _
    unfold f_X6_giveTo_l10b
    rw [e6, chk_m (by omega), ob1_some, if_neg (fun e => hc ((nI10 (chk_lt s)).mp e)), ob1_some, e5, og_nI (by omega) (by omega), nI_tn (by omega), ol_eq, og_nI (by omega) (by omega), ol_eq, ol_eq, up_same, nI_s1, nI_p1, og_nI (by omega) (by omega), nI_tn (by omega)]
    rw [show (10 : Int32) = nI 10 from rfl, nI_mul, nI_ad, up_ne (by omega), up_same, upd_same, up_ne (by omega)]
  obtain ⟨f, rfl⟩ : ∃ f, N = f + 2 := ⟨N - 2, by omega⟩
  unfold f_X6_giveTo
  rw [ol_eq, h6, nI_s1]
  rcases s3 with e | ⟨e, hc⟩
  · rw [e] at s2 ⊢
    exact fin _ _ _ up_same (by rw [up_ne (by omega)]; exact h5) (by omega) s2
  · rw [e] at s2 ⊢
    show f_X6_giveTo_l10b (f + 2) (f_X6_giveTo_l10 (f + 2) (f + 1)) _ R x = _
    unfold f_X6_giveTo_l10b
    rw [up_same, chk_m (by omega), ob1_some, if_pos ((nI10 (chk_lt _)).mpr hc), ol_eq, nI_s1, upup]
    exact fin _ _ _ up_same (by rw [up_ne (by omega)]; exact h5) (by omega) s2
end PNg
section PNh
theorem give_c {N g : Nat} {I : OI} {R : RI} {x : Int32} (hN : 3 ≤ N) (hg : g < 60) (h5 : I 0 = nI g) (h6 : I 1 = nI (ser g + 1)) :
    f_X3_give N I R x = some (nI (10 * ser (g + 1) + chk (ser (g + 1))), va_up (va_up I 1 (nI (ser (g + 1) + 1))) 0 (nI (g + 1)), va_up (va_up R 0 (upd (R 0) g (nI (10 * ser (g + 1) + chk (ser (g + 1)))))) 1 (upd (R 1) g x)) := by
  obtain ⟨s0, s1, s2, s3⟩ := ser_ok g (by omega)
  have b9 : ∀ s, s < 9000 → ¬ (9999 : Int32) < nI s := fun s hs => by
    rw [show (9999 : Int32) = nI 9999 from rfl, n_lt (by omega) (by omega)]; omega
  have fin : ∀ (f s : Nat), s < 9000 → chk s ≠ 10 → f_X3_takeNext_l5 N R (f + 1) I (nI s) = some (nI (10 * s + chk s), va_up I 1 (nI (s + 1))) := by
    intro f s hs hc
    show f_X3_takeNext_l5b N R (f_X3_takeNext_l5 N R f) I (nI s) = _
    unfold f_X3_takeNext_l5b
    rw [if_neg (b9 s hs), chk_c (by omega), ob1_some, if_neg (fun e => hc ((nI10 (chk_lt s)).mp e)), ol_eq, ob1_some, nI_s1]
    rw [show (10 : Int32) = nI 10 from rfl, nI_mul, nI_ad]
  have tk : f_X3_takeNext N R I = some (nI (10 * ser (g + 1) + chk (ser (g + 1))), va_up I 1 (nI (ser (g + 1) + 1))) := by
    obtain ⟨f, rfl⟩ : ∃ f, N = f + 2 := ⟨N - 2, by omega⟩
    unfold f_X3_takeNext
    rw [ol_eq, h6]
    rcases s3 with e | ⟨e, hc⟩
    · rw [e] at s2 ⊢
      exact fin _ _ (by omega) s2
    · rw [e] at s2 ⊢
      show f_X3_takeNext_l5b (f + 2) R (f_X3_takeNext_l5 (f + 2) R (f + 1)) I _ = _
      unfold f_X3_takeNext_l5b
      rw [if_neg (b9 _ (by omega)), chk_c (by omega), ob1_some, if_pos ((nI10 (chk_lt _)).mpr hc), ol_eq, nI_s9]
      exact fin _ _ (by omega) s2
  unfold f_X3_give
  rw [tk, ob2_some]
  have e0 : va_up I 1 (nI (ser (g + 1) + 1)) 0 = nI g := by rw [up_ne (by omega)]; exact h5
  simp only [ol_eq]
  rw [e0, putv_nI (by omega) (by omega), putv_nI (by omega) (by omega), nI_s1, show ∀ y, va_up R 0 y 1 = R 1 from fun y => up_ne (by omega)]
end PNh
section PNi
/-- the numbers of both -/
abbrev NumR (g : Nat) (I : OI) (R : RI) (In : OI) (Rn : RI) : Prop := g ≤ 60 ∧ I 5 = nI g ∧ I 6 = nI (ser g) ∧ In 0 = nI g ∧ In 1 = nI (ser g + 1) ∧ (∀ j, j < g → Rn 0 j = R 9 j) ∧ (∀ j, j < g → Rn 1 j = R 10 j)
theorem NumR.give {g : Nat} {I In : OI} {R Rn : RI} {v x : Int32} (h : NumR g I R In Rn) (hg : g < 60) :
    NumR (g + 1) (va_up (va_up I 6 (nI (ser (g + 1)))) 5 (nI (g + 1))) (va_up (va_up R 9 (upd (R 9) g v)) 10 (upd (R 10) g x)) (va_up (va_up In 1 (nI (ser (g + 1) + 1))) 0 (nI (g + 1))) (va_up (va_up Rn 0 (upd (Rn 0) g v)) 1 (upd (Rn 1) g x)) := by
  obtain ⟨-, -, -, -, -, h1, h2⟩ := h
  refine ⟨by omega, up_same, by rw [up_ne (by omega), up_same], up_same, by rw [up_ne (by omega), up_same], fun j hj => ?_, fun j hj => ?_⟩
  · rw [up_ne (by omega), up_same, up_ne (by omega), up_same]
    by_cases e : j = g
    · subst e; rw [upd_same, upd_same]
    · rw [upd_ne e, upd_ne e]; exact h1 j (by omega)
  · rw [up_same, up_same]
    by_cases e : j = g
    · subst e; rw [upd_same, upd_same]
    · rw [upd_ne e, upd_ne e]; exact h2 j (by omega)
end PNi
