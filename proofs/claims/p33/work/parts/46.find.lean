/-! ===== PURE: a land on a day as known on a day ===== -/
section PF
variable {n m P : Nat} {od ad : Nat → Nat} {I : OI} {R : RI} {AL : List Nat} {AI : Nat → OI} {AR : Nat → OO} {ta : Int32} {ea : Option Nat} {wa : OO}
/-- the land that was gone through, and the class's -/
abbrev LF (R Rk : RI) : Prop := (LdOK (R 11)) ∧ (∀ j, j < 24 → Rk 0 j = nI (root (R 11) j)) ∧ (∀ j, j < 24 → Rk 1 j = R 12 j) ∧ (∀ j, j < 24 → Rk 2 j = R 13 j) ∧ (∀ j, j < 24 → Rk 3 j = R 14 j) ∧ (∀ j, j < 24 → Rk 4 j = R 15 j) ∧ (∀ j, j < 24 → Rk 5 j = R 16 j) ∧ (∀ j, j < 24 → Rk 6 j = R 18 j) ∧ (∀ j, j < 24 → Rk 7 j = R 17 j) ∧ (∀ j, j < 24 → Rk 8 j = R 19 j) ∧ (∀ j, j < 24 → PN 24 (R 15 j)) ∧ (∀ j, j < 24 → PN 24 (R 16 j)) ∧ (∀ j, j < 24 → R 12 j = 0 ∨ R 12 j = 1 ∨ R 12 j = 2 ∨ R 12 j = 3)
theorem LF.ld {R Rk : RI} (h9 : LF R Rk) : LdOK (R 11) := h9.1
theorem LF.mt {R Rk : RI} (h9 : LF R Rk) : ∀ j, j < 24 → Rk 0 j = nI (root (R 11) j) := h9.2.1
theorem LF.st {R Rk : RI} (h9 : LF R Rk) : ∀ j, j < 24 → Rk 1 j = R 12 j := h9.2.2.1
theorem LF.hm {R Rk : RI} (h9 : LF R Rk) : ∀ j, j < 24 → Rk 2 j = R 13 j := h9.2.2.2.1
theorem LF.nm {R Rk : RI} (h9 : LF R Rk) : ∀ j, j < 24 → Rk 3 j = R 14 j := h9.2.2.2.2.1
theorem LF.pr {R Rk : RI} (h9 : LF R Rk) : ∀ j, j < 24 → Rk 4 j = R 15 j := h9.2.2.2.2.2.1
theorem LF.mo {R Rk : RI} (h9 : LF R Rk) : ∀ j, j < 24 → Rk 5 j = R 16 j := h9.2.2.2.2.2.2.1
theorem LF.bm {R Rk : RI} (h9 : LF R Rk) : ∀ j, j < 24 → Rk 6 j = R 18 j := h9.2.2.2.2.2.2.2.1
theorem LF.bd {R Rk : RI} (h9 : LF R Rk) : ∀ j, j < 24 → Rk 7 j = R 17 j := h9.2.2.2.2.2.2.2.2.1
theorem LF.adp {R Rk : RI} (h9 : LF R Rk) : ∀ j, j < 24 → Rk 8 j = R 19 j := h9.2.2.2.2.2.2.2.2.2.1
theorem LF.prn {R Rk : RI} (h9 : LF R Rk) : ∀ j, j < 24 → PN 24 (R 15 j) := h9.2.2.2.2.2.2.2.2.2.2.1
theorem LF.mon {R Rk : RI} (h9 : LF R Rk) : ∀ j, j < 24 → PN 24 (R 16 j) := h9.2.2.2.2.2.2.2.2.2.2.2.1
theorem LF.stn {R Rk : RI} (h9 : LF R Rk) : ∀ j, j < 24 → R 12 j = 0 ∨ R 12 j = 1 ∨ R 12 j = 2 ∨ R 12 j = 3 := h9.2.2.2.2.2.2.2.2.2.2.2.2
/-- while doubles are told -/
abbrev DT (j : Nat) (R0 R : RI) : Prop := (∀ c, c ≠ 12 → R c = R0 c) ∧ (∀ p, p < j → R 12 p = if R0 11 p = -1 then R0 12 p else 3) ∧ (∀ p, j ≤ p → R 12 p = R0 12 p)
theorem DT.sm {j : Nat} {R0 R : RI} (h9 : DT j R0 R) : ∀ c, c ≠ 12 → R c = R0 c := h9.1
theorem DT.lo {j : Nat} {R0 R : RI} (h9 : DT j R0 R) : ∀ p, p < j → R 12 p = if R0 11 p = -1 then R0 12 p else 3 := h9.2.1
theorem DT.hi {j : Nat} {R0 R : RI} (h9 : DT j R0 R) : ∀ p, j ≤ p → R 12 p = R0 12 p := h9.2.2
theorem tell_doubles {N : Nat} (hP : P ≤ 24) (hI : I 4 = nI P) {R0 : RI} : ∀ (c j : Nat) (R : RI) (f : Nat), j + c = P → DT j R0 R → c < f → ∃ R', f_X6_goThrough_l205 N I f R (nI j) = some R' ∧ DT P R0 R'
  | 0, j, R, f, hj, h, hf => by
    obtain ⟨f, rfl⟩ : ∃ z, f = z + 1 := ⟨f - 1, by omega⟩
    obtain rfl : j = P := by omega
    refine ⟨R, ?_, h⟩
    show f_X6_goThrough_l205b N I (f_X6_goThrough_l205 N I f) R (nI j) = _
    unfold f_X6_goThrough_l205b
    rw [hI, if_pos ((n_le (by omega) (by omega)).mpr (Nat.le_refl _))]
  | c + 1, j, R, f, hj, h, hf => by
    obtain ⟨f, rfl⟩ : ∃ z, f = z + 1 := ⟨f - 1, by omega⟩
    have hj24 : j < 24 := by omega
    have e1 : f_X6_goThrough_l205 N I (f + 1) R (nI j) = f_X6_goThrough_l205 N I f (va_up R 12 (upd (R 12) j (if R 11 j = -1 then R 12 j else 3))) (nI (j + 1)) := by
      show f_X6_goThrough_l205b N I (f_X6_goThrough_l205 N I f) R (nI j) = _
      unfold f_X6_goThrough_l205b f_X6_goThrough_j238
      rw [hI, if_neg (fun e => by have := (n_le (by omega) (by omega)).mp e; omega)]
      simp only [og_nI hj24 (show 24 < 2147483648 by omega), nI_tn (bd4 hj24), ol_eq, nI_s9]
      by_cases h9 : R 11 j = -1
      · rw [if_pos h9, if_pos h9]
      · rw [if_neg h9, if_neg h9]
    rw [e1]
    refine tell_doubles hP hI c (j + 1) _ f (by omega) ⟨fun c hc => by rw [up_ne hc]; exact h.sm c hc, fun p hp => ?_, fun p hp => ?_⟩ (by omega)
    · rw [up_same]
      by_cases e : p = j
      · subst e; rw [upd_same, h.sm 11 (by omega), h.hi p (Nat.le_refl _)]
      · rw [upd_ne e]; exact h.lo p (by omega)
    · rw [up_same, upd_ne (by omega)]; exact h.hi p (by omega)
theorem end_both {N : Nat} (hN : 200 ≤ N) (A : AC n m P od ad I R AL AI AR ta ea wa) {Rk : RI} (hW : WF R) (hL : LR R Rk) (hO : ∀ p, P ≤ p → p < 24 → R 11 p = -1 ∧ R 12 p = 0) :
    ∃ R', f_X6_goThrough_l205 N I N R 0 = some R' ∧ LF R' Rk ∧ SameQ R R' ∧ R' 11 = R 11 ∧ (∀ z, P ≤ z → z < 24 → R' 12 z = 0) := by
  have hP := A.P24
  obtain ⟨R', h1, h2⟩ := tell_doubles (N := N) (I := I) (R0 := R) hP A.iP P 0 R N (by omega) ⟨fun _ _ => rfl, fun p hp => absurd hp (Nat.not_lt_zero p), fun _ _ => rfl⟩ (by omega)
  have e12 : ∀ j, j < 24 → R' 12 j = if R 11 j = -1 then R 12 j else 3 := fun j hj => by
    by_cases e : j < P
    · exact h2.lo j e
    · rw [h2.hi j (by omega), if_pos (hO j (by omega) hj).1]
  refine ⟨R', h1, ?_, fun c hc => h2.sm c (by omega), h2.sm 11 (by omega), fun z h3 h4 => by rw [h2.hi z h3]; exact (hO z h3 h4).2⟩
  refine ⟨?_, ?_, ?_, ?_, ?_, ?_, ?_, ?_, ?_, ?_, ?_, ?_, ?_⟩
  · rw [h2.sm 11 (by omega)]; exact hW.ld
  · intro j hj; rw [h2.sm 11 (by omega)]; exact hL.mt j hj
  · intro j hj; rw [e12 j hj]; exact hL.st j hj
  · intro j hj; rw [h2.sm 13 (by omega)]; exact hL.hm j hj
  · intro j hj; rw [h2.sm 14 (by omega)]; exact hL.nm j hj
  · intro j hj; rw [h2.sm 15 (by omega)]; exact hL.pr j hj
  · intro j hj; rw [h2.sm 16 (by omega)]; exact hL.mo j hj
  · intro j hj; rw [h2.sm 18 (by omega)]; exact hL.bm j hj
  · intro j hj; rw [h2.sm 17 (by omega)]; exact hL.bd j hj
  · intro j hj; rw [h2.sm 19 (by omega)]; exact hL.ad j hj
  · intro j hj; rw [h2.sm 15 (by omega)]; exact hW.pr j hj
  · intro j hj; rw [h2.sm 16 (by omega)]; exact hW.mo j hj
  · intro j hj
    rw [e12 j hj]
    split
    · rcases hW.st j hj with e | e | e
      · exact Or.inl e
      · exact Or.inr (Or.inl e)
      · exact Or.inr (Or.inr (Or.inl e))
    · exact Or.inr (Or.inr (Or.inr rfl))
theorem hd_nth (A : AC n m P od ad I R AL AI AR ta ea wa) : ea = nth m od ad 0 := A.hd
/-- find against goThrough -/
theorem find_both {N : Nat} (hN : 200 ≤ N) (A : AC n m P od ad I R AL AI AR ta ea wa) (Ik : OI) (Rk : RI) (cm : Option Nat) (s k : Int32) :
    ∃ R' Rk' j', f_X6_goThrough N I R s k = some R' ∧ f_X2_find N AL ta ea wa AI AR Ik Rk cm s k = some (va_up (va_up (va_up Ik 1 k) 0 0) 0 s, Rk', nth m od ad j') ∧ LF R' Rk' ∧ SameQ R R' ∧ (∀ z, P ≤ z → z < 24 → R' 12 z = 0) := by
  have hn := A.n150
  have hm := A.mn
  obtain ⟨R1, Rk1, h1, h2, h3, h4, h5, h6⟩ := begin_both (N := N) (Ik := Ik) (Rk := Rk) (cm := cm) (x1 := s) (x2 := k) A hN
  obtain ⟨R2, Rk2, j', e1, e2, e3, e4, e5, -, -, -, -, e6⟩ := goes_both hN (Ik := va_up (va_up (va_up Ik 1 k) 0 0) 0 s) (cm := ea) (s := s) (k := k) (by rw [up_ne (by omega), up_ne (by omega), up_same]) m 0 R1 Rk1 N N (A.sq h5) (by omega) h4 h3 h6 (by omega) (by omega)
  have e11 : R2 11 = R1 11 := e5 11 (by omega)
  obtain ⟨R3, g1, g2, g3, g4, g5⟩ := end_both hN (A.sq (fun c hc => (e5 c (by omega)).trans (h5 c hc))) e3 e4 e6
  refine ⟨R3, Rk2, j', ?_, ?_, g2, fun c hc => (g3 c hc).trans ((e5 c (by omega)).trans (h5 c hc)), g5⟩
  · rw [h1]; exact e1.trans g1
  · unfold f_X2_find
    rw [h2, ob3_some]
    unfold f_X2_goOn
    rw [ol_eq]
    have e2' := e2
    rw [← hd_nth A] at e2'
    rw [e2', ob3_some]
end PF
