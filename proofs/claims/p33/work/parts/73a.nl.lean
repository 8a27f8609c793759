/-! ===== PURE: more that always holds of a land: names, partners, mothers, doubles ===== -/
section PNl
abbrev NL (R : RI) : Prop := (∀ j, j < 24 → R 1 j = 1 ∨ R 1 j = 2 → ∃ v, v < 1000 ∧ R 3 j = nI v) ∧ (∀ j, j < 24 → ¬ (R 1 j = 1 ∨ R 1 j = 2) → R 3 j = -1 ∧ R 5 j = -1) ∧ (∀ j, j < 24 → R 1 j ≠ 1 → R 4 j = -1) ∧ (∀ j, j < 24 → R 5 j ≠ nI j ∧ R 4 j ≠ nI j) ∧ (∀ j i, j < 24 → i < 24 → R 5 j = nI i → R 1 i = 1 ∨ R 1 i = 2) ∧ (∀ j, j < 24 → (R 1 j = 3 ↔ R 0 j ≠ nI j))
theorem NL.nm {R : RI} (h : NL R) : ∀ j, j < 24 → R 1 j = 1 ∨ R 1 j = 2 → ∃ v, v < 1000 ∧ R 3 j = nI v := h.1
theorem NL.no {R : RI} (h : NL R) : ∀ j, j < 24 → ¬ (R 1 j = 1 ∨ R 1 j = 2) → R 3 j = -1 ∧ R 5 j = -1 := h.2.1
theorem NL.pl {R : RI} (h : NL R) : ∀ j, j < 24 → R 1 j ≠ 1 → R 4 j = -1 := h.2.2.1
theorem NL.ns {R : RI} (h : NL R) : ∀ j, j < 24 → R 5 j ≠ nI j ∧ R 4 j ≠ nI j := h.2.2.2.1
theorem NL.mb {R : RI} (h : NL R) : ∀ j i, j < 24 → i < 24 → R 5 j = nI i → R 1 i = 1 ∨ R 1 i = 2 := h.2.2.2.2.1
theorem NL.db {R : RI} (h : NL R) : ∀ j, j < 24 → (R 1 j = 3 ↔ R 0 j ≠ nI j) := h.2.2.2.2.2
abbrev AcN (a : OI) : Prop := a 0 = 0 ∨ a 0 = 2 → ∃ v, v < 1000 ∧ a 6 = nI v
theorem NL.of {Ra Rb : RI} (h : NL Ra) (e : LEq Ra Rb) : NL Rb := by
  have e0 : ∀ j, j < 24 → Rb 0 j = Ra 0 j := fun j hj => (e 0 (by omega) j hj).symm
  have e1 : ∀ j, j < 24 → Rb 1 j = Ra 1 j := fun j hj => (e 1 (by omega) j hj).symm
  have e3 : ∀ j, j < 24 → Rb 3 j = Ra 3 j := fun j hj => (e 3 (by omega) j hj).symm
  have e4 : ∀ j, j < 24 → Rb 4 j = Ra 4 j := fun j hj => (e 4 (by omega) j hj).symm
  have e5 : ∀ j, j < 24 → Rb 5 j = Ra 5 j := fun j hj => (e 5 (by omega) j hj).symm
  refine ⟨fun j hj h1 => ?_, fun j hj h1 => ?_, fun j hj h1 => ?_, fun j hj => ?_, fun j i hj hi h1 => ?_, fun j hj => ?_⟩
  · rw [e3 j hj]; rw [e1 j hj] at h1; exact h.nm j hj h1
  · rw [e3 j hj, e5 j hj]; rw [e1 j hj] at h1; exact h.no j hj h1
  · rw [e4 j hj]; rw [e1 j hj] at h1; exact h.pl j hj h1
  · rw [e5 j hj, e4 j hj]; exact h.ns j hj
  · rw [e1 i hi]; rw [e5 j hj] at h1; exact h.mb j i hj hi h1
  · rw [e1 j hj, e0 j hj]; exact h.db j hj
section one
variable {R : RI} {a : OI}
theorem NL.born (h : NL R) (ha : AcN a) (h0 : a 0 = 0) {j0 : Nat} (hj0 : j0 < 24) (hz : R 1 j0 = 0) {y : Int32} (hy : y = -1 ∨ ∃ i, i < 24 ∧ i ≠ j0 ∧ y = nI i ∧ R 1 i = 1) : NL (bornv R (nI j0) y a) := by
  obtain ⟨v, hv, hv2⟩ := ha (Or.inl h0)
  have h16 : (24 : Nat) < 2147483648 := by omega
  have r : bornv R (nI j0) y a = va_up (va_up (va_up (va_up (va_up (va_up R 1 (upd (R 1) j0 1)) 2 (upd (R 2) j0 (a 5))) 3 (upd (R 3) j0 (a 6))) 5 (upd (R 5) j0 y)) 6 (upd (R 6) j0 y)) 7 (upd (R 7) j0 (a 2)) := by
    unfold bornv
    simp only [putv_nI hj0 h16]
  have q0 : ∀ j, bornv R (nI j0) y a 0 j = R 0 j := fun j => by rw [r]; rfl
  have q1 : ∀ j, bornv R (nI j0) y a 1 j = if j = j0 then 1 else R 1 j := fun j => by rw [r]; rfl
  have q3 : ∀ j, bornv R (nI j0) y a 3 j = if j = j0 then a 6 else R 3 j := fun j => by rw [r]; rfl
  have q4 : ∀ j, bornv R (nI j0) y a 4 j = R 4 j := fun j => by rw [r]; rfl
  have q5 : ∀ j, bornv R (nI j0) y a 5 j = if j = j0 then y else R 5 j := fun j => by rw [r]; rfl
  refine ⟨fun j hj h1 => ?_, fun j hj h1 => ?_, fun j hj h1 => ?_, fun j hj => ?_, fun j i hj hi h1 => ?_, fun j hj => ?_⟩
  · rw [q3]; rw [q1] at h1
    by_cases e : j = j0
    · rw [if_pos e]; exact ⟨v, hv, hv2⟩
    · rw [if_neg e] at h1 ⊢; exact h.nm j hj h1
  · rw [q3, q5]; rw [q1] at h1
    by_cases e : j = j0
    · rw [if_pos e] at h1; exact absurd (Or.inl rfl) h1
    · rw [if_neg e] at h1 ⊢; rw [if_neg e]; exact h.no j hj h1
  · rw [q4]; rw [q1] at h1
    by_cases e : j = j0
    · rw [if_pos e] at h1; exact absurd rfl h1
    · rw [if_neg e] at h1; exact h.pl j hj h1
  · rw [q5, q4]
    by_cases e : j = j0
    · subst e
      rw [if_pos rfl]
      refine ⟨fun hy2 => ?_, (h.ns j hj).2⟩
      rcases hy with hy | ⟨i, hi, hi2, hy, -⟩
      · rw [hy] at hy2; exact nI_m1 (by omega) hy2.symm
      · rw [hy] at hy2; exact hi2 ((n_eq (by omega) (by omega)).mp hy2)
    · rw [if_neg e]; exact h.ns j hj
  · rw [q1]; rw [q5] at h1
    by_cases ei : i = j0
    · rw [if_pos ei]; exact Or.inl rfl
    · rw [if_neg ei]
      by_cases e : j = j0
      · rw [if_pos e] at h1
        rcases hy with hy | ⟨i', hi', -, hy, hl⟩
        · rw [hy] at h1; exact absurd h1.symm (nI_m1 (by omega))
        · rw [hy] at h1
          have := (n_eq (by omega) (by omega)).mp h1
          subst this
          exact Or.inl hl
      · rw [if_neg e] at h1; exact h.mb j i hj hi h1
  · rw [q1, q0]
    by_cases e : j = j0
    · subst e
      rw [if_pos rfl]
      refine ⟨fun e => absurd e (by decide), fun e => ?_⟩
      have := (h.db j hj).mpr e
      rw [hz] at this
      exact absurd this (by decide)
    · rw [if_neg e]; exact h.db j hj
theorem NL.r2 (h : NL R) {g : Nat → Int32} : NL (va_up R 2 g) := ⟨h.nm, h.no, h.pl, h.ns, h.mb, h.db⟩
theorem NL.r8 (h : NL R) {g : Nat → Int32} : NL (va_up R 8 g) := ⟨h.nm, h.no, h.pl, h.ns, h.mb, h.db⟩
theorem NL.r3 (h : NL R) {j0 v : Nat} (hl : R 1 j0 = 1) (hv : v < 1000) : NL (va_up R 3 (upd (R 3) j0 (nI v))) := by
  refine ⟨fun j hj h1 => ?_, fun j hj h1 => ?_, h.pl, h.ns, h.mb, h.db⟩
  · show ∃ v', v' < 1000 ∧ upd (R 3) j0 (nI v) j = nI v'
    rw [upd_at]
    by_cases e : j = j0
    · rw [if_pos e]; exact ⟨v, hv, rfl⟩
    · rw [if_neg e]; exact h.nm j hj h1
  · show upd (R 3) j0 (nI v) j = -1 ∧ R 5 j = -1
    rw [upd_at]
    by_cases e : j = j0
    · exact absurd (Or.inl (by rw [e]; exact hl)) h1
    · rw [if_neg e]; exact h.no j hj h1
theorem NL.r4 (h : NL R) {g : Nat → Int32} (h1 : ∀ j, j < 24 → R 1 j ≠ 1 → g j = -1) (h2 : ∀ j, j < 24 → g j ≠ nI j) : NL (va_up R 4 g) := ⟨h.nm, h.no, h1, fun j hj => ⟨(h.ns j hj).1, h2 j hj⟩, h.mb, h.db⟩
theorem NL.r5 (h : NL R) {j0 i0 : Nat} (hj0 : j0 < 24) (hi0 : i0 < 24) (hne : j0 ≠ i0) (hl : R 1 j0 = 1) (hm : R 1 i0 = 1) : NL (va_up R 5 (upd (R 5) j0 (nI i0))) := by
  refine ⟨h.nm, fun j hj h1 => ?_, h.pl, fun j hj => ⟨?_, (h.ns j hj).2⟩, fun j i hj hi h1 => ?_, h.db⟩
  · show R 3 j = -1 ∧ upd (R 5) j0 (nI i0) j = -1
    rw [upd_at]
    by_cases e : j = j0
    · exact absurd (Or.inl (by rw [e]; exact hl)) h1
    · rw [if_neg e]; exact h.no j hj h1
  · show upd (R 5) j0 (nI i0) j ≠ nI j
    rw [upd_at]
    by_cases e : j = j0
    · rw [if_pos e, e]; exact nI_nq hi0 hj0 (fun z => hne z.symm)
    · rw [if_neg e]; exact (h.ns j hj).1
  · have h2 : upd (R 5) j0 (nI i0) j = nI i := h1
    rw [upd_at] at h2
    by_cases e : j = j0
    · rw [if_pos e] at h2
      have := (n_eq (by omega) (by omega)).mp h2
      subst this
      exact Or.inl hm
    · rw [if_neg e] at h2; exact h.mb j i hj hi h2
theorem NL.r1 (h : NL R) {j0 : Nat} (hj0 : j0 < 24) (hl : R 1 j0 = 1) (h4 : R 4 j0 = -1) : NL (va_up R 1 (upd (R 1) j0 2)) := by
  have q1 : ∀ j, va_up R 1 (upd (R 1) j0 2) 1 j = if j = j0 then 2 else R 1 j := fun j => rfl
  refine ⟨fun j hj h1 => ?_, fun j hj h1 => ?_, fun j hj h1 => ?_, h.ns, fun j i hj hi h1 => ?_, fun j hj => ?_⟩
  · rw [q1] at h1
    by_cases e : j = j0
    · exact h.nm j hj (Or.inl (by rw [e]; exact hl))
    · rw [if_neg e] at h1; exact h.nm j hj h1
  · rw [q1] at h1
    by_cases e : j = j0
    · rw [if_pos e] at h1; exact absurd (Or.inr rfl) h1
    · rw [if_neg e] at h1; exact h.no j hj h1
  · rw [q1] at h1
    by_cases e : j = j0
    · rw [e]; exact h4
    · rw [if_neg e] at h1; exact h.pl j hj h1
  · rw [q1]
    by_cases e : i = j0
    · rw [if_pos e]; exact Or.inr rfl
    · rw [if_neg e]; exact h.mb j i hj hi h1
  · rw [q1]
    show (if j = j0 then 2 else R 1 j) = 3 ↔ R 0 j ≠ nI j
    by_cases e : j = j0
    · rw [if_pos e]
      refine ⟨fun e => absurd e (by decide), fun e2 => ?_⟩
      have := (h.db j hj).mpr e2
      rw [e, hl] at this
      exact absurd this (by decide)
    · rw [if_neg e]; exact h.db j hj
theorem NL.hap (h : NL R) (ha : AcN a) (p q : Int32) : NL (hapw a p q R) := by
  have h24 : (24 : Nat) < 2147483648 := by omega
  have n1 : (1 : Int32) ≠ -1 := by decide
  unfold hapw
  split
  · rename_i h0
    split
    · rename_i h1
      obtain ⟨j0, hj0, rfl, h2⟩ := at_of h1 (by decide)
      refine h.born ha h0 hj0 h2 ?_
      by_cases h3 : q ≠ nI j0 ∧ lvg R q
      · rw [if_pos h3]
        obtain ⟨i0, hi0, rfl, h5⟩ := at_of h3.2 n1
        exact Or.inr ⟨i0, hi0, fun e => h3.1 (by rw [e]), rfl, h5⟩
      · rw [if_neg h3]; exact Or.inl rfl
    · exact h
  split
  · split
    · exact h.r2
    · exact h
  split
  · rename_i h0
    split
    · rename_i h1
      obtain ⟨j0, hj0, rfl, h2⟩ := at_of h1 n1
      obtain ⟨v, hv, hv2⟩ := ha (Or.inr h0)
      rw [putv_nI hj0 h24, hv2]
      exact h.r3 h2 hv
    · exact h
  split
  · split
    · rename_i h1
      obtain ⟨⟨h1, h2, h3⟩, h4, h5⟩ := h1
      obtain ⟨j0, hj0, rfl, g2⟩ := at_of h2 n1
      obtain ⟨i0, hi0, rfl, g3⟩ := at_of h3 n1
      rw [putv_nI hj0 h24, putv_nI hi0 h24]
      have hne : j0 ≠ i0 := fun e => h1 (by rw [e])
      refine h.r4 (fun j hj hl => ?_) (fun j hj => ?_)
      · rw [upd_at, upd_at]
        by_cases e1 : j = i0
        · exact absurd (by rw [e1]; exact g3) hl
        · rw [if_neg e1]
          by_cases e2 : j = j0
          · exact absurd (by rw [e2]; exact g2) hl
          · rw [if_neg e2]; exact h.pl j hj hl
      · rw [upd_at, upd_at]
        by_cases e1 : j = i0
        · rw [if_pos e1, e1]; exact nI_nq hj0 hi0 hne
        · rw [if_neg e1]
          by_cases e2 : j = j0
          · rw [if_pos e2, e2]; exact nI_nq hi0 hj0 (fun z => hne z.symm)
          · rw [if_neg e2]; exact (h.ns j hj).2
    · exact h
  split
  · split
    · rename_i h1
      obtain ⟨⟨h1, h2, h3⟩, h4⟩ := h1
      obtain ⟨j0, hj0, rfl, g2⟩ := at_of h2 n1
      obtain ⟨i0, hi0, rfl, g3⟩ := at_of h3 n1
      rw [putv_nI hj0 h24, putv_nI hi0 h24]
      refine h.r4 (fun j hj hl => ?_) (fun j hj => ?_)
      · rw [upd_at, upd_at]
        by_cases e1 : j = i0
        · rw [if_pos e1]
        · rw [if_neg e1]
          by_cases e2 : j = j0
          · rw [if_pos e2]
          · rw [if_neg e2]; exact h.pl j hj hl
      · rw [upd_at, upd_at]
        by_cases e1 : j = i0
        · rw [if_pos e1]; exact fun e => nI_m1 (by omega) e.symm
        · rw [if_neg e1]
          by_cases e2 : j = j0
          · rw [if_pos e2]; exact fun e => nI_m1 (by omega) e.symm
          · rw [if_neg e2]; exact (h.ns j hj).2
    · exact h
  split
  · split
    · rename_i h1
      obtain ⟨j0, hj0, rfl, h2⟩ := at_of h1 n1
      rw [putv_nI hj0 h24, putv_nI hj0 h24, putv_nI hj0 h24, atv_nI hj0 h24]
      have hg : ∀ j, upd (putv 24 (R 4) (R 4 j0) (-1)) j0 (-1) j = -1 ∨ (j ≠ j0 ∧ upd (putv 24 (R 4) (R 4 j0) (-1)) j0 (-1) j = R 4 j) := fun j => by
        rw [upd_at]
        by_cases e : j = j0
        · rw [if_pos e]; exact Or.inl rfl
        · rw [if_neg e]
          unfold putv
          split
          · exact Or.inr ⟨e, rfl⟩
          · rw [upd_at]
            split
            · exact Or.inl rfl
            · exact Or.inr ⟨e, rfl⟩
      have hh : NL (va_up R 4 (upd (putv 24 (R 4) (R 4 j0) (-1)) j0 (-1))) := h.r4 (fun j hj hl => by
        rcases hg j with e | ⟨-, e⟩
        · exact e
        · rw [e]; exact h.pl j hj hl) (fun j hj => by
        rcases hg j with e | ⟨-, e⟩
        · rw [e]; exact fun e => nI_m1 (by omega) e.symm
        · rw [e]; exact (h.ns j hj).2)
      exact (hh.r2 (g := upd (R 2) j0 (-1))).r1 hj0 h2 (by show upd (putv 24 (R 4) (R 4 j0) (-1)) j0 (-1) j0 = -1; rw [upd_at, if_pos rfl])
    · exact h
  split
  · split
    · rename_i h1
      obtain ⟨h1, h2, h3⟩ := h1
      obtain ⟨j0, hj0, rfl, g2⟩ := at_of h2 n1
      obtain ⟨i0, hi0, rfl, g3⟩ := at_of h3 n1
      rw [putv_nI hj0 h24]
      exact (h.r5 hj0 hi0 (fun e => h1 (by rw [e])) g2 g3).r8
    · exact h
  exact h
/-- who is a double stays one -/
theorem hap_3 {j0 : Nat} (h : R 1 j0 = 3) (p q : Int32) : hapw a p q R 1 j0 = 3 := by
  have h24 : (24 : Nat) < 2147483648 := by omega
  have n1 : (1 : Int32) ≠ -1 := by decide
  unfold hapw
  split
  · split
    · rename_i h1
      obtain ⟨j1, hj1, rfl, h2⟩ := at_of h1 (by decide)
      unfold bornv
      show putv 24 (R 1) (nI j1) 1 j0 = 3
      rw [putv_nI hj1 h24, upd_ne (fun e => by rw [← e, h] at h2; exact absurd h2 (by decide))]
      exact h
    · exact h
  split
  · split <;> exact h
  split
  · split <;> exact h
  split
  · split <;> exact h
  split
  · split <;> exact h
  split
  · split
    · rename_i h1
      obtain ⟨j1, hj1, rfl, h2⟩ := at_of h1 n1
      show putv 24 (R 1) (nI j1) 2 j0 = 3
      rw [putv_nI hj1 h24, upd_ne (fun e => by rw [← e, h] at h2; exact absurd h2 (by decide))]
      exact h
    · exact h
  split
  · split <;> exact h
  exact h
end one
theorem run_NL {AI : Nat → OI} : ∀ (L : List Nat) {R : RI}, (∀ x, x ∈ L → AcN (AI x)) → NL R → NL (run AI L R)
  | [], _, _, h => h
  | x :: L, R, ha, h => run_NL L (fun y hy => ha y (List.mem_cons_of_mem _ hy)) (h.hap (ha x (List.mem_cons_self ..)) _ _)
theorem run_3 {AI : Nat → OI} {j0 : Nat} : ∀ (L : List Nat) {R : RI}, R 1 j0 = 3 → run AI L R 1 j0 = 3
  | [], _, h => h
  | x :: L, R, h => run_3 L (hap_3 h _ _)
end PNl
section PNj
section with_acts
variable {n m P : Nat} {od ad : Nat → Nat} {I : OI} {R : RI} {AL : List Nat} {AI : Nat → OI} {AR : Nat → OO} {ta : Int32} {ea : Option Nat} {wa : OO}
theorem joins_both2 (N : Nat) {Ik : OI} {cm : Option Nat} {x1 x2 : Int32} (hk : Ik 1 = x2) : ∀ (c j : Nat) (R Rk : RI) (f g : Nat), AC n m P od ad I R AL AI AR ta ea wa → j + c = n → JR P R Rk → c < f → c < g →
    ∃ R' Rk', f_X6_goThrough_l79 N I f R x1 x2 (nI j) = f_X6_goThrough_l132 N I N R' x1 x2 0 ∧ f_X2_joinDoubles_l2 N AL Ik cm ta ea wa AI AR g Rk (nI j) = f_X2_joinDoubles_l63 N AL Ik cm ta ea wa AI AR N Rk' 0 ∧ JR P R' Rk' ∧ (∀ c, c ≠ 11 → R' c = R c) ∧ (∀ c, c ≠ 0 → Rk' c = Rk c) ∧ (∀ o, o < 24 → (R 11 o ≠ -1 ∨ ∃ i, j ≤ i ∧ i < n ∧ R 0 i = 7 ∧ kn R x2 i ∧ R 4 i = nI o) → R' 11 o ≠ -1)
  | 0, j, R, Rk, f, g, A, hj, h, hf, hg => by
    obtain ⟨f, rfl⟩ : ∃ z, f = z + 1 := ⟨f - 1, by omega⟩
    obtain ⟨g, rfl⟩ : ∃ z, g = z + 1 := ⟨g - 1, by omega⟩
    obtain rfl : j = n := by omega
    have hn := A.n150
    refine ⟨R, Rk, ?_, ?_, h, fun _ _ => rfl, fun _ _ => rfl, fun o ho hz => hz.elim id (fun ⟨i, h1, h2, _⟩ => absurd h2 (by omega))⟩
    · show f_X6_goThrough_l79b N I (f_X6_goThrough_l79 N I f) R x1 x2 (nI j) = _
      unfold f_X6_goThrough_l79b
      rw [A.i2, if_pos ((n_le (by omega) (by omega)).mpr (Nat.le_refl _))]
    · show f_X2_joinDoubles_l2b N AL Ik cm ta ea wa AI AR (f_X2_joinDoubles_l2 N AL Ik cm ta ea wa AI AR g) Rk (nI j) = _
      unfold f_X2_joinDoubles_l2b
      rw [if_pos (by rw [A.tan]; exact (n_le (by omega) (by omega)).mpr (Nat.le_refl _))]
  | c + 1, j, R, Rk, f, g, A, hj, h, hf, hg => by
    obtain ⟨f, rfl⟩ : ∃ z, f = z + 1 := ⟨f - 1, by omega⟩
    obtain ⟨g, rfl⟩ : ∃ z, g = z + 1 := ⟨g - 1, by omega⟩
    have hn := A.n150
    have hjn : j < n := by omega
    have hP := A.P24
    -- what this act does
    have hm : f_X6_goThrough_l79 N I (f + 1) R x1 x2 (nI j) = f_X6_goThrough_l79 N I f (if R 0 j = 7 ∧ kn R x2 j then va_up R 11 (upd (R 11) (R 4 j).toNatClampNeg (R 3 j)) else R) x1 x2 (nI (j + 1)) := by
      show f_X6_goThrough_l79b N I (f_X6_goThrough_l79 N I f) R x1 x2 (nI j) = _
      unfold f_X6_goThrough_l79b
      rw [A.i2, if_neg (fun e => by have := (n_le (by omega) (by omega)).mp e; omega)]
      simp only [og_nI (show j < 150 by omega) (show 150 < 2147483648 by omega), nI_tn (show j < 2147483648 by omega), ol_eq, nI_s9, known_m A x2 hjn, ob1_ite]
      by_cases h7 : R 0 j = 7
      · rw [if_pos h7, if_neg one0, if_pos trivial]
        by_cases hkn : kn R x2 j
        · obtain ⟨w, o, hw, ho, e3, e4⟩ := A.jn j hjn h7
          rw [if_pos hkn, if_pos ⟨h7, hkn⟩, e3, e4, og_nI (show o < 24 by omega) (by omega)]
        · rw [if_neg hkn, if_neg (fun e => hkn e.2)]
      · rw [if_neg h7, if_neg (fun e => h7 e.1)]
    have hc : f_X2_joinDoubles_l2 N AL Ik cm ta ea wa AI AR (g + 1) Rk (nI j) = f_X2_joinDoubles_l2 N AL Ik cm ta ea wa AI AR g (if R 0 j = 7 ∧ kn R x2 j then va_up Rk 0 (putv 24 (Rk 0) (R 4 j) (R 3 j)) else Rk) (nI (j + 1)) := by
      show f_X2_joinDoubles_l2b N AL Ik cm ta ea wa AI AR (f_X2_joinDoubles_l2 N AL Ik cm ta ea wa AI AR g) Rk (nI j) = _
      unfold f_X2_joinDoubles_l2b f_X1_find
      have hfi : (if nI j < 0 then some none else if 150 ≤ nI j then some none else og (nI j) 150 (some (wa (nI j).toNatClampNeg))) = some (some (ad j)) := by
        rw [if_neg (nI_nn (by omega)), if_neg (by rw [show (150 : Int32) = nI 150 from rfl, n_le (by omega) (by omega)]; omega), og_nI (by omega) (by omega), nI_tn (by omega), A.war j (by omega), if_pos hjn]
      rw [if_neg (fun e => by rw [A.tan] at e; have := (n_le (by omega) (by omega)).mp e; omega), hfi, ob1_some, oc_some, om_mem (A.al j hjn), A.c0 j hjn]
      simp only [om_mem (A.al j hjn), hk, known_c A x2 hjn, ob1_ite, ol_eq, nI_s9]
      by_cases h7 : R 0 j = 7
      · rw [if_pos h7, if_neg one0, if_pos trivial, A.c3 j hjn, A.c4 j hjn (by rw [h7]; decide)]
        by_cases hkn : kn R x2 j
        · rw [if_pos hkn, if_pos ⟨h7, hkn⟩]
        · rw [if_neg hkn, if_neg (fun e => hkn e.2)]
      · rw [if_neg h7, if_neg (fun e => h7 e.1)]
    by_cases hh : R 0 j = 7 ∧ kn R x2 j
    · obtain ⟨w, o, hw, ho, e3, e4⟩ := A.jn j hjn hh.1
      rw [if_pos hh, e3, e4, nI_tn (by omega)] at hm
      rw [if_pos hh, e3, e4, putv_nI (by omega) (by omega)] at hc
      obtain ⟨R', Rk', h1, h2, h3, h4, h5, h6⟩ := joins_both2 N hk c (j + 1) _ _ f g (A.sq (SameQ.rf.up (by omega) _)) (by omega) (h.step hw ho hP) (by omega) (by omega)
      refine ⟨R', Rk', hm.trans h1, hc.trans h2, h3, fun c hc => (h4 c hc).trans (up_ne hc), fun c hc => (h5 c hc).trans (up_ne hc), fun o' ho' hz => h6 o' ho' ?_⟩
      by_cases eo : o' = o
      · subst eo
        left
        rw [up_same, upd_same]
        exact nI_m1 (by omega)
      · rcases hz with hz | ⟨i, z1, z2, z3, z4, z5⟩
        · left
          rw [up_same, upd_ne eo]
          exact hz
        · by_cases ei : i = j
          · subst ei
            exact absurd ((n_eq (by omega) (by omega)).mp (z5.symm.trans e4)) eo
          · exact Or.inr ⟨i, by omega, z2, z3, z4, z5⟩
    · rw [if_neg hh] at hm hc
      obtain ⟨R', Rk', h1, h2, h3, h4, h5, h6⟩ := joins_both2 N hk c (j + 1) _ _ f g A (by omega) h (by omega) (by omega)
      refine ⟨R', Rk', hm.trans h1, hc.trans h2, h3, h4, h5, fun o' ho' hz => h6 o' ho' ?_⟩
      rcases hz with hz | ⟨i, z1, z2, z3, z4, z5⟩
      · exact Or.inl hz
      · by_cases ei : i = j
        · subst ei
          exact absurd ⟨z3, z4⟩ hh
        · exact Or.inr ⟨i, by omega, z2, z3, z4, z5⟩
theorem begin_nl (A : AC n m P od ad I R AL AI AR ta ea wa) {N : Nat} (hN : 200 ≤ N) (Ik : OI) (Rk : RI) (cm : Option Nat) (k : Int32) : ∃ Rb, f_X2_begin N AL ta ea wa AI AR Ik Rk cm k = some (va_up (va_up Ik 1 k) 0 0, Rb, ea) ∧ NL Rb ∧ ∀ i o, i < n → o < 24 → R 0 i = 7 → kn R k i → R 4 i = nI o → Rb 1 o = 3 := by
  have hn := A.n150
  obtain ⟨R1, h1, h2⟩ := reset_m (N := N) (J := I) (x1 := k) (x2 := k) (R0 := R) 24 0 R N rfl ⟨SameQ.rf, fun i hi => absurd hi (Nat.not_lt_zero i), fun i hi => absurd hi (Nat.not_lt_zero i), fun i hi => absurd hi (Nat.not_lt_zero i), fun i hi => absurd hi (Nat.not_lt_zero i), fun i hi => absurd hi (Nat.not_lt_zero i), fun i hi => absurd hi (Nat.not_lt_zero i), fun i hi => absurd hi (Nat.not_lt_zero i), fun i hi => absurd hi (Nat.not_lt_zero i), fun i hi => absurd hi (Nat.not_lt_zero i)⟩ (by omega)
  obtain ⟨Rk1, h3, h4⟩ := forget_l (N := N) (Ik := va_up (va_up Ik 1 k) 0 0) (cm := ea) 24 0 Rk N rfl ⟨fun i hi => absurd hi (Nat.not_lt_zero i), fun i hi => absurd hi (Nat.not_lt_zero i)⟩ (by omega)
  obtain ⟨R2, Rk2, h5, h6, h7, h8, h9, h12⟩ := joins_both2 N (Ik := va_up (va_up Ik 1 k) 0 0) (cm := ea) (x1 := k) (x2 := k) (by rw [up_ne (by omega), up_same]) n 0 R1 Rk1 N N (A.sq h2.sq) (by omega) ⟨fun j hj => Or.inl (h2.r11 j hj), fun p _ hp => h2.r11 p hp, fun p hp => by rw [h2.r11 p hp, if_pos rfl]; exact h4.k0 p hp⟩ (by omega) (by omega)
  obtain ⟨Rk3, h10, h11⟩ := doubles_l (N := N) (AL := AL) (Ik := va_up (va_up Ik 1 k) 0 0) (cm := ea) (ta := ta) (ea := ea) (wa := wa) (AI := AI) (AR := AR) (R := R2) (Rk0 := Rk2) h7.ld 24 0 Rk2 N rfl ⟨fun i hi => absurd hi (Nat.not_lt_zero i), fun i hi => absurd hi (Nat.not_lt_zero i), fun p _ hp => h7.mt p hp, fun p _ hp => by rw [h9 1 (by omega)]; exact h4.k1 p hp, fun _ _ _ => rfl⟩ (by omega)
  refine ⟨Rk3, ?_, ?_, ?_⟩
  · show ob1 (f_X2_forget_l2 N (va_up (va_up Ik 1 k) 0 0) ea N Rk (nI 0)) (fun R3 => ob1 (f_X2_joinDoubles_l2 N AL (va_up (va_up Ik 1 k) 0 0) ea ta ea wa AI AR N R3 (nI 0)) (fun R4 => some (va_up (va_up Ik 1 k) 0 0, R4, ea))) = _
    rw [h3, ob1_some, h6]
    show ob1 (f_X2_joinDoubles_l63 N AL (va_up (va_up Ik 1 k) 0 0) ea ta ea wa AI AR N Rk2 (nI 0)) (fun R4 => some (va_up (va_up Ik 1 k) 0 0, R4, ea)) = _
    rw [h10, ob1_some]
  · have b1 : ∀ j, j < 24 → Rk3 1 j = 0 ∨ Rk3 1 j = 3 := fun j hj => by
      rw [h11.lo1 j hj hj]
      split
      · exact Or.inl rfl
      · exact Or.inr rfl
    have b : ∀ c, c ≠ 0 → c ≠ 1 → ∀ j, Rk3 c j = Rk1 c j := fun c h0 h1 j => by rw [h11.sm c h0 h1, h9 c h0]
    have n1 : ∀ j, j < 24 → ¬ Rk3 1 j = 1 := fun j hj e => by rcases b1 j hj with h | h <;> rw [h] at e <;> exact absurd e (by decide)
    have n2 : ∀ j, j < 24 → ¬ Rk3 1 j = 2 := fun j hj e => by rcases b1 j hj with h | h <;> rw [h] at e <;> exact absurd e (by decide)
    have b0 : ∀ j, j < 24 → (Rk3 1 j = 3 ↔ Rk3 0 j ≠ nI j) := fun j hj => by
      rw [h11.lo1 j hj hj, h11.lo0 j hj hj]
      rcases h7.ld j hj with h | ⟨i, hi, h⟩
      · rw [if_pos h, root_self h]
        exact ⟨fun e => absurd e (by decide), fun e => absurd rfl e⟩
      · have hn1 : ¬ R2 11 j = -1 := by rw [h]; exact nI_m1 (by omega)
        rw [if_neg hn1, root_step h7.ld hj hi h]
        have hle := rootN_le h7.ld i i (show i < 24 by omega)
        refine ⟨fun _ e => ?_, fun _ => rfl⟩
        have h13 : root (R2 11) i ≤ i := hle
        have := (n_eq (by omega) (by omega)).mp e
        omega
    refine ⟨fun j hj e => e.elim (fun e => absurd e (n1 j hj)) (fun e => absurd e (n2 j hj)), fun j hj _ => ⟨?_, ?_⟩, fun j hj _ => ?_, fun j hj => ⟨fun e => ?_, fun e => ?_⟩, fun j i hj hi e => ?_, b0⟩
    · rw [b 3 (by omega) (by omega)]; exact h4.k3 j hj
    · rw [b 5 (by omega) (by omega)]; exact h4.k5 j hj
    · rw [b 4 (by omega) (by omega)]; exact h4.k4 j hj
    · rw [b 5 (by omega) (by omega), h4.k5 j hj] at e
      exact absurd e.symm (nI_m1 (by omega))
    · rw [b 4 (by omega) (by omega), h4.k4 j hj] at e
      exact absurd e.symm (nI_m1 (by omega))
    · rw [b 5 (by omega) (by omega), h4.k5 j hj] at e
      exact absurd e.symm (nI_m1 (by omega))
  · intro i o hi ho z3 z4 z5
    have k0 := h2.sq 0 (by omega)
    have k1 := h2.sq 1 (by omega)
    have k4 := h2.sq 4 (by omega)
    have k7 := h2.sq 7 (by omega)
    have z9 := h12 o ho (Or.inr ⟨i, Nat.zero_le _, hi, by rw [k0]; exact z3, by unfold kn at z4 ⊢; rw [k1, k7]; exact z4, by rw [k4]; exact z5⟩)
    rw [h11.lo1 o ho ho, if_neg z9]

/-- names are told with births and namings -/
abbrev NX (n : Nat) (R : RI) : Prop := ∀ i, i < n → R 0 i = 0 ∨ R 0 i = 2 → ∃ v, v < 1000 ∧ R 6 i = nI v
theorem find_nl (A : AC n m P od ad I R AL AI AR ta ea wa) (Z : NX n R) {N : Nat} (hN : 200 ≤ N) (Ik : OI) (Rk : RI) (cm : Option Nat) (s k : Int32) {Ik' : OI} {Rk' : RI} {cm' : Option Nat} (h : f_X2_find N AL ta ea wa AI AR Ik Rk cm s k = some (Ik', Rk', cm')) : NL Rk' ∧ ∀ i o, i < n → o < 24 → R 0 i = 7 → kn R k i → R 4 i = nI o → Rk' 1 o = 3 := by
  obtain ⟨Rb, c, h1, h2, h3, -, h5, -⟩ := find_run A hN Ik Rk cm s k
  obtain ⟨Rb', g1, g2, g3⟩ := begin_nl A hN Ik Rk cm k
  rw [h1] at g1
  obtain ⟨-, g1, -⟩ := some3 g1
  subst g1
  rw [h5] at h
  obtain ⟨-, h, -⟩ := some3 h
  subst h
  refine ⟨run_NL _ (fun x hx => ?_) g2, fun i o hi ho z3 z4 z5 => run_3 _ (g3 i o hi ho z3 z4 z5)⟩
  obtain ⟨i, -, hi, rfl⟩ := segA_m c 0 hx
  have ho := (A.odr i (by omega)).1
  intro h0
  rw [A.c0 _ ho] at h0
  obtain ⟨v, hv, e⟩ := Z _ ho h0
  exact ⟨v, hv, (A.c6 _ ho).trans e⟩
end with_acts
end PNj
