/-! ===== PURE: where a land begins ===== -/
section PG
/-- the first j rows of meant and adopted are laid anew -/
abbrev FJ (j : Nat) (Rk : RI) : Prop := (∀ i, i < j → Rk 0 i = nI i) ∧ (∀ i, i < j → Rk 8 i = 0)
theorem FJ.k0 {j : Nat} {Rk : RI} (h9 : FJ j Rk) : ∀ i, i < j → Rk 0 i = nI i := h9.1
theorem FJ.k8 {j : Nat} {Rk : RI} (h9 : FJ j Rk) : ∀ i, i < j → Rk 8 i = 0 := h9.2
abbrev FG (Rk : RI) : Prop := (∀ i, i < 24 → Rk 0 i = nI i) ∧ (∀ i, i < 24 → Rk 1 i = 0) ∧ (∀ i, i < 24 → Rk 2 i = -1) ∧ (∀ i, i < 24 → Rk 3 i = -1) ∧ (∀ i, i < 24 → Rk 4 i = -1) ∧ (∀ i, i < 24 → Rk 5 i = -1) ∧ (∀ i, i < 24 → Rk 6 i = -1) ∧ (∀ i, i < 24 → Rk 7 i = -1) ∧ (∀ i, i < 24 → Rk 8 i = 0)
theorem FG.k0 {Rk : RI} (h9 : FG Rk) : ∀ i, i < 24 → Rk 0 i = nI i := h9.1
theorem FG.k1 {Rk : RI} (h9 : FG Rk) : ∀ i, i < 24 → Rk 1 i = 0 := h9.2.1
theorem FG.k2 {Rk : RI} (h9 : FG Rk) : ∀ i, i < 24 → Rk 2 i = -1 := h9.2.2.1
theorem FG.k3 {Rk : RI} (h9 : FG Rk) : ∀ i, i < 24 → Rk 3 i = -1 := h9.2.2.2.1
theorem FG.k4 {Rk : RI} (h9 : FG Rk) : ∀ i, i < 24 → Rk 4 i = -1 := h9.2.2.2.2.1
theorem FG.k5 {Rk : RI} (h9 : FG Rk) : ∀ i, i < 24 → Rk 5 i = -1 := h9.2.2.2.2.2.1
theorem FG.k6 {Rk : RI} (h9 : FG Rk) : ∀ i, i < 24 → Rk 6 i = -1 := h9.2.2.2.2.2.2.1
theorem FG.k7 {Rk : RI} (h9 : FG Rk) : ∀ i, i < 24 → Rk 7 i = -1 := h9.2.2.2.2.2.2.2.1
theorem FG.k8 {Rk : RI} (h9 : FG Rk) : ∀ i, i < 24 → Rk 8 i = 0 := h9.2.2.2.2.2.2.2.2
theorem forget_l {N : Nat} {Ik : OI} {cm : Option Nat} : ∀ (c j : Nat) (Rk : RI) (f : Nat), j + c = 24 → FJ j Rk → c < f → ∃ Rk', f_X2_forget_l2 N Ik cm f Rk (nI j) = some Rk' ∧ FG Rk'
  | 0, j, Rk, f, hj, h, hf => by
    obtain ⟨f, rfl⟩ : ∃ z, f = z + 1 := ⟨f - 1, by omega⟩
    obtain rfl : j = 24 := by omega
    show ∃ Rk', f_X2_forget_l2b N Ik cm (f_X2_forget_l2 N Ik cm f) Rk (nI 24) = some Rk' ∧ FG Rk'
    unfold f_X2_forget_l2b
    rw [if_pos (by decide)]
    refine ⟨_, rfl, ?_⟩
    refine ⟨?_, ?_, ?_, ?_, ?_, ?_, ?_, ?_, ?_⟩
    · intro i hi; simpa [va_up] using h.k0 i hi
    · intro i hi; simp [va_up, fillv, hi]
    · intro i hi; simp [va_up, fillv, hi]
    · intro i hi; simp [va_up, fillv, hi]
    · intro i hi; simp [va_up, fillv, hi]
    · intro i hi; simp [va_up, fillv, hi]
    · intro i hi; simp [va_up, fillv, hi]
    · intro i hi; simp [va_up, fillv, hi]
    · intro i hi; simpa [va_up] using h.k8 i hi
  | c + 1, j, Rk, f, hj, h, hf => by
    obtain ⟨f, rfl⟩ : ∃ z, f = z + 1 := ⟨f - 1, by omega⟩
    have hj24 : j < 24 := by omega
    obtain ⟨Rk', h1, h2⟩ := forget_l (N := N) (Ik := Ik) (cm := cm) c (j + 1) (va_up (va_up Rk 0 (upd (Rk 0) j (nI j))) 8 (upd (va_up Rk 0 (upd (Rk 0) j (nI j)) 8) j 0)) f (by omega) ⟨fun i hi => by
        by_cases e : i = j
        · subst e; simp [va_up, upd]
        · simpa [va_up, upd, e] using h.k0 i (by omega), fun i hi => by
        by_cases e : i = j
        · subst e; simp [va_up, upd]
        · simpa [va_up, upd, e] using h.k8 i (by omega)⟩ (by omega)
    refine ⟨Rk', ?_, h2⟩
    rw [← h1]
    show f_X2_forget_l2b N Ik cm (f_X2_forget_l2 N Ik cm f) Rk (nI j) = _
    unfold f_X2_forget_l2b
    rw [if_neg (by rw [show (24 : Int32) = nI 24 from rfl, n_le (by omega) (by omega)]; omega)]
    simp only [og_nI hj24 (show 24 < 2147483648 by omega), nI_tn (bd4 hj24), ol_eq, nI_s9, nar_0]
/-- while doubles are followed to their ends -/
abbrev DB (j : Nat) (R : RI) (Rk0 Rk : RI) : Prop := (∀ p, p < j → p < 24 → Rk 0 p = nI (root (R 11) p)) ∧ (∀ p, p < j → p < 24 → Rk 1 p = if R 11 p = -1 then 0 else 3) ∧ (∀ p, j ≤ p → p < 24 → Rk 0 p = if R 11 p = -1 then nI p else R 11 p) ∧ (∀ p, j ≤ p → p < 24 → Rk 1 p = 0) ∧ (∀ c, c ≠ 0 → c ≠ 1 → Rk c = Rk0 c)
theorem DB.lo0 {j : Nat} {R : RI} {Rk0 Rk : RI} (h9 : DB j R Rk0 Rk) : ∀ p, p < j → p < 24 → Rk 0 p = nI (root (R 11) p) := h9.1
theorem DB.lo1 {j : Nat} {R : RI} {Rk0 Rk : RI} (h9 : DB j R Rk0 Rk) : ∀ p, p < j → p < 24 → Rk 1 p = if R 11 p = -1 then 0 else 3 := h9.2.1
theorem DB.hi0 {j : Nat} {R : RI} {Rk0 Rk : RI} (h9 : DB j R Rk0 Rk) : ∀ p, j ≤ p → p < 24 → Rk 0 p = if R 11 p = -1 then nI p else R 11 p := h9.2.2.1
theorem DB.hi1 {j : Nat} {R : RI} {Rk0 Rk : RI} (h9 : DB j R Rk0 Rk) : ∀ p, j ≤ p → p < 24 → Rk 1 p = 0 := h9.2.2.2.1
theorem DB.sm {j : Nat} {R : RI} {Rk0 Rk : RI} (h9 : DB j R Rk0 Rk) : ∀ c, c ≠ 0 → c ≠ 1 → Rk c = Rk0 c := h9.2.2.2.2
theorem doubles_l {N : Nat} {AL : List Nat} {Ik : OI} {cm : Option Nat} {ta : Int32} {ea : Option Nat} {wa : OO} {AI : Nat → OI} {AR : Nat → OO} {R Rk0 : RI} (hld : LdOK (R 11)) : ∀ (c j : Nat) (Rk : RI) (f : Nat), j + c = 24 → DB j R Rk0 Rk → c < f → ∃ Rk', f_X2_joinDoubles_l63 N AL Ik cm ta ea wa AI AR f Rk (nI j) = some Rk' ∧ DB 24 R Rk0 Rk'
  | 0, j, Rk, f, hj, h, hf => by
    obtain ⟨f, rfl⟩ : ∃ z, f = z + 1 := ⟨f - 1, by omega⟩
    obtain rfl : j = 24 := by omega
    refine ⟨Rk, ?_, h⟩
    show f_X2_joinDoubles_l63b N AL Ik cm ta ea wa AI AR (f_X2_joinDoubles_l63 N AL Ik cm ta ea wa AI AR f) Rk (nI 24) = _
    unfold f_X2_joinDoubles_l63b
    rw [if_pos (by decide)]
  | c + 1, j, Rk, f, hj, h, hf => by
    obtain ⟨f, rfl⟩ : ∃ z, f = z + 1 := ⟨f - 1, by omega⟩
    have hj24 : j < 24 := by omega
    have e1 : f_X2_joinDoubles_l63 N AL Ik cm ta ea wa AI AR (f + 1) Rk (nI j) = f_X2_joinDoubles_l63 N AL Ik cm ta ea wa AI AR f (if Rk 0 j = nI j then Rk else va_up (va_up Rk 0 (upd (Rk 0) j (atv 24 (Rk 0) (Rk 0 j)))) 1 (upd (Rk 1) j 3)) (nI (j + 1)) := by
      show f_X2_joinDoubles_l63b N AL Ik cm ta ea wa AI AR (f_X2_joinDoubles_l63 N AL Ik cm ta ea wa AI AR f) Rk (nI j) = _
      unfold f_X2_joinDoubles_l63b
      rw [if_neg (by rw [show (24 : Int32) = nI 24 from rfl, n_le (by omega) (by omega)]; omega)]
      simp only [og_nI hj24 (show 24 < 2147483648 by omega), nI_tn (bd4 hj24), ol_eq, nI_s9]
      by_cases e : Rk 0 j = nI j
      · rw [if_pos e, if_pos e]
      · rw [if_neg e, if_neg e, show va_up Rk 0 (upd (Rk 0) j (atv 24 (Rk 0) (Rk 0 j))) 1 = Rk 1 from up_ne (by omega)]
    have hj0 := h.hi0 j (Nat.le_refl _) hj24
    rw [e1]
    rcases hld j hj24 with h1 | ⟨i, hi, h1⟩
    · rw [h1, if_pos rfl] at hj0
      rw [if_pos hj0]
      refine doubles_l hld c (j + 1) Rk f (by omega) ⟨fun p hp h24 => ?_, fun p hp h24 => ?_, fun p hp h24 => h.hi0 p (by omega) h24, fun p hp h24 => h.hi1 p (by omega) h24, h.sm⟩ (by omega)
      · by_cases e : p = j
        · subst e; rw [hj0, root_self h1]
        · exact h.lo0 p (by omega) h24
      · by_cases e : p = j
        · subst e; rw [if_pos h1]; exact h.hi1 p (Nat.le_refl _) h24
        · exact h.lo1 p (by omega) h24
    · rw [h1, if_neg (nI_m1 (by omega))] at hj0
      rw [hj0, if_neg (fun e => by have := (n_eq (by omega) (by omega)).mp e; omega), atv_nI (by omega) (by omega), h.lo0 i hi (by omega)]
      have hn1 : ¬ R 11 j = -1 := by rw [h1]; exact nI_m1 (by omega)
      refine doubles_l hld c (j + 1) _ f (by omega) ⟨fun p hp h24 => ?_, fun p hp h24 => ?_, fun p hp h24 => ?_, fun p hp h24 => ?_, fun c h8 h9 => ?_⟩ (by omega)
      · by_cases e : p = j
        · subst e; rw [up_ne (by omega), up_same, upd_same, root_step hld h24 hi h1]
        · rw [up_ne (by omega), up_same, upd_ne e]; exact h.lo0 p (by omega) h24
      · by_cases e : p = j
        · subst e; rw [up_same, upd_same, if_neg hn1]
        · rw [up_same, upd_ne e]; exact h.lo1 p (by omega) h24
      · rw [up_ne (by omega), up_same, upd_ne (by omega)]; exact h.hi0 p (by omega) h24
      · rw [up_same, upd_ne (by omega)]; exact h.hi1 p (by omega) h24
      · rw [up_ne h9, up_ne h8]; exact h.sm c h8 h9
/-- both lands before the first day -/
theorem begin_both {n m P N : Nat} {od ad : Nat → Nat} {I Ik : OI} {R Rk : RI} {AL : List Nat} {AI : Nat → OI} {AR : Nat → OO} {ta : Int32} {ea cm : Option Nat} {wa : OO} {x1 x2 : Int32} (A : AC n m P od ad I R AL AI AR ta ea wa) (hN : 200 ≤ N) :
    ∃ R' Rk', f_X6_goThrough N I R x1 x2 = f_X6_goThrough_l132 N I N R' x1 x2 0 ∧ f_X2_begin N AL ta ea wa AI AR Ik Rk cm x2 = some (va_up (va_up Ik 1 x2) 0 0, Rk', ea) ∧ LR R' Rk' ∧ WF R' ∧ SameQ R R' ∧ (∀ p, P ≤ p → p < 24 → R' 11 p = -1 ∧ R' 12 p = 0) := by
  have hn := A.n150
  obtain ⟨R1, h1, h2⟩ := reset_m (N := N) (J := I) (x1 := x1) (x2 := x2) (R0 := R) 24 0 R N rfl ⟨SameQ.rf, fun i hi => absurd hi (Nat.not_lt_zero i), fun i hi => absurd hi (Nat.not_lt_zero i), fun i hi => absurd hi (Nat.not_lt_zero i), fun i hi => absurd hi (Nat.not_lt_zero i), fun i hi => absurd hi (Nat.not_lt_zero i), fun i hi => absurd hi (Nat.not_lt_zero i), fun i hi => absurd hi (Nat.not_lt_zero i), fun i hi => absurd hi (Nat.not_lt_zero i), fun i hi => absurd hi (Nat.not_lt_zero i)⟩ (by omega)
  obtain ⟨Rk1, h3, h4⟩ := forget_l (N := N) (Ik := va_up (va_up Ik 1 x2) 0 0) (cm := ea) 24 0 Rk N rfl ⟨fun i hi => absurd hi (Nat.not_lt_zero i), fun i hi => absurd hi (Nat.not_lt_zero i)⟩ (by omega)
  obtain ⟨R2, Rk2, h5, h6, h7, h8, h9⟩ := joins_both N (Ik := va_up (va_up Ik 1 x2) 0 0) (cm := ea) (x1 := x1) (x2 := x2) (by rw [up_ne (by omega), up_same]) n 0 R1 Rk1 N N (A.sq h2.sq) (by omega) ⟨fun j hj => Or.inl (h2.r11 j hj), fun p _ hp => h2.r11 p hp, fun p hp => by rw [h2.r11 p hp, if_pos rfl]; exact h4.k0 p hp⟩ (by omega) (by omega)
  obtain ⟨Rk3, h10, h11⟩ := doubles_l (N := N) (AL := AL) (Ik := va_up (va_up Ik 1 x2) 0 0) (cm := ea) (ta := ta) (ea := ea) (wa := wa) (AI := AI) (AR := AR) (R := R2) (Rk0 := Rk2) h7.ld 24 0 Rk2 N rfl ⟨fun i hi => absurd hi (Nat.not_lt_zero i), fun i hi => absurd hi (Nat.not_lt_zero i), fun p _ hp => h7.mt p hp, fun p _ hp => by rw [h9 1 (by omega)]; exact h4.k1 p hp, fun _ _ _ => rfl⟩ (by omega)
  refine ⟨R2, Rk3, ?_, ?_, ?_, ?_, ?_, ?_⟩
  · unfold f_X6_goThrough
    exact (h1.trans h5)
  · show ob1 (f_X2_forget_l2 N (va_up (va_up Ik 1 x2) 0 0) ea N Rk (nI 0)) (fun R3 => ob1 (f_X2_joinDoubles_l2 N AL (va_up (va_up Ik 1 x2) 0 0) ea ta ea wa AI AR N R3 (nI 0)) (fun R4 => some (va_up (va_up Ik 1 x2) 0 0, R4, ea))) = _
    rw [h3, ob1_some, h6]
    show ob1 (f_X2_joinDoubles_l63 N AL (va_up (va_up Ik 1 x2) 0 0) ea ta ea wa AI AR N Rk2 (nI 0)) (fun R4 => some (va_up (va_up Ik 1 x2) 0 0, R4, ea)) = _
    rw [h10, ob1_some]
  · refine ⟨?_, ?_, ?_, ?_, ?_, ?_, ?_, ?_, ?_⟩
    · intro j hj; exact h11.lo0 j hj hj
    · intro j hj; rw [h11.lo1 j hj hj, h8 12 (by omega), h2.r12 j hj]
    · intro j hj; rw [h11.sm 2 (by omega) (by omega), h9 2 (by omega), h4.k2 j hj, h8 13 (by omega), h2.r13 j hj]
    · intro j hj; rw [h11.sm 3 (by omega) (by omega), h9 3 (by omega), h4.k3 j hj, h8 14 (by omega), h2.r14 j hj]
    · intro j hj; rw [h11.sm 4 (by omega) (by omega), h9 4 (by omega), h4.k4 j hj, h8 15 (by omega), h2.r15 j hj]
    · intro j hj; rw [h11.sm 5 (by omega) (by omega), h9 5 (by omega), h4.k5 j hj, h8 16 (by omega), h2.r16 j hj]
    · intro j hj; rw [h11.sm 6 (by omega) (by omega), h9 6 (by omega), h4.k6 j hj, h8 18 (by omega), h2.r18 j hj]
    · intro j hj; rw [h11.sm 7 (by omega) (by omega), h9 7 (by omega), h4.k7 j hj, h8 17 (by omega), h2.r17 j hj]
    · intro j hj; rw [h11.sm 8 (by omega) (by omega), h9 8 (by omega), h4.k8 j hj, h8 19 (by omega), h2.r19 j hj]
  · exact ⟨h7.ld, fun j hj => Or.inl (by rw [h8 12 (by omega), h2.r12 j hj]), fun j hj => Or.inl (by rw [h8 15 (by omega), h2.r15 j hj]), fun j hj => Or.inl (by rw [h8 16 (by omega), h2.r16 j hj])⟩
  · intro c hc
    rw [h8 c (by omega), h2.sq c hc]
  · intro p hp h24
    exact ⟨h7.np p hp h24, by rw [h8 12 (by omega), h2.r12 p h24]⟩
end PG
