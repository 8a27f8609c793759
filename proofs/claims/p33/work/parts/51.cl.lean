/-! ===== PURE: what always holds of a land ===== -/
section PCl
/-- a land on day s: homes and births of whom, partners are each other's -/
abbrev CL (s : Int32) (R : RI) : Prop := (∀ j, j < 24 → R 1 j = 1 → ∃ h, h < 16 ∧ R 2 j = nI h) ∧ (∀ j, j < 24 → R 1 j ≠ 1 → R 2 j = -1) ∧ (∀ j, j < 24 → R 1 j = 1 ∨ R 1 j = 2 → ∃ b, b ≤ 30000 ∧ R 7 j = nI b ∧ R 7 j ≤ s) ∧ (∀ j i, j < 24 → i < 24 → R 4 j = nI i → R 4 i = nI j) ∧ (∀ j, j < 24 → ¬ (R 1 j = 1 ∨ R 1 j = 2) → R 6 j = -1 ∧ R 8 j = 0) ∧ (∀ j, j < 24 → R 8 j ≠ 0 → R 5 j ≠ -1)
theorem CL.hl {s : Int32} {R : RI} (h : CL s R) : ∀ j, j < 24 → R 1 j = 1 → ∃ h, h < 16 ∧ R 2 j = nI h := h.1
theorem CL.hn {s : Int32} {R : RI} (h : CL s R) : ∀ j, j < 24 → R 1 j ≠ 1 → R 2 j = -1 := h.2.1
theorem CL.bn {s : Int32} {R : RI} (h : CL s R) : ∀ j, j < 24 → R 1 j = 1 ∨ R 1 j = 2 → ∃ b, b ≤ 30000 ∧ R 7 j = nI b ∧ R 7 j ≤ s := h.2.2.1
theorem CL.sy {s : Int32} {R : RI} (h : CL s R) : ∀ j i, j < 24 → i < 24 → R 4 j = nI i → R 4 i = nI j := h.2.2.2.1
theorem CL.un {s : Int32} {R : RI} (h : CL s R) : ∀ j, j < 24 → ¬ (R 1 j = 1 ∨ R 1 j = 2) → R 6 j = -1 ∧ R 8 j = 0 := h.2.2.2.2.1
theorem CL.ad {s : Int32} {R : RI} (h : CL s R) : ∀ j, j < 24 → R 8 j ≠ 0 → R 5 j ≠ -1 := h.2.2.2.2.2
theorem CL.later {s s' : Int32} {R : RI} (h : CL s R) (hs : s ≤ s') : CL s' R := ⟨h.hl, h.hn, fun j hj hb => by obtain ⟨b, h1, h2, h3⟩ := h.bn j hj hb; exact ⟨b, h1, h2, Int32.le_trans h3 hs⟩, h.sy, h.un, h.ad⟩
theorem CL.of {s : Int32} {Ra Rb : RI} (h : CL s Ra) (e : LEq Ra Rb) : CL s Rb := by
  have e1 : ∀ j, j < 24 → Rb 1 j = Ra 1 j := fun j hj => (e 1 (by omega) j hj).symm
  have e2 : ∀ j, j < 24 → Rb 2 j = Ra 2 j := fun j hj => (e 2 (by omega) j hj).symm
  have e4 : ∀ j, j < 24 → Rb 4 j = Ra 4 j := fun j hj => (e 4 (by omega) j hj).symm
  have e5 : ∀ j, j < 24 → Rb 5 j = Ra 5 j := fun j hj => (e 5 (by omega) j hj).symm
  have e6 : ∀ j, j < 24 → Rb 6 j = Ra 6 j := fun j hj => (e 6 (by omega) j hj).symm
  have e7 : ∀ j, j < 24 → Rb 7 j = Ra 7 j := fun j hj => (e 7 (by omega) j hj).symm
  have e8 : ∀ j, j < 24 → Rb 8 j = Ra 8 j := fun j hj => (e 8 (by omega) j hj).symm
  refine ⟨fun j hj h1 => ?_, fun j hj h1 => ?_, fun j hj h1 => ?_, fun j i hj hi h1 => ?_, fun j hj h1 => ?_, fun j hj h1 => ?_⟩
  · rw [e2 j hj]; exact h.hl j hj (by rw [← e1 j hj]; exact h1)
  · rw [e2 j hj]; exact h.hn j hj (by rw [← e1 j hj]; exact h1)
  · rw [e7 j hj]; exact h.bn j hj (by rw [← e1 j hj]; exact h1)
  · rw [e4 i hi]; exact h.sy j i hj hi (by rw [← e4 j hj]; exact h1)
  · rw [e6 j hj, e8 j hj]; exact h.un j hj (by rw [← e1 j hj]; exact h1)
  · rw [e5 j hj]; exact h.ad j hj (by rw [← e8 j hj]; exact h1)
/-- what an act brings along -/
abbrev AcF (s : Int32) (a : OI) : Prop := (a 0 = 0 → ∃ b, b ≤ 30000 ∧ a 2 = nI b ∧ a 2 ≤ s) ∧ (a 0 = 0 ∨ a 0 = 1 → ∃ h, h < 16 ∧ a 5 = nI h)
theorem at_of {g : Nat → Int32} {i x : Int32} (h : atv 24 g i = x) (hx : x ≠ -1) : ∃ j, j < 24 ∧ i = nI j ∧ g j = x := by
  unfold atv at h
  split at h
  · exact absurd h.symm hx
  · rename_i h1
    obtain ⟨j, hj, rfl⟩ := n_of (fun e => h1 (Or.inl e)) (Int32.not_le.mp (fun e => h1 (Or.inr e))) (by omega)
    rw [nI_tn (by omega)] at h
    exact ⟨j, hj, rfl, h⟩
theorem nI_nq {a b : Nat} (ha : a < 24) (hb : b < 24) (h : a ≠ b) : nI a ≠ nI b := fun e => h ((n_eq (by omega) (by omega)).mp e)
theorem upd_at {g : Nat → Int32} {a j : Nat} {x : Int32} : upd g a x j = if j = a then x else g j := rfl
theorem sy_bond {g : Nat → Int32} (h : ∀ j i, j < 24 → i < 24 → g j = nI i → g i = nI j) {a b : Nat} (ha : a < 24) (hb : b < 24) (hab : a ≠ b) (h1 : g a = -1) (h2 : g b = -1) : ∀ j i, j < 24 → i < 24 → upd (upd g a (nI b)) b (nI a) j = nI i → upd (upd g a (nI b)) b (nI a) i = nI j := by
  intro j i hj hi
  simp only [upd_at]
  by_cases e1 : j = b
  · rw [if_pos e1]
    intro e
    have : i = a := ((n_eq (by omega) (by omega)).mp e).symm
    subst this
    rw [if_neg hab, if_pos rfl, e1]
  · rw [if_neg e1]
    by_cases e2 : j = a
    · rw [if_pos e2]
      intro e
      have : i = b := ((n_eq (by omega) (by omega)).mp e).symm
      subst this
      rw [if_pos rfl, e2]
    · rw [if_neg e2]
      intro e
      have e3 := h j i hj hi e
      have e4 : i ≠ a := fun z => by rw [z, h1] at e3; exact nI_m1 (by omega) e3.symm
      have e5 : i ≠ b := fun z => by rw [z, h2] at e3; exact nI_m1 (by omega) e3.symm
      rw [if_neg e5, if_neg e4]
      exact e3
theorem sy_part {g : Nat → Int32} (h : ∀ j i, j < 24 → i < 24 → g j = nI i → g i = nI j) {a b : Nat} (ha : a < 24) (hb : b < 24) (h1 : g a = nI b) : ∀ j i, j < 24 → i < 24 → upd (upd g a (-1)) b (-1) j = nI i → upd (upd g a (-1)) b (-1) i = nI j := by
  intro j i hj hi
  simp only [upd_at]
  by_cases e1 : j = b
  · rw [if_pos e1]
    intro e
    exact absurd e.symm (nI_m1 (by omega))
  · rw [if_neg e1]
    by_cases e2 : j = a
    · rw [if_pos e2]
      intro e
      exact absurd e.symm (nI_m1 (by omega))
    · rw [if_neg e2]
      intro e
      have e3 := h j i hj hi e
      have e4 : i ≠ a := fun z => by rw [z, h1] at e3; exact nI_nq hb hj (fun w => e1 w.symm) e3
      have e5 : i ≠ b := fun z => by rw [z, h a b ha hb h1] at e3; exact nI_nq ha hj (fun w => e2 w.symm) e3
      rw [if_neg e5, if_neg e4]
      exact e3
theorem sy_die {g : Nat → Int32} (h : ∀ j i, j < 24 → i < 24 → g j = nI i → g i = nI j) {a : Nat} (ha : a < 24) : ∀ j i, j < 24 → i < 24 → upd (putv 24 g (g a) (-1)) a (-1) j = nI i → upd (putv 24 g (g a) (-1)) a (-1) i = nI j := by
  by_cases hz : ∃ b, b < 24 ∧ g a = nI b
  · obtain ⟨b, hb, hz⟩ := hz
    rw [hz, putv_nI hb (by omega), show upd (upd g b (-1)) a (-1) = upd (upd g a (-1)) b (-1) from updc]
    exact sy_part h ha hb hz
  · have e : putv 24 g (g a) (-1) = g := by
      unfold putv
      rw [if_pos]
      by_cases h1 : g a < 0
      · exact Or.inl h1
      · refine Or.inr (Int32.not_lt.mp fun h2 => hz ?_)
        obtain ⟨j, hj, e⟩ := n_of h1 h2 (by omega)
        exact ⟨j, hj, e⟩
    rw [e]
    intro j i hj hi
    simp only [upd_at]
    by_cases e2 : j = a
    · rw [if_pos e2]
      intro e
      exact absurd e.symm (nI_m1 (by omega))
    · rw [if_neg e2]
      intro e
      have e3 := h j i hj hi e
      have e4 : i ≠ a := fun w => hz ⟨j, hj, by rw [← w]; exact e3⟩
      rw [if_neg e4]
      exact e3
section one
variable {s : Int32} {R : RI} {a : OI}
theorem CL.born (h : CL s R) (ha : AcF s a) (h0 : a 0 = 0) {j0 : Nat} (hj0 : j0 < 24) (hz : R 1 j0 = 0) (y : Int32) : CL s (bornv R (nI j0) y a) := by
  obtain ⟨b, hb, hb2, hb3⟩ := ha.1 h0
  obtain ⟨d, hd, hd2⟩ := ha.2 (Or.inl h0)
  have h16 : (24 : Nat) < 2147483648 := by omega
  have r : bornv R (nI j0) y a = va_up (va_up (va_up (va_up (va_up (va_up R 1 (upd (R 1) j0 1)) 2 (upd (R 2) j0 (a 5))) 3 (upd (R 3) j0 (a 6))) 5 (upd (R 5) j0 y)) 6 (upd (R 6) j0 y)) 7 (upd (R 7) j0 (a 2)) := by
    unfold bornv
    simp only [putv_nI hj0 h16]
  have q1 : ∀ j, bornv R (nI j0) y a 1 j = if j = j0 then 1 else R 1 j := fun j => by rw [r]; rfl
  have q2 : ∀ j, bornv R (nI j0) y a 2 j = if j = j0 then a 5 else R 2 j := fun j => by rw [r]; rfl
  have q4 : ∀ j, bornv R (nI j0) y a 4 j = R 4 j := fun j => by rw [r]; rfl
  have q5 : ∀ j, bornv R (nI j0) y a 5 j = if j = j0 then y else R 5 j := fun j => by rw [r]; rfl
  have q6 : ∀ j, bornv R (nI j0) y a 6 j = if j = j0 then y else R 6 j := fun j => by rw [r]; rfl
  have q7 : ∀ j, bornv R (nI j0) y a 7 j = if j = j0 then a 2 else R 7 j := fun j => by rw [r]; rfl
  have q8 : ∀ j, bornv R (nI j0) y a 8 j = R 8 j := fun j => by rw [r]; rfl
  refine ⟨fun j hj h1 => ?_, fun j hj h1 => ?_, fun j hj h1 => ?_, fun j i hj hi h1 => ?_, fun j hj h1 => ?_, fun j hj h1 => ?_⟩
  · rw [q2]; rw [q1] at h1
    by_cases e : j = j0
    · rw [if_pos e]; exact ⟨d, hd, hd2⟩
    · rw [if_neg e] at h1 ⊢; exact h.hl j hj h1
  · rw [q2]; rw [q1] at h1
    by_cases e : j = j0
    · rw [if_pos e] at h1; exact absurd rfl h1
    · rw [if_neg e] at h1 ⊢; exact h.hn j hj h1
  · rw [q7]; rw [q1] at h1
    by_cases e : j = j0
    · rw [if_pos e]; exact ⟨b, hb, hb2, hb3⟩
    · rw [if_neg e] at h1 ⊢; exact h.bn j hj h1
  · rw [q4] at h1 ⊢; exact h.sy j i hj hi h1
  · rw [q6, q8]; rw [q1] at h1
    by_cases e : j = j0
    · rw [if_pos e] at h1; exact absurd (Or.inl rfl) h1
    · rw [if_neg e] at h1 ⊢; exact h.un j hj h1
  · rw [q5]; rw [q8] at h1
    by_cases e : j = j0
    · subst e
      exact absurd (h.un j hj (fun z => by rw [hz] at z; rcases z with z | z <;> exact absurd z (by decide))).2 h1
    · rw [if_neg e]; exact h.ad j hj h1
theorem CL.r4 (h : CL s R) {g : Nat → Int32} (hg : ∀ j i, j < 24 → i < 24 → g j = nI i → g i = nI j) : CL s (va_up R 4 g) := by
  refine ⟨fun j hj h1 => ?_, fun j hj h1 => ?_, fun j hj h1 => ?_, fun j i hj hi h1 => ?_, fun j hj h1 => ?_, fun j hj h1 => ?_⟩
  · exact h.hl j hj h1
  · exact h.hn j hj h1
  · exact h.bn j hj h1
  · exact hg j i hj hi h1
  · exact h.un j hj h1
  · exact h.ad j hj h1
theorem CL.r3 (h : CL s R) {g : Nat → Int32} : CL s (va_up R 3 g) := ⟨h.hl, h.hn, h.bn, h.sy, h.un, h.ad⟩
theorem CL.dies (h : CL s R) {j0 : Nat} (hj0 : j0 < 24) (hl : R 1 j0 = 1) : CL s (va_up (va_up R 2 (upd (R 2) j0 (-1))) 1 (upd (R 1) j0 2)) := by
  have q1 : ∀ j, va_up (va_up R 2 (upd (R 2) j0 (-1))) 1 (upd (R 1) j0 2) 1 j = if j = j0 then 2 else R 1 j := fun j => rfl
  have q2 : ∀ j, va_up (va_up R 2 (upd (R 2) j0 (-1))) 1 (upd (R 1) j0 2) 2 j = if j = j0 then -1 else R 2 j := fun j => rfl
  refine ⟨fun j hj h1 => ?_, fun j hj h1 => ?_, fun j hj h1 => ?_, fun j i hj hi h1 => ?_, fun j hj h1 => ?_, fun j hj h1 => ?_⟩
  · rw [q2]; rw [q1] at h1
    by_cases e : j = j0
    · rw [if_pos e] at h1; exact absurd h1 (by decide)
    · rw [if_neg e] at h1 ⊢; exact h.hl j hj h1
  · rw [q2]; rw [q1] at h1
    by_cases e : j = j0
    · rw [if_pos e]
    · rw [if_neg e] at h1 ⊢; exact h.hn j hj h1
  · rw [q1] at h1
    by_cases e : j = j0
    · exact h.bn j hj (Or.inl (by rw [e]; exact hl))
    · rw [if_neg e] at h1; exact h.bn j hj h1
  · exact h.sy j i hj hi h1
  · rw [q1] at h1
    by_cases e : j = j0
    · rw [if_pos e] at h1; exact absurd (Or.inr rfl) h1
    · rw [if_neg e] at h1; exact h.un j hj h1
  · exact h.ad j hj h1
theorem CL.hap (h : CL s R) (ha : AcF s a) (p q : Int32) : CL s (hapw a p q R) := by
  have h24 : (24 : Nat) < 2147483648 := by omega
  have n1 : (1 : Int32) ≠ -1 := by decide
  unfold hapw
  split
  · rename_i h0
    split
    · rename_i h1
      obtain ⟨j0, hj0, rfl, h2⟩ := at_of h1 (by decide)
      exact h.born ha h0 hj0 h2 _
    · exact h
  split
  · rename_i h0
    split
    · rename_i h1
      obtain ⟨j0, hj0, rfl, h2⟩ := at_of h1 n1
      obtain ⟨d, hd, hd2⟩ := ha.2 (Or.inr h0)
      rw [putv_nI hj0 h24]
      refine ⟨fun j hj h1 => ?_, fun j hj h1 => ?_, h.bn, h.sy, h.un, h.ad⟩
      · show ∃ h, h < 16 ∧ upd (R 2) j0 (a 5) j = nI h
        rw [upd_at]
        by_cases e : j = j0
        · rw [if_pos e]; exact ⟨d, hd, hd2⟩
        · rw [if_neg e]; exact h.hl j hj h1
      · show upd (R 2) j0 (a 5) j = -1
        rw [upd_at]
        by_cases e : j = j0
        · exact absurd (by rw [e]; exact h2) h1
        · rw [if_neg e]; exact h.hn j hj h1
    · exact h
  split
  · split
    · exact h.r3
    · exact h
  split
  · split
    · rename_i h1
      obtain ⟨⟨h1, h2, h3⟩, h4, h5⟩ := h1
      obtain ⟨j0, hj0, rfl, -⟩ := at_of h2 n1
      obtain ⟨i0, hi0, rfl, -⟩ := at_of h3 n1
      rw [atv_nI hj0 h24] at h4
      rw [atv_nI hi0 h24] at h5
      rw [putv_nI hj0 h24, putv_nI hi0 h24]
      exact h.r4 (sy_bond h.sy hj0 hi0 (fun e => h1 (by rw [e])) h4 h5)
    · exact h
  split
  · split
    · rename_i h1
      obtain ⟨⟨h1, h2, h3⟩, h4⟩ := h1
      obtain ⟨j0, hj0, rfl, -⟩ := at_of h2 n1
      obtain ⟨i0, hi0, rfl, -⟩ := at_of h3 n1
      rw [atv_nI hj0 h24] at h4
      rw [putv_nI hj0 h24, putv_nI hi0 h24]
      exact h.r4 (sy_part h.sy hj0 hi0 h4)
    · exact h
  split
  · split
    · rename_i h1
      obtain ⟨j0, hj0, rfl, h2⟩ := at_of h1 n1
      rw [putv_nI hj0 h24, putv_nI hj0 h24, putv_nI hj0 h24, atv_nI hj0 h24]
      exact (h.r4 (sy_die h.sy hj0)).dies hj0 h2
    · exact h
  split
  · split
    · rename_i h1
      obtain ⟨h1, h2, h3⟩ := h1
      obtain ⟨j0, hj0, rfl, h4⟩ := at_of h2 n1
      obtain ⟨i0, hi0, rfl, -⟩ := at_of h3 n1
      rw [putv_nI hj0 h24, setv_nI hj0 h24]
      refine ⟨h.hl, h.hn, h.bn, h.sy, fun j hj h1 => ?_, fun j hj h1 => ?_⟩
      · show R 6 j = -1 ∧ upd (R 8) j0 (vp_nar .boolean 1) j = 0
        rw [upd_at]
        by_cases e : j = j0
        · exact absurd (Or.inl (by rw [e]; exact h4)) h1
        · rw [if_neg e]; exact h.un j hj h1
      · show upd (R 5) j0 (nI i0) j ≠ -1
        rw [upd_at]
        by_cases e : j = j0
        · rw [if_pos e]; exact nI_m1 (by omega)
        · rw [if_neg e]
          refine h.ad j hj ?_
          have : upd (R 8) j0 (vp_nar .boolean 1) j ≠ 0 := h1
          rw [upd_at, if_neg e] at this
          exact this
    · exact h
  exact h
end one
end PCl
