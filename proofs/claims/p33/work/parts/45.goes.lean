/-! ===== PURE: the days are gone through ===== -/
section PO
variable {n m P : Nat} {od ad : Nat → Nat} {I : OI} {R : RI} {AL : List Nat} {AI : Nat → OI} {AR : Nat → OO} {ta : Int32} {ea : Option Nat} {wa : OO}
def nth (m : Nat) (od ad : Nat → Nat) (j : Nat) : Option Nat := if j < m then some (ad (od j)) else none
theorem act_ok (A : AC n m P od ad I R AL AI AR ta ea wa) {Rk : RI} {j : Nat} (hj : j < m) :
    ∃ w q, w < P ∧ R 3 (od j) = nI w ∧ ((R 4 (od j) = -1 ∧ q = -1) ∨ ∃ o, o < 24 ∧ R 4 (od j) = nI o ∧ q = nI (root (R 11) o)) ∧ ActOK AL AI R Rk (ad (od j)) (od j) w (root (R 11) w) q := by
  obtain ⟨ho, -, k, hk7, hk⟩ := A.odr j hj
  have hn := A.n150
  have hP := A.P24
  have h8 : R 0 (od j) ≠ 8 := by rw [hk]; exact fun e => by have := (n_eq (b := 8) (by omega) (by omega)).mp e; omega
  obtain ⟨w, hw, h3⟩ := A.who _ ho h8
  have h4 := A.c4 _ ho h8
  rcases A.oth _ ho h8 with e | ⟨o, ho4, e⟩
  · exact ⟨w, -1, hw, h3, Or.inl ⟨e, rfl⟩, ⟨A.al _ ho, by omega, by omega, rfl, (A.c3 _ ho).trans h3, Or.inl ⟨h4.trans e, rfl⟩, A.c2 _ ho, A.c5 _ ho, A.c6 _ ho⟩⟩
  · exact ⟨w, _, hw, h3, Or.inr ⟨o, by omega, e, rfl⟩, ⟨A.al _ ho, by omega, by omega, rfl, (A.c3 _ ho).trans h3, Or.inr ⟨o, by omega, h4.trans e, rfl⟩, A.c2 _ ho, A.c5 _ ho, A.c6 _ ho⟩⟩
theorem SameR.q {R' : RI} (h : SameR R R') : SameQ R R' := fun c hc => h c (by omega)
/-- one act, in both -/
theorem both_at (A : AC n m P od ad I R AL AI AR ta ea wa) {N : Nat} {Ik : OI} {cm : Option Nat} {Rk : RI} (hN : 24 ≤ N) (hW : WF R) (hL : LR R Rk) (hO : ∀ z, P ≤ z → z < 24 → R 11 z = -1 ∧ R 12 z = 0) {j : Nat} (hj : j < m) :
    ∃ R' Rk' p q, f_X6_leadsTo N I R (R 3 (od j)) = some p ∧ f_X6_leadsTo N I R (R 4 (od j)) = some q ∧ f_X6_count I R (nI (od j)) p q = some R' ∧ f_X2_happen AL Ik cm AI AR Rk (ad (od j)) = some Rk' ∧ LR R' Rk' ∧ WF R' ∧ SameR R R' ∧ (∀ z, P ≤ z → z < 24 → R' 11 z = -1 ∧ R' 12 z = 0) := by
  have hP := A.P24
  obtain ⟨ho, -, k, hk7, hk⟩ := A.odr j hj
  obtain ⟨w, q, hw, h3, h4, hA⟩ := act_ok (Rk := Rk) A hj
  have h8 : R 0 (od j) ≠ 8 := by rw [hk]; exact fun e => by have := (n_eq (b := 8) (by omega) (by omega)).mp e; omega
  obtain ⟨R', Rk', e1, e2, e3, e4, e5⟩ := step (I := Ik) (Im := I) (cm := cm) (AR := AR) hA hW hL (A.c0 _ ho) hk hk7 (fun h => by
    rw [A.c4 _ ho h8]
    refine A.ot3 _ ho ?_
    rcases h with rfl | rfl | rfl
    · exact Or.inl hk
    · exact Or.inr (Or.inl hk)
    · exact Or.inr (Or.inr hk))
  have hO' : ∀ z, P ≤ z → z < 24 → R' 11 z = -1 ∧ R' 12 z = 0 := fun z h1 h2 => by
    have e11 : R' 11 = R 11 := e5 11 (by omega)
    have hw24 : w < 24 := by omega
    have hr := rootN_le hW.ld w w hw24
    have h9 : z ≠ root (R 11) w := by unfold root; omega
    have h7 := happen_out hA hL (root_lt hW.ld hw24) e2 h9
    have h6 := e3.st z h2
    rw [e11, if_pos (hO z h1 h2).1, h7, hL.st z h2, if_pos (hO z h1 h2).1, (hO z h1 h2).2] at h6
    exact ⟨by rw [e11]; exact (hO z h1 h2).1, h6.symm⟩
  refine ⟨R', Rk', _, q, ?_, ?_, e1, e2, e3, e4, e5, hO'⟩
  · rw [h3]; exact leads_nI hW.ld (by omega) hN
  · rcases h4 with ⟨h5, h6⟩ | ⟨o, h5, h6, h7⟩
    · rw [h5, h6]; exact leads_m1 hN
    · rw [h6, h7]; exact leads_nI hW.ld h5 hN
/-- the model's loop, a turn -/
theorem go_m (A : AC n m P od ad I R AL AI AR ta ea wa) {N f : Nat} {s k : Int32} {j : Nat} (hj : j < m) :
    f_X6_goThrough_l132 N I (f + 1) R s k (nI j) = if R 2 (od j) ≤ s ∧ kn R k (od j) then ob1 (f_X6_leadsTo N I R (R 3 (od j))) (fun r7 => ob1 (f_X6_leadsTo N I R (R 4 (od j))) (fun r8 => ob1 (f_X6_count I R (nI (od j)) r7 r8) (fun R9 => f_X6_goThrough_l132 N I f R9 s k (nI (j + 1))))) else f_X6_goThrough_l132 N I f R s k (nI (j + 1)) := by
  have hn := A.n150
  have hm := A.mn
  obtain ⟨ho, h8, -⟩ := A.odr j hj
  show f_X6_goThrough_l132b N I (f_X6_goThrough_l132 N I f) R s k (nI j) = _
  unfold f_X6_goThrough_l132b
  rw [A.i3, if_neg (fun e => by have := (n_le (by omega) (by omega)).mp e; omega)]
  simp only [og_nI (show j < 150 by omega) (show 150 < 2147483648 by omega), nI_tn (show j < 2147483648 by omega), ol_eq, nI_s9, h8, og_nI (show od j < 150 by omega) (show 150 < 2147483648 by omega), nI_tn (show od j < 2147483648 by omega), known_m A k ho, ob1_ite]
  by_cases h1 : s < R 2 (od j)
  · rw [if_pos h1, if_neg (fun e => Int32.not_le.mpr h1 e.1)]
  · rw [if_neg h1, if_neg one0, if_pos trivial]
    by_cases h2 : kn R k (od j)
    · rw [if_pos h2, if_pos ⟨Int32.not_lt.mp h1, h2⟩]
    · rw [if_neg h2, if_neg (fun e => h2 e.2)]
/-- the class's loop, a turn -/
theorem go_c (A : AC n m P od ad I R AL AI AR ta ea wa) {N f : Nat} {Ik : OI} {Rk : RI} {cm : Option Nat} {s k : Int32} (hk : Ik 1 = k) {j : Nat} (hj : j < m) :
    f_X2_goOn_l10 N AL AI AR (f + 1) Ik Rk cm s (nth m od ad j) = if R 2 (od j) ≤ s then (if kn R k (od j) then ob1 (f_X2_happen AL Ik cm AI AR Rk (ad (od j))) (fun R8 => f_X2_goOn_l10 N AL AI AR f Ik R8 cm s (nth m od ad (j + 1))) else f_X2_goOn_l10 N AL AI AR f Ik Rk cm s (nth m od ad (j + 1))) else some (Ik, Rk, nth m od ad j) := by
  obtain ⟨ho, h8, -⟩ := A.odr j hj
  have hc : AR (ad (od j)) 1 = nth m od ad (j + 1) := A.ch j hj
  have e : nth m od ad j = some (ad (od j)) := by unfold nth; rw [if_pos hj]
  rw [e]
  show f_X2_goOn_l10b N AL AI AR (f_X2_goOn_l10 N AL AI AR f) Ik Rk cm s (some (ad (od j))) = _
  unfold f_X2_goOn_l10b f_X2_goOn_j46
  rw [oc_some]
  simp only [om_mem (A.al _ ho), A.c2 _ ho, hk, known_c A k ho, ob1_ite, ol_eq, hc]
  by_cases h1 : s < R 2 (od j)
  · rw [if_pos h1, if_neg (Int32.not_le.mpr h1)]
  · rw [if_neg h1, if_pos (Int32.not_lt.mp h1), if_neg one0, if_pos trivial]
theorem go_cend {N f : Nat} {Ik : OI} {Rk : RI} {cm : Option Nat} {s : Int32} : f_X2_goOn_l10 N AL AI AR (f + 1) Ik Rk cm s none = some (Ik, Rk, none) := rfl
/-- the model goes over what is later -/
theorem late_m (hn0 : True) {N : Nat} {s k : Int32} : ∀ (c j : Nat) (R : RI) (f : Nat), AC n m P od ad I R AL AI AR ta ea wa → j + c = m → (∀ i, j ≤ i → i < m → ¬ R 2 (od i) ≤ s) → c < f → f_X6_goThrough_l132 N I f R s k (nI j) = f_X6_goThrough_l205 N I N R 0
  | 0, j, R, f, A, hj, h, hf => by
    obtain ⟨f, rfl⟩ : ∃ z, f = z + 1 := ⟨f - 1, by omega⟩
    obtain rfl : j = m := by omega
    have hn := A.n150
    have hm := A.mn
    show f_X6_goThrough_l132b N I (f_X6_goThrough_l132 N I f) R s k (nI j) = _
    unfold f_X6_goThrough_l132b
    rw [A.i3, if_pos ((n_le (by omega) (by omega)).mpr (Nat.le_refl _))]
  | c + 1, j, R, f, A, hj, h, hf => by
    obtain ⟨f, rfl⟩ : ∃ z, f = z + 1 := ⟨f - 1, by omega⟩
    rw [go_m A (by omega), if_neg (fun e => h j (Nat.le_refl _) (by omega) e.1)]
    exact late_m hn0 c (j + 1) R f A (by omega) (fun i h1 h2 => h i (by omega) h2) (by omega)
theorem goes_both {N : Nat} (hN : 200 ≤ N) {Ik : OI} {cm : Option Nat} {s k : Int32} (hk : Ik 1 = k) : ∀ (c j : Nat) (R Rk : RI) (f g : Nat), AC n m P od ad I R AL AI AR ta ea wa → j + c = m → WF R → LR R Rk → (∀ z, P ≤ z → z < 24 → R 11 z = -1 ∧ R 12 z = 0) → c < f → c < g →
    ∃ R' Rk' j', f_X6_goThrough_l132 N I f R s k (nI j) = f_X6_goThrough_l205 N I N R' 0 ∧ f_X2_goOn_l10 N AL AI AR g Ik Rk cm s (nth m od ad j) = some (Ik, Rk', nth m od ad j') ∧ WF R' ∧ LR R' Rk' ∧ SameR R R' ∧ j ≤ j' ∧ j' ≤ m ∧ (∀ i, j ≤ i → i < j' → R 2 (od i) ≤ s) ∧ (∀ i, j' ≤ i → i < m → ¬ R 2 (od i) ≤ s) ∧ (∀ z, P ≤ z → z < 24 → R' 11 z = -1 ∧ R' 12 z = 0)
  | 0, j, R, Rk, f, g, A, hj, hW, hL, hO, hf, hg => by
    obtain ⟨g, rfl⟩ : ∃ z, g = z + 1 := ⟨g - 1, by omega⟩
    obtain rfl : j = m := by omega
    refine ⟨R, Rk, j, late_m trivial 0 j R f A rfl (fun i h1 h2 => by omega) hf, ?_, hW, hL, fun _ _ => rfl, Nat.le_refl _, Nat.le_refl _, fun i h1 h2 => by omega, fun i h1 h2 => by omega, hO⟩
    unfold nth
    rw [if_neg (Nat.lt_irrefl _)]
    exact go_cend
  | c + 1, j, R, Rk, f, g, A, hj, hW, hL, hO, hf, hg => by
    have hjm : j < m := by omega
    by_cases h1 : R 2 (od j) ≤ s
    · obtain ⟨f, rfl⟩ : ∃ z, f = z + 1 := ⟨f - 1, by omega⟩
      obtain ⟨g, rfl⟩ : ∃ z, g = z + 1 := ⟨g - 1, by omega⟩
      rw [go_m A hjm, go_c A hk hjm, if_pos h1]
      have fin : ∀ (R1 Rk1 : RI), SameR R R1 → WF R1 → LR R1 Rk1 → (∀ z, P ≤ z → z < 24 → R1 11 z = -1 ∧ R1 12 z = 0) → ∃ R' Rk' j', f_X6_goThrough_l132 N I f R1 s k (nI (j + 1)) = f_X6_goThrough_l205 N I N R' 0 ∧ f_X2_goOn_l10 N AL AI AR g Ik Rk1 cm s (nth m od ad (j + 1)) = some (Ik, Rk', nth m od ad j') ∧ WF R' ∧ LR R' Rk' ∧ SameR R R' ∧ j ≤ j' ∧ j' ≤ m ∧ (∀ i, j ≤ i → i < j' → R 2 (od i) ≤ s) ∧ (∀ i, j' ≤ i → i < m → ¬ R 2 (od i) ≤ s) ∧ (∀ z, P ≤ z → z < 24 → R' 11 z = -1 ∧ R' 12 z = 0) := by
        intro R1 Rk1 hS hW1 hL1 hO1
        obtain ⟨R', Rk', j', e1, e2, e3, e4, e5, e6, e7, e8, e9, e10⟩ := goes_both hN hk c (j + 1) R1 Rk1 f g (A.sq hS.q) (by omega) hW1 hL1 hO1 (by omega) (by omega)
        have e2' : R1 2 = R 2 := hS 2 (by omega)
        rw [e2'] at e8 e9
        exact ⟨R', Rk', j', e1, e2, e3, e4, fun c hc => (e5 c hc).trans (hS c hc), by omega, e7, fun i h2 h3 => by
          by_cases e : i = j
          · subst e; exact h1
          · exact e8 i (by omega) h3, e9, e10⟩
      by_cases h2 : kn R k (od j)
      · rw [if_pos ⟨h1, h2⟩, if_pos h2]
        obtain ⟨R1, Rk1, p, q, e1, e2, e3, e4, e5, e6, e7, e8⟩ := both_at (Ik := Ik) (cm := cm) A (show 24 ≤ N by omega) hW hL hO hjm
        rw [e1, ob1_some, e2, ob1_some, e3, ob1_some, e4, ob1_some]
        exact fin R1 Rk1 e7 e6 e5 e8
      · rw [if_neg (fun e => h2 e.2), if_neg h2]
        exact fin R Rk (fun _ _ => rfl) hW hL hO
    · have hlate : ∀ i, j ≤ i → i < m → ¬ R 2 (od i) ≤ s := fun i h2 h3 h4 => h1 (Int32.le_trans (A.srt j i h2 h3) h4)
      obtain ⟨g, rfl⟩ : ∃ z, g = z + 1 := ⟨g - 1, by omega⟩
      refine ⟨R, Rk, j, late_m trivial (c + 1) j R f A hj hlate hf, ?_, hW, hL, fun _ _ => rfl, Nat.le_refl _, by omega, fun i h2 h3 => by omega, hlate, hO⟩
      rw [go_c A hk hjm, if_neg h1]
end PO
