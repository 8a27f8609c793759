/-! ===== PURE: a land, the class's against the model's ===== -/
section PL
/-- who is meant, by the rows of leads -/
def rootN (ld : Nat → Int32) : Nat → Nat → Nat
  | 0, j => j
  | f + 1, j => if ld j = -1 then j else rootN ld f (ld j).toNatClampNeg
def root (ld : Nat → Int32) (j : Nat) : Nat := rootN ld j j
/-- leads go down -/
def LdOK (ld : Nat → Int32) : Prop := ∀ j, j < 24 → ld j = -1 ∨ ∃ i, i < j ∧ ld j = nI i
theorem rootN_le {ld : Nat → Int32} (h : LdOK ld) : ∀ (f j : Nat), j < 24 → rootN ld f j ≤ j
  | 0, j, _ => Nat.le_refl j
  | f + 1, j, hj => by
    unfold rootN
    rcases h j hj with h1 | ⟨i, hi, h1⟩
    · rw [if_pos h1]; exact Nat.le_refl j
    · rw [h1, if_neg (nI_m1 (by omega)), nI_tn (by omega)]
      exact Nat.le_trans (rootN_le h f i (by omega)) (by omega)
theorem rootN_top {ld : Nat → Int32} (h : LdOK ld) : ∀ (f j : Nat), j < 24 → j ≤ f → ld (rootN ld f j) = -1
  | 0, j, hj, hf => by
    obtain rfl : j = 0 := by omega
    rcases h 0 hj with h1 | ⟨i, hi, h1⟩
    · exact h1
    · omega
  | f + 1, j, hj, hf => by
    unfold rootN
    rcases h j hj with h1 | ⟨i, hi, h1⟩
    · rw [if_pos h1]; exact h1
    · rw [h1, if_neg (nI_m1 (by omega)), nI_tn (by omega)]
      exact rootN_top h f i (by omega) (by omega)
theorem rootN_more {ld : Nat → Int32} (h : LdOK ld) : ∀ (f g j : Nat), j < 24 → j ≤ f → j ≤ g → rootN ld f j = rootN ld g j
  | 0, g, j, hj, hf, hg => by
    obtain rfl : j = 0 := by omega
    cases g with
    | zero => rfl
    | succ g =>
      unfold rootN
      rcases h 0 hj with h1 | ⟨i, hi, h1⟩
      · rw [if_pos h1]
      · omega
  | f + 1, 0, j, hj, hf, hg => by
    obtain rfl : j = 0 := by omega
    unfold rootN
    rcases h 0 hj with h1 | ⟨i, hi, h1⟩
    · rw [if_pos h1]
    · omega
  | f + 1, g + 1, j, hj, hf, hg => by
    unfold rootN
    rcases h j hj with h1 | ⟨i, hi, h1⟩
    · rw [if_pos h1, if_pos h1]
    · rw [h1, if_neg (nI_m1 (by omega)), if_neg (nI_m1 (by omega)), nI_tn (by omega)]
      exact rootN_more h f g i (by omega) (by omega) (by omega)
theorem root_lt {ld : Nat → Int32} (h : LdOK ld) {j : Nat} (hj : j < 24) : root ld j < 24 := Nat.lt_of_le_of_lt (rootN_le h j j hj) hj
theorem root_top {ld : Nat → Int32} (h : LdOK ld) {j : Nat} (hj : j < 24) : ld (root ld j) = -1 := rootN_top h j j hj (Nat.le_refl j)
theorem root_self {ld : Nat → Int32} {j : Nat} (h : ld j = -1) : root ld j = j := by
  unfold root
  cases j with
  | zero => rfl
  | succ j => unfold rootN; rw [if_pos h]
theorem root_step {ld : Nat → Int32} (h : LdOK ld) {j i : Nat} (hj : j < 24) (hi : i < j) (e : ld j = nI i) : root ld j = root ld i := by
  unfold root
  cases j with
  | zero => omega
  | succ j =>
    rw [show rootN ld (j + 1) (j + 1) = rootN ld j i by
      conv => lhs; unfold rootN
      rw [e, if_neg (nI_m1 (by omega)), nI_tn (by omega)]]
    exact rootN_more h j i i (by omega) (by omega) (Nat.le_refl i)
theorem leads_l {N : Nat} {I : OI} {R : RI} (h : LdOK (R 11)) : ∀ (f j : Nat), j < 24 → j < f → f_X6_leadsTo_l2 N I R f (nI j) = some (nI (root (R 11) j))
  | 0, j, hj, hf => by omega
  | f + 1, j, hj, hf => by
    show f_X6_leadsTo_l2b N I R (f_X6_leadsTo_l2 N I R f) (nI j) = _
    unfold f_X6_leadsTo_l2b
    rw [if_neg (nI_m1 (by omega)), og_nI hj (by omega), nI_tn (by omega)]
    rcases h j hj with h1 | ⟨i, hi, h1⟩
    · rw [if_pos h1, root_self h1]
    · rw [h1, if_neg (nI_m1 (by omega)), og_nI hj (by omega), ol_eq, leads_l h f i (by omega) (by omega), root_step h hj hi h1]
theorem leads_nI {N : Nat} {I : OI} {R : RI} (h : LdOK (R 11)) {j : Nat} (hj : j < 24) (hN : 24 ≤ N) : f_X6_leadsTo N I R (nI j) = some (nI (root (R 11) j)) := leads_l h N j hj (by omega)
theorem leads_m1 {N : Nat} {I : OI} {R : RI} (hN : 24 ≤ N) : f_X6_leadsTo N I R (-1) = some (-1) := by
  obtain ⟨n, rfl⟩ : ∃ n, N = n + 1 := ⟨N - 1, by omega⟩
  show f_X6_leadsTo_l2b (n + 1) I R (f_X6_leadsTo_l2 (n + 1) I R n) (-1) = _
  unfold f_X6_leadsTo_l2b
  rw [if_pos rfl]
/-- one of the first n, or none -/
def PN (n : Nat) (x : Int32) : Prop := x = -1 ∨ ∃ i, i < n ∧ x = nI i
/-- the model's land is fair -/
abbrev WF (R : RI) : Prop := (LdOK (R 11)) ∧ (∀ j, j < 24 → R 12 j = 0 ∨ R 12 j = 1 ∨ R 12 j = 2) ∧ (∀ j, j < 24 → PN 24 (R 15 j)) ∧ (∀ j, j < 24 → PN 24 (R 16 j))
theorem WF.ld {R : RI} (h9 : WF R) : LdOK (R 11) := h9.1
theorem WF.st {R : RI} (h9 : WF R) : ∀ j, j < 24 → R 12 j = 0 ∨ R 12 j = 1 ∨ R 12 j = 2 := h9.2.1
theorem WF.pr {R : RI} (h9 : WF R) : ∀ j, j < 24 → PN 24 (R 15 j) := h9.2.2.1
theorem WF.mo {R : RI} (h9 : WF R) : ∀ j, j < 24 → PN 24 (R 16 j) := h9.2.2.2
/-- the class's land is the model's -/
abbrev LR (R Rk : RI) : Prop := (∀ j, j < 24 → Rk 0 j = nI (root (R 11) j)) ∧ (∀ j, j < 24 → Rk 1 j = if R 11 j = -1 then R 12 j else 3) ∧ (∀ j, j < 24 → Rk 2 j = R 13 j) ∧ (∀ j, j < 24 → Rk 3 j = R 14 j) ∧ (∀ j, j < 24 → Rk 4 j = R 15 j) ∧ (∀ j, j < 24 → Rk 5 j = R 16 j) ∧ (∀ j, j < 24 → Rk 6 j = R 18 j) ∧ (∀ j, j < 24 → Rk 7 j = R 17 j) ∧ (∀ j, j < 24 → Rk 8 j = R 19 j)
theorem LR.mt {R Rk : RI} (h9 : LR R Rk) : ∀ j, j < 24 → Rk 0 j = nI (root (R 11) j) := h9.1
theorem LR.st {R Rk : RI} (h9 : LR R Rk) : ∀ j, j < 24 → Rk 1 j = if R 11 j = -1 then R 12 j else 3 := h9.2.1
theorem LR.hm {R Rk : RI} (h9 : LR R Rk) : ∀ j, j < 24 → Rk 2 j = R 13 j := h9.2.2.1
theorem LR.nm {R Rk : RI} (h9 : LR R Rk) : ∀ j, j < 24 → Rk 3 j = R 14 j := h9.2.2.2.1
theorem LR.pr {R Rk : RI} (h9 : LR R Rk) : ∀ j, j < 24 → Rk 4 j = R 15 j := h9.2.2.2.2.1
theorem LR.mo {R Rk : RI} (h9 : LR R Rk) : ∀ j, j < 24 → Rk 5 j = R 16 j := h9.2.2.2.2.2.1
theorem LR.bm {R Rk : RI} (h9 : LR R Rk) : ∀ j, j < 24 → Rk 6 j = R 18 j := h9.2.2.2.2.2.2.1
theorem LR.bd {R Rk : RI} (h9 : LR R Rk) : ∀ j, j < 24 → Rk 7 j = R 17 j := h9.2.2.2.2.2.2.2.1
theorem LR.ad {R Rk : RI} (h9 : LR R Rk) : ∀ j, j < 24 → Rk 8 j = R 19 j := h9.2.2.2.2.2.2.2.2
/-- only the land's rows -/
def SameR (R R' : RI) : Prop := ∀ c, ¬ (12 ≤ c ∧ c ≤ 19) → R' c = R c
theorem isLiving_nI {I : OI} {R : RI} {cm : Option Nat} {j : Nat} (hj : j < 24) : f_X2_isLiving I R cm (nI j) = some (if R 1 j = 1 then 1 else 0) := by
  unfold f_X2_isLiving
  rw [if_neg (nI_nn (by omega)), if_neg (by rw [show (24 : Int32) = nI 24 from rfl, n_le (by omega) (by omega)]; omega), og_nI hj (by omega), nI_tn (by omega)]
  split <;> rfl
theorem isLiving_m1 {I : OI} {R : RI} {cm : Option Nat} : f_X2_isLiving I R cm (-1) = some 0 := by
  unfold f_X2_isLiving
  rw [if_pos (by decide)]
end PL
