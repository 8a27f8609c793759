/-! ===== PURE: what happens, as a plain function ===== -/
section PHa
theorem some_ite {O : Type} {c : Prop} [Decidable c] {a b : O} : (if c then some a else some b) = some (if c then a else b) := by split <;> rfl
theorem isLiving_at {I : OI} {R : RI} {cm : Option Nat} {i : Int32} : f_X2_isLiving I R cm i = some (if atv 24 (R 1) i = 1 then 1 else 0) := by
  unfold f_X2_isLiving atv
  by_cases h1 : i < 0
  · rw [if_pos h1, if_pos (Or.inl h1), if_neg (by decide)]
  · by_cases h2 : nI 24 ≤ i
    · rw [if_neg h1, if_pos (show (24 : Int32) ≤ i from h2), if_pos (Or.inr h2), if_neg (by decide)]
    · rw [if_neg h1, if_neg (show ¬ (24 : Int32) ≤ i from h2), if_neg (show ¬ (i < 0 ∨ nI 24 ≤ i) from fun h => h.elim h1 h2)]
      obtain ⟨j, hj, rfl⟩ := n_of h1 (Int32.not_le.mp h2) (by omega)
      rw [og_nI hj (by omega), nI_tn (by omega)]
      exact some_ite
theorem ite2_some {c d : Prop} [Decidable c] [Decidable d] {K : Option Int32} (h : c ↔ d) : (if c then (some 1 : Option Int32) else some 0) = some (if d then 1 else 0) := by
  by_cases hc : c
  · rw [if_pos hc, if_pos (h.mp hc)]
  · rw [if_neg hc, if_neg (fun hd => hc (h.mpr hd))]
abbrev lvg (R : RI) (i : Int32) : Prop := atv 24 (R 1) i = 1
theorem areTwo_at {I : OI} {R : RI} {cm : Option Nat} {p q : Int32} : f_X2_areTwoLiving I R cm p q = some (if p ≠ q ∧ lvg R p ∧ lvg R q then 1 else 0) := by
  unfold f_X2_areTwoLiving
  by_cases h1 : p = q
  · rw [if_pos h1, if_neg (fun h => h.1 h1)]
  · rw [if_neg h1, isLiving_at, ob1_ite, isLiving_at, ob1_ite]
    by_cases h2 : atv 24 (R 1) p = 1
    · rw [if_pos h2, if_neg one0]
      by_cases h3 : atv 24 (R 1) q = 1
      · rw [if_pos h3, if_neg one0, if_pos ⟨h1, h2, h3⟩]
      · rw [if_neg h3, if_pos rfl, if_neg (fun h => h3 h.2.2)]
    · rw [if_neg h2, if_pos rfl, if_neg (fun h => h2 h.2.1)]
def bornv (R : RI) (p y : Int32) (a : OI) : RI :=
  va_up (va_up (va_up (va_up (va_up (va_up R 1 (putv 24 (R 1) p 1)) 2 (putv 24 (R 2) p (a 5))) 3 (putv 24 (R 3) p (a 6))) 5 (putv 24 (R 5) p y)) 6 (putv 24 (R 6) p y)) 7 (putv 24 (R 7) p (a 2))
def hapw (a : OI) (p q : Int32) (R : RI) : RI :=
  if a 0 = 0 then (if atv 24 (R 1) p = 0 then bornv R p (if q ≠ p ∧ lvg R q then q else -1) a else R)
  else if a 0 = 1 then (if lvg R p then va_up R 2 (putv 24 (R 2) p (a 5)) else R)
  else if a 0 = 2 then (if lvg R p then va_up R 3 (putv 24 (R 3) p (a 6)) else R)
  else if a 0 = 3 then (if (p ≠ q ∧ lvg R p ∧ lvg R q) ∧ atv 24 (R 4) p = -1 ∧ atv 24 (R 4) q = -1 then va_up R 4 (putv 24 (putv 24 (R 4) p q) q p) else R)
  else if a 0 = 4 then (if (p ≠ q ∧ lvg R p ∧ lvg R q) ∧ atv 24 (R 4) p = q then va_up R 4 (putv 24 (putv 24 (R 4) p (-1)) q (-1)) else R)
  else if a 0 = 5 then (if lvg R p then va_up (va_up (va_up R 4 (putv 24 (putv 24 (R 4) (atv 24 (R 4) p) (-1)) p (-1))) 2 (putv 24 (R 2) p (-1))) 1 (putv 24 (R 1) p 2) else R)
  else if a 0 = 6 then (if p ≠ q ∧ lvg R p ∧ lvg R q then va_up (va_up R 5 (putv 24 (R 5) p q)) 8 (setv 24 (R 8) p 1) else R)
  else R
def hapv (AI : Nat → OI) (x : Nat) (R : RI) : RI := hapw (AI x) (atv 24 (R 0) (AI x 3)) (atv 24 (R 0) (AI x 4)) R
section happens
variable {AL : List Nat} {I : OI} {cm : Option Nat} {AI : Nat → OI} {AR : Nat → OO} {R : RI} {x : Nat}
theorem born_j30 (hx : x ∈ AL) (p y : Int32) : f_X2_beBorn_j30 AL I cm AI AR R p x y = some (bornv R p y (AI x)) := by
  unfold f_X2_beBorn_j30 bornv
  simp only [om_mem hx, ol_eq]
  rfl
theorem born_v (hx : x ∈ AL) (p q : Int32) : f_X2_beBorn AL I cm AI AR R p q x = some (if atv 24 (R 1) p = 0 then bornv R p (if q ≠ p ∧ lvg R q then q else -1) (AI x) else R) := by
  unfold f_X2_beBorn
  simp only [born_j30 hx]
  by_cases h0 : atv 24 (R 1) p = 0
  · rw [if_pos h0, if_pos h0]
    by_cases h1 : q = p
    · rw [if_pos h1, if_neg (fun h => h.1 h1)]
    · rw [if_neg h1, isLiving_at, ob1_ite]
      by_cases h2 : atv 24 (R 1) q = 1
      · rw [if_pos h2, if_neg one0, if_pos ⟨h1, h2⟩]
      · rw [if_neg h2, if_pos rfl, if_neg (fun h => h2 h.2)]
  · rw [if_neg h0, if_neg h0]
theorem bond_v (p q : Int32) : f_X2_bond I cm R p q = some (if (p ≠ q ∧ lvg R p ∧ lvg R q) ∧ atv 24 (R 4) p = -1 ∧ atv 24 (R 4) q = -1 then va_up R 4 (putv 24 (putv 24 (R 4) p q) q p) else R) := by
  unfold f_X2_bond
  rw [areTwo_at, ob1_ite]
  by_cases h0 : p ≠ q ∧ lvg R p ∧ lvg R q
  · rw [if_pos h0, if_neg one0]
    by_cases h1 : atv 24 (R 4) p = -1
    · rw [if_pos h1]
      by_cases h2 : atv 24 (R 4) q = -1
      · rw [if_pos h2, if_pos ⟨h0, h1, h2⟩]
        simp only [ol_eq, upup, up_same]
      · rw [if_neg h2, if_neg (fun h => h2 h.2.2)]
    · rw [if_neg h1, if_neg (fun h => h1 h.2.1)]
  · rw [if_neg h0, if_pos rfl, if_neg (fun h => h0 h.1)]
theorem part_v (p q : Int32) : f_X2_part I cm R p q = some (if (p ≠ q ∧ lvg R p ∧ lvg R q) ∧ atv 24 (R 4) p = q then va_up R 4 (putv 24 (putv 24 (R 4) p (-1)) q (-1)) else R) := by
  unfold f_X2_part
  rw [areTwo_at, ob1_ite]
  by_cases h0 : p ≠ q ∧ lvg R p ∧ lvg R q
  · rw [if_pos h0, if_neg one0]
    by_cases h1 : atv 24 (R 4) p = q
    · rw [if_pos h1, if_pos ⟨h0, h1⟩]
      simp only [ol_eq, upup, up_same]
    · rw [if_neg h1, if_neg (fun h => h1 h.2)]
  · rw [if_neg h0, if_pos rfl, if_neg (fun h => h0 h.1)]
theorem die_v (p : Int32) : f_X2_die I cm R p = some (if lvg R p then va_up (va_up (va_up R 4 (putv 24 (putv 24 (R 4) (atv 24 (R 4) p) (-1)) p (-1))) 2 (putv 24 (R 2) p (-1))) 1 (putv 24 (R 1) p 2) else R) := by
  unfold f_X2_die
  rw [isLiving_at, ob1_ite]
  by_cases h0 : lvg R p
  · rw [if_pos h0, if_neg one0, if_pos h0]
    simp only [ol_eq, upup, up_same]
    rfl
  · rw [if_neg h0, if_pos rfl, if_neg h0]
theorem adopt_v (p q : Int32) : f_X2_adopt I cm R p q = some (if p ≠ q ∧ lvg R p ∧ lvg R q then va_up (va_up R 5 (putv 24 (R 5) p q)) 8 (setv 24 (R 8) p 1) else R) := by
  unfold f_X2_adopt
  rw [areTwo_at, ob1_ite]
  by_cases h0 : p ≠ q ∧ lvg R p ∧ lvg R q
  · rw [if_pos h0, if_neg one0, if_pos h0]
    rfl
  · rw [if_neg h0, if_pos rfl, if_neg h0]
theorem ob1_id {O : Type} {y : Option O} : ob1 y (fun r => some r) = y := by cases y <;> rfl
theorem hap_v (hx : x ∈ AL) : f_X2_happen AL I cm AI AR R x = some (hapv AI x R) := by
  unfold f_X2_happen hapv hapw
  simp only [om_mem hx, ol_eq, ob1_id, isLiving_at, ob1_ite, born_v hx, bond_v, part_v, die_v, adopt_v]
  by_cases h0 : AI x 0 = 0
  · rw [if_pos h0, if_pos h0]
  rw [if_neg h0, if_neg h0]
  by_cases h1 : AI x 0 = 1
  · rw [if_pos h1, if_pos h1, if_neg one0, if_pos trivial, some_ite]
  rw [if_neg h1, if_neg h1]
  by_cases h2 : AI x 0 = 2
  · rw [if_pos h2, if_pos h2, if_neg one0, if_pos trivial, some_ite]
  rw [if_neg h2, if_neg h2]
  by_cases h3 : AI x 0 = 3
  · rw [if_pos h3, if_pos h3]
  rw [if_neg h3, if_neg h3]
  by_cases h4 : AI x 0 = 4
  · rw [if_pos h4, if_pos h4]
  rw [if_neg h4, if_neg h4]
  by_cases h5 : AI x 0 = 5
  · rw [if_pos h5, if_pos h5]
  rw [if_neg h5, if_neg h5]
  by_cases h6 : AI x 0 = 6
  · rw [if_pos h6, if_pos h6]
  rw [if_neg h6, if_neg h6]
end happens
section alike
variable {Ra Rb : RI}
theorem atv_c {g h : Nat → Int32} (e : ∀ j, j < 24 → g j = h j) (i : Int32) : atv 24 g i = atv 24 h i := by
  unfold atv
  by_cases h1 : i < 0 ∨ nI 24 ≤ i
  · rw [if_pos h1, if_pos h1]
  · rw [if_neg h1, if_neg h1]
    obtain ⟨j, hj, rfl⟩ := n_of (fun h => h1 (Or.inl h)) (Int32.not_le.mp (fun h => h1 (Or.inr h))) (by omega)
    rw [nI_tn (by omega)]
    exact e j hj
theorem upd_c {g h : Nat → Int32} (e : ∀ j, j < 24 → g j = h j) (i : Nat) (x : Int32) : ∀ j, j < 24 → upd g i x j = upd h i x j := fun j hj => by
  unfold upd
  rw [e j hj]
theorem putv_c {g h : Nat → Int32} (e : ∀ j, j < 24 → g j = h j) (i x : Int32) : ∀ j, j < 24 → putv 24 g i x j = putv 24 h i x j := fun j hj => by
  unfold putv
  split
  · exact e j hj
  · exact upd_c e _ _ j hj
theorem setv_c {g h : Nat → Int32} (e : ∀ j, j < 24 → g j = h j) (i x : Int32) : ∀ j, j < 24 → setv 24 g i x j = setv 24 h i x j := fun j hj => by
  unfold setv
  split
  · exact e j hj
  · exact upd_c e _ _ j hj
theorem LEq.rf {R : RI} : LEq R R := fun _ _ _ _ => rfl
theorem LEq.up (h : LEq Ra Rb) (c : Nat) {g g' : Nat → Int32} (e : ∀ j, j < 24 → g j = g' j) : LEq (va_up Ra c g) (va_up Rb c g') := fun d hd j hj => by
  unfold va_up
  by_cases hc : d = c
  · rw [if_pos hc, if_pos hc]; exact e j hj
  · rw [if_neg hc, if_neg hc]; exact h d hd j hj
theorem bornv_LEq (h : LEq Ra Rb) (p y : Int32) (a : OI) : LEq (bornv Ra p y a) (bornv Rb p y a) :=
  (((((h.up 1 (putv_c (h 1 (by omega)) _ _)).up 2 (putv_c (h 2 (by omega)) _ _)).up 3 (putv_c (h 3 (by omega)) _ _)).up 5 (putv_c (h 5 (by omega)) _ _)).up 6 (putv_c (h 6 (by omega)) _ _)).up 7 (putv_c (h 7 (by omega)) _ _)
theorem hapw_LEq (h : LEq Ra Rb) (a : OI) (p q : Int32) : LEq (hapw a p q Ra) (hapw a p q Rb) := by
  have e1 : ∀ i, atv 24 (Ra 1) i = atv 24 (Rb 1) i := fun i => atv_c (h 1 (by omega)) i
  have e4 : ∀ i, atv 24 (Ra 4) i = atv 24 (Rb 4) i := fun i => atv_c (h 4 (by omega)) i
  unfold hapw lvg
  simp only [e1, e4]
  split
  · split
    · exact bornv_LEq h _ _ _
    · exact h
  split
  · split
    · exact h.up 2 (putv_c (h 2 (by omega)) _ _)
    · exact h
  split
  · split
    · exact h.up 3 (putv_c (h 3 (by omega)) _ _)
    · exact h
  split
  · split
    · exact h.up 4 (putv_c (putv_c (h 4 (by omega)) _ _) _ _)
    · exact h
  split
  · split
    · exact h.up 4 (putv_c (putv_c (h 4 (by omega)) _ _) _ _)
    · exact h
  split
  · split
    · exact ((h.up 4 (putv_c (putv_c (h 4 (by omega)) _ _) _ _)).up 2 (putv_c (h 2 (by omega)) _ _)).up 1 (putv_c (h 1 (by omega)) _ _)
    · exact h
  split
  · split
    · exact (h.up 5 (putv_c (h 5 (by omega)) _ _)).up 8 (setv_c (h 8 (by omega)) _ _)
    · exact h
  exact h
theorem hapv_LEq (h : LEq Ra Rb) (AI : Nat → OI) (x : Nat) : LEq (hapv AI x Ra) (hapv AI x Rb) := by
  unfold hapv
  rw [atv_c (h 0 (by omega)) (AI x 3), atv_c (h 0 (by omega)) (AI x 4)]
  exact hapw_LEq h _ _ _
theorem hapv_ai {AI AI' : Nat → OI} {x : Nat} (h : AI' x = AI x) (R : RI) : hapv AI' x R = hapv AI x R := by
  unfold hapv
  rw [h]
end alike
end PHa
