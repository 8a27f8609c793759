/-! ===== PURE: the acts, the class's against the model's; what both begin a land with ===== -/
section PA
/-- n acts, m of them in the order od; ad: their addresses; P persons -/
abbrev AC (n m P : Nat) (od ad : Nat → Nat) (I : OI) (R : RI) (AL : List Nat) (AI : Nat → OI) (AR : Nat → OO) (ta : Int32) (ea : Option Nat) (wa : OO) : Prop := (n ≤ 150) ∧ (m ≤ n) ∧ (P ≤ 24) ∧ (I 4 = nI P) ∧ (I 2 = nI n) ∧ (I 3 = nI m) ∧ (ta = nI n) ∧ (∀ i, i < n → ad i ∈ AL) ∧ (∀ i j, i < n → j < n → ad i = ad j → i = j) ∧ (∀ i, i < 150 → wa i = if i < n then some (ad i) else none) ∧ (∀ i, i < n → AI (ad i) 0 = R 0 i) ∧ (∀ i, i < n → AI (ad i) 1 = R 1 i) ∧ (∀ i, i < n → AI (ad i) 2 = R 2 i) ∧ (∀ i, i < n → AI (ad i) 3 = R 3 i) ∧ (∀ i, i < n → R 0 i ≠ 8 → AI (ad i) 4 = R 4 i) ∧ (∀ i, i < n → AI (ad i) 5 = R 5 i) ∧ (∀ i, i < n → AI (ad i) 6 = R 6 i) ∧ (∀ i, i < n → AI (ad i) 7 = nI i) ∧ (∀ i, i < n → ∃ k, k < 9 ∧ R 0 i = nI k) ∧ (∀ i, i < n → R 0 i ≠ 8 → ∃ w, w < P ∧ R 3 i = nI w) ∧ (∀ i, i < n → R 0 i ≠ 8 → PN P (R 4 i)) ∧ (∀ i, i < n → R 0 i = 3 ∨ R 0 i = 4 ∨ R 0 i = 6 → ¬ R 4 i = -1) ∧ (∀ i, i < n → R 0 i = 7 → ∃ w o, w < o ∧ o < P ∧ R 3 i = nI w ∧ R 4 i = nI o) ∧ (∀ i, i < n → ((R 0 i = 7 ∨ R 0 i = 8) ↔ R 2 i = -1)) ∧ (∀ i, i < n → (R 7 i = -1 ∧ AR (ad i) 0 = none) ∨ ∃ z, z < n ∧ R 7 i = nI z ∧ AR (ad i) 0 = some (ad z)) ∧ (∀ j, j < m → od j < n ∧ R 8 j = nI (od j) ∧ ∃ k, k < 7 ∧ R 0 (od j) = nI k) ∧ (∀ j, j < m → AR (ad (od j)) 1 = if j + 1 < m then some (ad (od (j + 1))) else none) ∧ (ea = if 0 < m then some (ad (od 0)) else none) ∧ (∀ i j, i ≤ j → j < m → R 2 (od i) ≤ R 2 (od j))
theorem AC.n150 {n m P : Nat} {od ad : Nat → Nat} {I : OI} {R : RI} {AL : List Nat} {AI : Nat → OI} {AR : Nat → OO} {ta : Int32} {ea : Option Nat} {wa : OO} (h9 : AC n m P od ad I R AL AI AR ta ea wa) : n ≤ 150 := h9.1
theorem AC.mn {n m P : Nat} {od ad : Nat → Nat} {I : OI} {R : RI} {AL : List Nat} {AI : Nat → OI} {AR : Nat → OO} {ta : Int32} {ea : Option Nat} {wa : OO} (h9 : AC n m P od ad I R AL AI AR ta ea wa) : m ≤ n := h9.2.1
theorem AC.P24 {n m P : Nat} {od ad : Nat → Nat} {I : OI} {R : RI} {AL : List Nat} {AI : Nat → OI} {AR : Nat → OO} {ta : Int32} {ea : Option Nat} {wa : OO} (h9 : AC n m P od ad I R AL AI AR ta ea wa) : P ≤ 24 := h9.2.2.1
theorem AC.iP {n m P : Nat} {od ad : Nat → Nat} {I : OI} {R : RI} {AL : List Nat} {AI : Nat → OI} {AR : Nat → OO} {ta : Int32} {ea : Option Nat} {wa : OO} (h9 : AC n m P od ad I R AL AI AR ta ea wa) : I 4 = nI P := h9.2.2.2.1
theorem AC.i2 {n m P : Nat} {od ad : Nat → Nat} {I : OI} {R : RI} {AL : List Nat} {AI : Nat → OI} {AR : Nat → OO} {ta : Int32} {ea : Option Nat} {wa : OO} (h9 : AC n m P od ad I R AL AI AR ta ea wa) : I 2 = nI n := h9.2.2.2.2.1
theorem AC.i3 {n m P : Nat} {od ad : Nat → Nat} {I : OI} {R : RI} {AL : List Nat} {AI : Nat → OI} {AR : Nat → OO} {ta : Int32} {ea : Option Nat} {wa : OO} (h9 : AC n m P od ad I R AL AI AR ta ea wa) : I 3 = nI m := h9.2.2.2.2.2.1
theorem AC.tan {n m P : Nat} {od ad : Nat → Nat} {I : OI} {R : RI} {AL : List Nat} {AI : Nat → OI} {AR : Nat → OO} {ta : Int32} {ea : Option Nat} {wa : OO} (h9 : AC n m P od ad I R AL AI AR ta ea wa) : ta = nI n := h9.2.2.2.2.2.2.1
theorem AC.al {n m P : Nat} {od ad : Nat → Nat} {I : OI} {R : RI} {AL : List Nat} {AI : Nat → OI} {AR : Nat → OO} {ta : Int32} {ea : Option Nat} {wa : OO} (h9 : AC n m P od ad I R AL AI AR ta ea wa) : ∀ i, i < n → ad i ∈ AL := h9.2.2.2.2.2.2.2.1
theorem AC.inj {n m P : Nat} {od ad : Nat → Nat} {I : OI} {R : RI} {AL : List Nat} {AI : Nat → OI} {AR : Nat → OO} {ta : Int32} {ea : Option Nat} {wa : OO} (h9 : AC n m P od ad I R AL AI AR ta ea wa) : ∀ i j, i < n → j < n → ad i = ad j → i = j := h9.2.2.2.2.2.2.2.2.1
theorem AC.war {n m P : Nat} {od ad : Nat → Nat} {I : OI} {R : RI} {AL : List Nat} {AI : Nat → OI} {AR : Nat → OO} {ta : Int32} {ea : Option Nat} {wa : OO} (h9 : AC n m P od ad I R AL AI AR ta ea wa) : ∀ i, i < 150 → wa i = if i < n then some (ad i) else none := h9.2.2.2.2.2.2.2.2.2.1
theorem AC.c0 {n m P : Nat} {od ad : Nat → Nat} {I : OI} {R : RI} {AL : List Nat} {AI : Nat → OI} {AR : Nat → OO} {ta : Int32} {ea : Option Nat} {wa : OO} (h9 : AC n m P od ad I R AL AI AR ta ea wa) : ∀ i, i < n → AI (ad i) 0 = R 0 i := h9.2.2.2.2.2.2.2.2.2.2.1
theorem AC.c1 {n m P : Nat} {od ad : Nat → Nat} {I : OI} {R : RI} {AL : List Nat} {AI : Nat → OI} {AR : Nat → OO} {ta : Int32} {ea : Option Nat} {wa : OO} (h9 : AC n m P od ad I R AL AI AR ta ea wa) : ∀ i, i < n → AI (ad i) 1 = R 1 i := h9.2.2.2.2.2.2.2.2.2.2.2.1
theorem AC.c2 {n m P : Nat} {od ad : Nat → Nat} {I : OI} {R : RI} {AL : List Nat} {AI : Nat → OI} {AR : Nat → OO} {ta : Int32} {ea : Option Nat} {wa : OO} (h9 : AC n m P od ad I R AL AI AR ta ea wa) : ∀ i, i < n → AI (ad i) 2 = R 2 i := h9.2.2.2.2.2.2.2.2.2.2.2.2.1
theorem AC.c3 {n m P : Nat} {od ad : Nat → Nat} {I : OI} {R : RI} {AL : List Nat} {AI : Nat → OI} {AR : Nat → OO} {ta : Int32} {ea : Option Nat} {wa : OO} (h9 : AC n m P od ad I R AL AI AR ta ea wa) : ∀ i, i < n → AI (ad i) 3 = R 3 i := h9.2.2.2.2.2.2.2.2.2.2.2.2.2.1
theorem AC.c4 {n m P : Nat} {od ad : Nat → Nat} {I : OI} {R : RI} {AL : List Nat} {AI : Nat → OI} {AR : Nat → OO} {ta : Int32} {ea : Option Nat} {wa : OO} (h9 : AC n m P od ad I R AL AI AR ta ea wa) : ∀ i, i < n → R 0 i ≠ 8 → AI (ad i) 4 = R 4 i := h9.2.2.2.2.2.2.2.2.2.2.2.2.2.2.1
theorem AC.c5 {n m P : Nat} {od ad : Nat → Nat} {I : OI} {R : RI} {AL : List Nat} {AI : Nat → OI} {AR : Nat → OO} {ta : Int32} {ea : Option Nat} {wa : OO} (h9 : AC n m P od ad I R AL AI AR ta ea wa) : ∀ i, i < n → AI (ad i) 5 = R 5 i := h9.2.2.2.2.2.2.2.2.2.2.2.2.2.2.2.1
theorem AC.c6 {n m P : Nat} {od ad : Nat → Nat} {I : OI} {R : RI} {AL : List Nat} {AI : Nat → OI} {AR : Nat → OO} {ta : Int32} {ea : Option Nat} {wa : OO} (h9 : AC n m P od ad I R AL AI AR ta ea wa) : ∀ i, i < n → AI (ad i) 6 = R 6 i := h9.2.2.2.2.2.2.2.2.2.2.2.2.2.2.2.2.1
theorem AC.c7 {n m P : Nat} {od ad : Nat → Nat} {I : OI} {R : RI} {AL : List Nat} {AI : Nat → OI} {AR : Nat → OO} {ta : Int32} {ea : Option Nat} {wa : OO} (h9 : AC n m P od ad I R AL AI AR ta ea wa) : ∀ i, i < n → AI (ad i) 7 = nI i := h9.2.2.2.2.2.2.2.2.2.2.2.2.2.2.2.2.2.1
theorem AC.kd {n m P : Nat} {od ad : Nat → Nat} {I : OI} {R : RI} {AL : List Nat} {AI : Nat → OI} {AR : Nat → OO} {ta : Int32} {ea : Option Nat} {wa : OO} (h9 : AC n m P od ad I R AL AI AR ta ea wa) : ∀ i, i < n → ∃ k, k < 9 ∧ R 0 i = nI k := h9.2.2.2.2.2.2.2.2.2.2.2.2.2.2.2.2.2.2.1
theorem AC.who {n m P : Nat} {od ad : Nat → Nat} {I : OI} {R : RI} {AL : List Nat} {AI : Nat → OI} {AR : Nat → OO} {ta : Int32} {ea : Option Nat} {wa : OO} (h9 : AC n m P od ad I R AL AI AR ta ea wa) : ∀ i, i < n → R 0 i ≠ 8 → ∃ w, w < P ∧ R 3 i = nI w := h9.2.2.2.2.2.2.2.2.2.2.2.2.2.2.2.2.2.2.2.1
theorem AC.oth {n m P : Nat} {od ad : Nat → Nat} {I : OI} {R : RI} {AL : List Nat} {AI : Nat → OI} {AR : Nat → OO} {ta : Int32} {ea : Option Nat} {wa : OO} (h9 : AC n m P od ad I R AL AI AR ta ea wa) : ∀ i, i < n → R 0 i ≠ 8 → PN P (R 4 i) := h9.2.2.2.2.2.2.2.2.2.2.2.2.2.2.2.2.2.2.2.2.1
theorem AC.ot3 {n m P : Nat} {od ad : Nat → Nat} {I : OI} {R : RI} {AL : List Nat} {AI : Nat → OI} {AR : Nat → OO} {ta : Int32} {ea : Option Nat} {wa : OO} (h9 : AC n m P od ad I R AL AI AR ta ea wa) : ∀ i, i < n → R 0 i = 3 ∨ R 0 i = 4 ∨ R 0 i = 6 → ¬ R 4 i = -1 := h9.2.2.2.2.2.2.2.2.2.2.2.2.2.2.2.2.2.2.2.2.2.1
theorem AC.jn {n m P : Nat} {od ad : Nat → Nat} {I : OI} {R : RI} {AL : List Nat} {AI : Nat → OI} {AR : Nat → OO} {ta : Int32} {ea : Option Nat} {wa : OO} (h9 : AC n m P od ad I R AL AI AR ta ea wa) : ∀ i, i < n → R 0 i = 7 → ∃ w o, w < o ∧ o < P ∧ R 3 i = nI w ∧ R 4 i = nI o := h9.2.2.2.2.2.2.2.2.2.2.2.2.2.2.2.2.2.2.2.2.2.2.1
theorem AC.sod {n m P : Nat} {od ad : Nat → Nat} {I : OI} {R : RI} {AL : List Nat} {AI : Nat → OI} {AR : Nat → OO} {ta : Int32} {ea : Option Nat} {wa : OO} (h9 : AC n m P od ad I R AL AI AR ta ea wa) : ∀ i, i < n → ((R 0 i = 7 ∨ R 0 i = 8) ↔ R 2 i = -1) := h9.2.2.2.2.2.2.2.2.2.2.2.2.2.2.2.2.2.2.2.2.2.2.2.1
theorem AC.sk {n m P : Nat} {od ad : Nat → Nat} {I : OI} {R : RI} {AL : List Nat} {AI : Nat → OI} {AR : Nat → OO} {ta : Int32} {ea : Option Nat} {wa : OO} (h9 : AC n m P od ad I R AL AI AR ta ea wa) : ∀ i, i < n → (R 7 i = -1 ∧ AR (ad i) 0 = none) ∨ ∃ z, z < n ∧ R 7 i = nI z ∧ AR (ad i) 0 = some (ad z) := h9.2.2.2.2.2.2.2.2.2.2.2.2.2.2.2.2.2.2.2.2.2.2.2.2.1
theorem AC.odr {n m P : Nat} {od ad : Nat → Nat} {I : OI} {R : RI} {AL : List Nat} {AI : Nat → OI} {AR : Nat → OO} {ta : Int32} {ea : Option Nat} {wa : OO} (h9 : AC n m P od ad I R AL AI AR ta ea wa) : ∀ j, j < m → od j < n ∧ R 8 j = nI (od j) ∧ ∃ k, k < 7 ∧ R 0 (od j) = nI k := h9.2.2.2.2.2.2.2.2.2.2.2.2.2.2.2.2.2.2.2.2.2.2.2.2.2.1
theorem AC.ch {n m P : Nat} {od ad : Nat → Nat} {I : OI} {R : RI} {AL : List Nat} {AI : Nat → OI} {AR : Nat → OO} {ta : Int32} {ea : Option Nat} {wa : OO} (h9 : AC n m P od ad I R AL AI AR ta ea wa) : ∀ j, j < m → AR (ad (od j)) 1 = if j + 1 < m then some (ad (od (j + 1))) else none := h9.2.2.2.2.2.2.2.2.2.2.2.2.2.2.2.2.2.2.2.2.2.2.2.2.2.2.1
theorem AC.hd {n m P : Nat} {od ad : Nat → Nat} {I : OI} {R : RI} {AL : List Nat} {AI : Nat → OI} {AR : Nat → OO} {ta : Int32} {ea : Option Nat} {wa : OO} (h9 : AC n m P od ad I R AL AI AR ta ea wa) : ea = if 0 < m then some (ad (od 0)) else none := h9.2.2.2.2.2.2.2.2.2.2.2.2.2.2.2.2.2.2.2.2.2.2.2.2.2.2.2.1
theorem AC.srt {n m P : Nat} {od ad : Nat → Nat} {I : OI} {R : RI} {AL : List Nat} {AI : Nat → OI} {AR : Nat → OO} {ta : Int32} {ea : Option Nat} {wa : OO} (h9 : AC n m P od ad I R AL AI AR ta ea wa) : ∀ i j, i ≤ j → j < m → R 2 (od i) ≤ R 2 (od j) := h9.2.2.2.2.2.2.2.2.2.2.2.2.2.2.2.2.2.2.2.2.2.2.2.2.2.2.2.2
variable {n m P : Nat} {od ad : Nat → Nat} {I : OI} {R : RI} {AL : List Nat} {AI : Nat → OI} {AR : Nat → OO} {ta : Int32} {ea : Option Nat} {wa : OO}
/-- is it looked at, as known on day k -/
abbrev kn (R : RI) (k : Int32) (i : Nat) : Prop := R 1 i ≤ k ∧ (R 7 i = -1 ∨ k < R 1 (R 7 i).toNatClampNeg)
theorem known_m (A : AC n m P od ad I R AL AI AR ta ea wa) {J : OI} (k : Int32) {i : Nat} (hi : i < n) : f_X6_isKnown J R (nI i) k = some (if kn R k i then 1 else 0) := by
  have hn := A.n150
  unfold f_X6_isKnown
  rw [og_nI (by omega) (by omega), nI_tn (by omega), og_nI (by omega) (by omega), og_nI (by omega) (by omega)]
  by_cases h1 : k < R 1 i
  · rw [if_pos h1, if_neg (show ¬ kn R k i from fun h => Int32.not_le.mpr h1 h.1)]
  · have h1' := Int32.not_lt.mp h1
    rw [if_neg h1]
    rcases A.sk i hi with ⟨h2, -⟩ | ⟨z, hz, h2, -⟩
    · rw [if_pos h2, if_pos (show kn R k i from ⟨h1', Or.inl h2⟩)]
    · by_cases h3 : R 1 z ≤ k
      · rw [if_neg (show ¬ kn R k i from ?_), h2, if_neg (nI_m1 (by omega)), og_nI (by omega) (by omega), nI_tn (by omega), if_pos h3]
        rintro ⟨-, h4 | h4⟩
        · rw [h2] at h4; exact nI_m1 (by omega) h4
        · rw [h2, nI_tn (by omega)] at h4; exact Int32.not_lt.mpr h3 h4
      · rw [if_pos (show kn R k i from ⟨h1', Or.inr (by rw [h2, nI_tn (by omega)]; exact Int32.not_le.mp h3)⟩), h2, if_neg (nI_m1 (by omega)), og_nI (by omega) (by omega), nI_tn (by omega), if_neg h3]
theorem known_c (A : AC n m P od ad I R AL AI AR ta ea wa) (k : Int32) {i : Nat} (hi : i < n) : f_X0_isKnownOn AL AI AR (ad i) k = some (if kn R k i then 1 else 0) := by
  have hn := A.n150
  unfold f_X0_isKnownOn
  simp only [om_mem (A.al i hi), A.c1 i hi]
  by_cases h1 : k < R 1 i
  · rw [if_pos h1, if_neg (show ¬ kn R k i from fun h => Int32.not_le.mpr h1 h.1)]
  · have h1' := Int32.not_lt.mp h1
    rw [if_neg h1]
    rcases A.sk i hi with ⟨h2, h5⟩ | ⟨z, hz, h2, h5⟩
    · rw [h5, oc_none, if_pos (show kn R k i from ⟨h1', Or.inl h2⟩)]
    · rw [h5, oc_some, oq_some, om_mem (A.al z hz), A.c1 z hz]
      by_cases h3 : R 1 z ≤ k
      · rw [if_pos h3, if_neg (show ¬ kn R k i from ?_)]
        rintro ⟨-, h4 | h4⟩
        · rw [h2] at h4; exact nI_m1 (by omega) h4
        · rw [h2, nI_tn (by omega)] at h4; exact Int32.not_lt.mpr h3 h4
      · rw [if_neg h3, if_pos (show kn R k i from ⟨h1', Or.inr (by rw [h2, nI_tn (by omega)]; exact Int32.not_le.mp h3)⟩)]
/-- only the rows of the land and of the leads -/
def SameQ (R R' : RI) : Prop := ∀ c, ¬ (11 ≤ c ∧ c ≤ 19) → R' c = R c
theorem SameQ.rf : SameQ R R := fun _ _ => rfl
theorem SameQ.up {R0 R1 : RI} (h : SameQ R0 R1) {mc : Nat} (hm : 11 ≤ mc ∧ mc ≤ 19) (g : Nat → Int32) : SameQ R0 (va_up R1 mc g) := fun c hc => by
  have : c ≠ mc := fun e => hc (e ▸ hm)
  rw [up_ne this]
  exact h c hc
/-- the first j of the model's rows are laid anew -/
abbrev RS (j : Nat) (R0 R : RI) : Prop := (SameQ R0 R) ∧ (∀ i, i < j → R 11 i = -1) ∧ (∀ i, i < j → R 12 i = 0) ∧ (∀ i, i < j → R 13 i = -1) ∧ (∀ i, i < j → R 14 i = -1) ∧ (∀ i, i < j → R 15 i = -1) ∧ (∀ i, i < j → R 16 i = -1) ∧ (∀ i, i < j → R 17 i = -1) ∧ (∀ i, i < j → R 18 i = -1) ∧ (∀ i, i < j → R 19 i = 0)
theorem RS.sq {j : Nat} {R0 R : RI} (h9 : RS j R0 R) : SameQ R0 R := h9.1
theorem RS.r11 {j : Nat} {R0 R : RI} (h9 : RS j R0 R) : ∀ i, i < j → R 11 i = -1 := h9.2.1
theorem RS.r12 {j : Nat} {R0 R : RI} (h9 : RS j R0 R) : ∀ i, i < j → R 12 i = 0 := h9.2.2.1
theorem RS.r13 {j : Nat} {R0 R : RI} (h9 : RS j R0 R) : ∀ i, i < j → R 13 i = -1 := h9.2.2.2.1
theorem RS.r14 {j : Nat} {R0 R : RI} (h9 : RS j R0 R) : ∀ i, i < j → R 14 i = -1 := h9.2.2.2.2.1
theorem RS.r15 {j : Nat} {R0 R : RI} (h9 : RS j R0 R) : ∀ i, i < j → R 15 i = -1 := h9.2.2.2.2.2.1
theorem RS.r16 {j : Nat} {R0 R : RI} (h9 : RS j R0 R) : ∀ i, i < j → R 16 i = -1 := h9.2.2.2.2.2.2.1
theorem RS.r17 {j : Nat} {R0 R : RI} (h9 : RS j R0 R) : ∀ i, i < j → R 17 i = -1 := h9.2.2.2.2.2.2.2.1
theorem RS.r18 {j : Nat} {R0 R : RI} (h9 : RS j R0 R) : ∀ i, i < j → R 18 i = -1 := h9.2.2.2.2.2.2.2.2.1
theorem RS.r19 {j : Nat} {R0 R : RI} (h9 : RS j R0 R) : ∀ i, i < j → R 19 i = 0 := h9.2.2.2.2.2.2.2.2.2
theorem RS.step {j : Nat} {R0 R : RI} (h : RS j R0 R) : RS (j + 1) R0 (va_up (va_up (va_up (va_up (va_up (va_up (va_up (va_up (va_up R 11 (upd (R 11) j (-1))) 12 (upd (R 12) j 0)) 13 (upd (R 13) j (-1))) 14 (upd (R 14) j (-1))) 15 (upd (R 15) j (-1))) 16 (upd (R 16) j (-1))) 17 (upd (R 17) j (-1))) 18 (upd (R 18) j (-1))) 19 (upd (R 19) j 0)) := by
  refine ⟨?_, ?_, ?_, ?_, ?_, ?_, ?_, ?_, ?_, ?_⟩
  · exact ((((((((h.sq.up (by omega) _).up (by omega) _).up (by omega) _).up (by omega) _).up (by omega) _).up (by omega) _).up (by omega) _).up (by omega) _).up (by omega) _
  all_goals
    intro i hi
    by_cases e : i = j
    · subst e; simp [va_up, upd]
    · have hi' : i < j := by omega
      simp [va_up, upd, e, h.r11 i hi', h.r12 i hi', h.r13 i hi', h.r14 i hi', h.r15 i hi', h.r16 i hi', h.r17 i hi', h.r18 i hi', h.r19 i hi']
theorem reset_m {N : Nat} {J : OI} {x1 x2 : Int32} {R0 : RI} : ∀ (c j : Nat) (R : RI) (f : Nat), j + c = 24 → RS j R0 R → c < f → ∃ R', f_X6_goThrough_l2 N J f R x1 x2 (nI j) = f_X6_goThrough_l79 N J N R' x1 x2 0 ∧ RS 24 R0 R'
  | 0, j, R, f, hj, h, hf => by
    obtain ⟨f, rfl⟩ : ∃ g, f = g + 1 := ⟨f - 1, by omega⟩
    obtain rfl : j = 24 := by omega
    refine ⟨R, ?_, h⟩
    show f_X6_goThrough_l2b N J (f_X6_goThrough_l2 N J f) R x1 x2 (nI 24) = _
    unfold f_X6_goThrough_l2b
    rw [if_pos (by decide)]
  | c + 1, j, R, f, hj, h, hf => by
    obtain ⟨f, rfl⟩ : ∃ g, f = g + 1 := ⟨f - 1, by omega⟩
    obtain ⟨R', h1, h2⟩ := reset_m (N := N) (J := J) (x1 := x1) (x2 := x2) c (j + 1) _ f (by omega) h.step (by omega)
    refine ⟨R', ?_, h2⟩
    rw [← h1]
    show f_X6_goThrough_l2b N J (f_X6_goThrough_l2 N J f) R x1 x2 (nI j) = _
    unfold f_X6_goThrough_l2b
    have hj24 : j < 24 := by omega
    rw [if_neg (by rw [show (24 : Int32) = nI 24 from rfl, n_le (by omega) (by omega)]; omega)]
    simp only [og_nI hj24 (show 24 < 2147483648 by omega), nI_tn (bd4 hj24), ol_eq, nI_s9, nar_0]
    simp [va_up]
theorem AC.sq {R' : RI} (h : SameQ R R') (A : AC n m P od ad I R AL AI AR ta ea wa) : AC n m P od ad I R' AL AI AR ta ea wa := by
  have e0 := h 0 (by omega)
  have e1 := h 1 (by omega)
  have e2 := h 2 (by omega)
  have e3 := h 3 (by omega)
  have e4 := h 4 (by omega)
  have e5 := h 5 (by omega)
  have e6 := h 6 (by omega)
  have e7 := h 7 (by omega)
  have e8 := h 8 (by omega)
  exact ⟨A.n150, A.mn, A.P24, A.iP, A.i2, A.i3, A.tan, A.al, A.inj, A.war, by simpa only [e0, e1, e2, e3, e4, e5, e6, e7, e8] using A.c0, by simpa only [e0, e1, e2, e3, e4, e5, e6, e7, e8] using A.c1, by simpa only [e0, e1, e2, e3, e4, e5, e6, e7, e8] using A.c2, by simpa only [e0, e1, e2, e3, e4, e5, e6, e7, e8] using A.c3, by simpa only [e0, e1, e2, e3, e4, e5, e6, e7, e8] using A.c4, by simpa only [e0, e1, e2, e3, e4, e5, e6, e7, e8] using A.c5, by simpa only [e0, e1, e2, e3, e4, e5, e6, e7, e8] using A.c6, by simpa only [e0, e1, e2, e3, e4, e5, e6, e7, e8] using A.c7, by simpa only [e0, e1, e2, e3, e4, e5, e6, e7, e8] using A.kd, by simpa only [e0, e1, e2, e3, e4, e5, e6, e7, e8] using A.who, by simpa only [e0, e1, e2, e3, e4, e5, e6, e7, e8] using A.oth, by simpa only [e0, e1, e2, e3, e4, e5, e6, e7, e8] using A.ot3, by simpa only [e0, e1, e2, e3, e4, e5, e6, e7, e8] using A.jn, by simpa only [e0, e1, e2, e3, e4, e5, e6, e7, e8] using A.sod, by simpa only [e0, e1, e2, e3, e4, e5, e6, e7, e8] using A.sk, by simpa only [e0, e1, e2, e3, e4, e5, e6, e7, e8] using A.odr, A.ch, A.hd, by simpa only [e0, e1, e2, e3, e4, e5, e6, e7, e8] using A.srt⟩
theorem kn_sq {R' : RI} (h : SameQ R R') {k : Int32} {i : Nat} : kn R' k i ↔ kn R k i := by
  unfold kn
  rw [h 1 (by omega), h 7 (by omega)]
/-- while the joinings are gone through -/
abbrev JR (P : Nat) (R Rk : RI) : Prop := (LdOK (R 11)) ∧ (∀ p, P ≤ p → p < 24 → R 11 p = -1) ∧ (∀ p, p < 24 → Rk 0 p = if R 11 p = -1 then nI p else R 11 p)
theorem JR.ld {P : Nat} {R Rk : RI} (h9 : JR P R Rk) : LdOK (R 11) := h9.1
theorem JR.np {P : Nat} {R Rk : RI} (h9 : JR P R Rk) : ∀ p, P ≤ p → p < 24 → R 11 p = -1 := h9.2.1
theorem JR.mt {P : Nat} {R Rk : RI} (h9 : JR P R Rk) : ∀ p, p < 24 → Rk 0 p = if R 11 p = -1 then nI p else R 11 p := h9.2.2
theorem JR.step {Rk : RI} (h : JR P R Rk) {w o : Nat} (hw : w < o) (ho : o < P) (hP : P ≤ 24) : JR P (va_up R 11 (upd (R 11) o (nI w))) (va_up Rk 0 (upd (Rk 0) o (nI w))):= by
  refine ⟨?_, ?_, ?_⟩
  · exact by
      intro j hj
      rw [up_same]
      by_cases e : j = o
      · subst e; rw [upd_same]; exact Or.inr ⟨w, hw, rfl⟩
      · rw [upd_ne e]; exact h.ld j hj
  · exact fun p h1 h2 => by rw [up_same, upd_ne (by omega)]; exact h.np p h1 h2
  · exact fun p hp => by
      rw [up_same, up_same]
      by_cases e : p = o
      · subst e; rw [upd_same, upd_same, if_neg (nI_m1 (by omega))]
      · rw [upd_ne e, upd_ne e]; exact h.mt p hp
theorem joins_both (N : Nat) {Ik : OI} {cm : Option Nat} {x1 x2 : Int32} (hk : Ik 1 = x2) : ∀ (c j : Nat) (R Rk : RI) (f g : Nat), AC n m P od ad I R AL AI AR ta ea wa → j + c = n → JR P R Rk → c < f → c < g →
    ∃ R' Rk', f_X6_goThrough_l79 N I f R x1 x2 (nI j) = f_X6_goThrough_l132 N I N R' x1 x2 0 ∧ f_X2_joinDoubles_l2 N AL Ik cm ta ea wa AI AR g Rk (nI j) = f_X2_joinDoubles_l63 N AL Ik cm ta ea wa AI AR N Rk' 0 ∧ JR P R' Rk' ∧ (∀ c, c ≠ 11 → R' c = R c) ∧ (∀ c, c ≠ 0 → Rk' c = Rk c)
  | 0, j, R, Rk, f, g, A, hj, h, hf, hg => by
    obtain ⟨f, rfl⟩ : ∃ z, f = z + 1 := ⟨f - 1, by omega⟩
    obtain ⟨g, rfl⟩ : ∃ z, g = z + 1 := ⟨g - 1, by omega⟩
    obtain rfl : j = n := by omega
    have hn := A.n150
    refine ⟨R, Rk, ?_, ?_, h, fun _ _ => rfl, fun _ _ => rfl⟩
    · show f_X6_goThrough_l79b N I (f_X6_goThrough_l79 N I f) R x1 x2 (nI j) = _
      unfold f_X6_goThrough_l79b
      rw [A.i2, if_pos ((n_le (by omega) (by omega)).mpr (Nat.le_refl _))]
    · show f_X2_joinDoubles_l2b N AL Ik cm ta ea wa AI AR (f_X2_joinDoubles_l2 N AL Ik cm ta ea wa AI AR g) Rk (nI j) = _
      unfold f_X2_joinDoubles_l2b
      rw [if_pos (by rw [A.tan]; exact (n_le (by omega) (by omega)).mpr (Nat.le_refl _))]
  | c + 1, j, R, Rk, f, g, A, hj, h, hf, hg => by
    obtain ⟨f, rfl⟩ : ∃ z, f = z + 1 := ⟨f - 1, by omega⟩
    obtain ⟨g, rfl⟩ : ∃ z, g = z + 1 := ⟨g - 1, by omega⟩
    have hn := A.n150
    have hjn : j < n := by omega
    have hP := A.P24
    -- what this act does
    have hm : f_X6_goThrough_l79 N I (f + 1) R x1 x2 (nI j) = f_X6_goThrough_l79 N I f (if R 0 j = 7 ∧ kn R x2 j then va_up R 11 (upd (R 11) (R 4 j).toNatClampNeg (R 3 j)) else R) x1 x2 (nI (j + 1)) := by
      show f_X6_goThrough_l79b N I (f_X6_goThrough_l79 N I f) R x1 x2 (nI j) = _
      unfold f_X6_goThrough_l79b
      rw [A.i2, if_neg (fun e => by have := (n_le (by omega) (by omega)).mp e; omega)]
      simp only [og_nI (show j < 150 by omega) (show 150 < 2147483648 by omega), nI_tn (show j < 2147483648 by omega), ol_eq, nI_s9, known_m A x2 hjn, ob1_ite]
      by_cases h7 : R 0 j = 7
      · rw [if_pos h7, if_neg one0, if_pos trivial]
        by_cases hkn : kn R x2 j
        · obtain ⟨w, o, hw, ho, e3, e4⟩ := A.jn j hjn h7
          rw [if_pos hkn, if_pos ⟨h7, hkn⟩, e3, e4, og_nI (show o < 24 by omega) (by omega)]
        · rw [if_neg hkn, if_neg (fun e => hkn e.2)]
      · rw [if_neg h7, if_neg (fun e => h7 e.1)]
    have hc : f_X2_joinDoubles_l2 N AL Ik cm ta ea wa AI AR (g + 1) Rk (nI j) = f_X2_joinDoubles_l2 N AL Ik cm ta ea wa AI AR g (if R 0 j = 7 ∧ kn R x2 j then va_up Rk 0 (putv 24 (Rk 0) (R 4 j) (R 3 j)) else Rk) (nI (j + 1)) := by
      show f_X2_joinDoubles_l2b N AL Ik cm ta ea wa AI AR (f_X2_joinDoubles_l2 N AL Ik cm ta ea wa AI AR g) Rk (nI j) = _
      unfold f_X2_joinDoubles_l2b f_X1_find
      have hfi : (if nI j < 0 then some none else if 150 ≤ nI j then some none else og (nI j) 150 (some (wa (nI j).toNatClampNeg))) = some (some (ad j)) := by
        rw [if_neg (nI_nn (by omega)), if_neg (by rw [show (150 : Int32) = nI 150 from rfl, n_le (by omega) (by omega)]; omega), og_nI (by omega) (by omega), nI_tn (by omega), A.war j (by omega), if_pos hjn]
      rw [if_neg (fun e => by rw [A.tan] at e; have := (n_le (by omega) (by omega)).mp e; omega), hfi, ob1_some, oc_some, om_mem (A.al j hjn), A.c0 j hjn]
      simp only [om_mem (A.al j hjn), hk, known_c A x2 hjn, ob1_ite, ol_eq, nI_s9]
      by_cases h7 : R 0 j = 7
      · rw [if_pos h7, if_neg one0, if_pos trivial, A.c3 j hjn, A.c4 j hjn (by rw [h7]; decide)]
        by_cases hkn : kn R x2 j
        · rw [if_pos hkn, if_pos ⟨h7, hkn⟩]
        · rw [if_neg hkn, if_neg (fun e => hkn e.2)]
      · rw [if_neg h7, if_neg (fun e => h7 e.1)]
    by_cases hh : R 0 j = 7 ∧ kn R x2 j
    · obtain ⟨w, o, hw, ho, e3, e4⟩ := A.jn j hjn hh.1
      rw [if_pos hh, e3, e4, nI_tn (by omega)] at hm
      rw [if_pos hh, e3, e4, putv_nI (by omega) (by omega)] at hc
      obtain ⟨R', Rk', h1, h2, h3, h4, h5⟩ := joins_both N hk c (j + 1) _ _ f g (A.sq (SameQ.rf.up (by omega) _)) (by omega) (h.step hw ho hP) (by omega) (by omega)
      exact ⟨R', Rk', hm.trans h1, hc.trans h2, h3, fun c hc => (h4 c hc).trans (up_ne hc), fun c hc => (h5 c hc).trans (up_ne hc)⟩
    · rw [if_neg hh] at hm hc
      obtain ⟨R', Rk', h1, h2, h3, h4, h5⟩ := joins_both N hk c (j + 1) _ _ f g A (by omega) h (by omega) (by omega)
      exact ⟨R', Rk', hm.trans h1, hc.trans h2, h3, h4, h5⟩
end PA
