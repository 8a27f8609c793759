/-! ===== PURE: what holds between any two calls ===== -/
section PIn
abbrev RLT : Type := Nat × (Nat → Nat) × Nat × OI × RI
/-- the messages of a roll, among the first M -/
def msgs (R : RI) (r : Nat) : Nat → List Int32
  | 0 => []
  | M + 1 => msgs R r M ++ (if R 25 M = nI r then [R 26 M] else [])
def anewF (p : Nat) (acc x : Int32) : Int32 := if x / 1000 = nI p then (if x - x / 10 * 10 = 2 then -1 else (x - x / 1000 * 1000) / 10) else acc
def anew (L : List Int32) (p : Nat) : Int32 := L.foldl (anewF p) (-1)
theorem msgs_c {R R' : RI} (h5 : R' 25 = R 25) (h6 : R' 26 = R 26) (r : Nat) : ∀ M, msgs R' r M = msgs R r M
  | 0 => rfl
  | M + 1 => by
    show msgs R' r M ++ (if R' 25 M = nI r then [R' 26 M] else []) = msgs R r M ++ (if R 25 M = nI r then [R 26 M] else [])
    rw [msgs_c h5 h6 r M, h5, h6]
theorem msgs_len (R : RI) (r : Nat) : ∀ M, (msgs R r M).length ≤ M
  | 0 => Nat.le_refl 0
  | M + 1 => by
    show (msgs R r M ++ (if R 25 M = nI r then [R 26 M] else [])).length ≤ M + 1
    rw [List.length_append]
    have := msgs_len R r M
    split
    · simp only [List.length_cons, List.length_nil]; omega
    · simp only [List.length_nil]; omega
abbrev RO1 (R : RI) (M i : Nat) (nr : Nat) (Ir : OI) (Rr : RI) : Prop := Ir 0 = R 22 i ∧ Ir 1 = R 23 i ∧ (∃ k, k < 4 ∧ R 22 i = nI k) ∧ (∃ k, k < 4 ∧ R 23 i = nI k) ∧ (∀ p, p < 24 → Rr 0 p = R 24 (24 * i + p)) ∧ Ir 2 = nI (msgs R i M).length ∧ 24 ≤ nr ∧ nr ≤ 12288 ∧ (msgs R i M).length ≤ nr ∧ (∀ j, j < (msgs R i M).length → (msgs R i M)[j]? = some (Rr 1 j)) ∧ (∀ p, p < 24 → anew (msgs R i M) p = R 24 (24 * i + p)) ∧ (∀ p, p < 24 → R 24 (24 * i + p) = -1 ∨ ∃ h, h < 16 ∧ R 24 (24 * i + p) = nI h)
abbrev RO (t : Nat) (Ix I : OI) (R : RI) (rs : OO) (RL : List RLT) : Prop := ∃ M, M ≤ 24 * t ∧ I 8 = nI M ∧ RL.length ≤ 5 ∧ I 7 = nI RL.length ∧ Ix 2 = nI RL.length ∧ (∀ i, i < 5 → rs i = (RL[i]?).map (fun e => e.1)) ∧ (∀ i e, RL[i]? = some e → RO1 R M i e.2.2.1 e.2.2.2.1 e.2.2.2.2) ∧ (∀ j, j < M → ∃ i, i < RL.length ∧ R 25 j = nI i) ∧ (∀ i p, RL.length ≤ i → i < 5 → p < 24 → R 24 (24 * i + p) = -1)
theorem RO.sq {t t' : Nat} {Ix Ix' I I' : OI} {R R' : RI} {rs : OO} {RL : List RLT} (h : RO t Ix I R rs RL) (ht : t ≤ t') (h7 : I' 7 = I 7) (h8 : I' 8 = I 8) (hx : Ix' 2 = Ix 2) (hr : ∀ c, 22 ≤ c → c ≤ 26 → R' c = R c) : RO t' Ix' I' R' rs RL := by
  obtain ⟨M, h1, h2, h3, h4, h5, h6, h9, h10, h11⟩ := h
  refine ⟨M, by omega, h8.trans h2, h3, h7.trans h4, hx.trans h5, h6, fun i e he => ?_, by rw [hr 25 (by omega) (by omega)]; exact h10, by rw [hr 24 (by omega) (by omega)]; exact h11⟩
  have hm := msgs_c (hr 25 (by omega) (by omega)) (hr 26 (by omega) (by omega)) i M
  have e22 := hr 22 (by omega) (by omega)
  have e23 := hr 23 (by omega) (by omega)
  have e24 := hr 24 (by omega) (by omega)
  show RO1 R' M i e.2.2.1 e.2.2.2.1 e.2.2.2.2
  unfold RO1
  rw [hm, e22, e23, e24]
  exact h9 i e he
abbrev BA (Rx R : RI) : Prop := (∀ j, j < 24 → Rx 0 j = R 27 j) ∧ (∀ j, j < 24 → Rx 1 j = R 28 j) ∧ (∀ j, j < 24 → R 27 j = 0 ∨ R 27 j = 1)
abbrev NB (g P : Nat) (R : RI) : Prop := (∀ j, j < g → R 9 j = nI (10 * ser (j + 1) + chk (ser (j + 1)))) ∧ (∀ p, p < P → ∃ j, j < g ∧ R 10 j = nI p)
/-- what holds between any two calls, after t of them -/
abbrev IVc (N t n m P d g : Nat) (od ad : Nat → Nat) (Ix : OI) (Rx : RI) (ta : Int32) (ea : Option Nat) (wa : OO) (Ik : OI) (Rk : RI) (cmk : Option Nat) (In : OI) (Rn : RI) (AL : List Nat) (AI : Nat → OI) (AR : Nat → OO) (rs : OO) (RL : List RLT) (I : OI) (R : RI) : Prop :=
  AC n m P od ad I R AL AI AR ta ea wa ∧ AX n d R ∧ (I 1 = nI d ∧ Ix 0 = nI d ∧ Ix 1 = nI P ∧ Ik 0 = nI d ∧ cmk = none) ∧ KI N AL ta ea wa AI AR d Rk ∧ NumR g I R In Rn ∧ NB g P R ∧ BA Rx R ∧ RO t Ix I R rs RL
def IV (N t : Nat) (Ix : OI) (Rx : RI) (ta : Int32) (ea : Option Nat) (wa : OO) (Ik : OI) (Rk : RI) (cmk : Option Nat) (In : OI) (Rn : RI) (AL : List Nat) (AI : Nat → OI) (AR : Nat → OO) (rs : OO) (RL : List RLT) (I : OI) (R : RI) : Prop :=
  ∃ n m P d g od ad, IVc N t n m P d g od ad Ix Rx ta ea wa Ik Rk cmk In Rn AL AI AR rs RL I R
theorem LEq.nine {Ra Rb : RI} (h : ∀ c, c ≠ 9 → Rb c = Ra c) : LEq Ra Rb := fun c hc j _ => by rw [h c (by omega)]
/-- what is only asked changes nothing -/
theorem IV.ask {N t n m P d g : Nat} {od ad : Nat → Nat} {Ix : OI} {Rx : RI} {ta : Int32} {ea : Option Nat} {wa : OO} {Ik : OI} {Rk Rk' : RI} {cmk : Option Nat} {In : OI} {Rn : RI} {AL : List Nat} {AI : Nat → OI} {AR : Nat → OO} {rs : OO} {RL : List RLT} {I I' : OI} {R R' : RI} (h : IVc N t n m P d g od ad Ix Rx ta ea wa Ik Rk cmk In Rn AL AI AR rs RL I R) (hI : ∀ c, c ≠ 0 → I' c = I c) (hR : ∀ c, ¬ (11 ≤ c ∧ c ≤ 21) → R' c = R c) (hk : LEq Rk Rk') : IV N (t + 1) Ix Rx ta ea wa Ik Rk' cmk In Rn AL AI AR rs RL I' R' := by
  obtain ⟨A, X, ⟨d1, d2, d3, d4, d5⟩, K, NR, nb, ba, ro⟩ := h
  obtain ⟨ik, rk, ck, k1, k2⟩ := K
  obtain ⟨n1, n2, n3, n4, n5, n6, n7⟩ := NR
  refine ⟨n, m, P, d, g, od, ad, ac_sq9 A (hI 2 (by omega)) (hI 3 (by omega)) (hI 4 (by omega)) (fun c hc => hR c (by omega)), X.sq (fun c hc => hR c (by omega)), ⟨(hI 1 (by omega)).trans d1, d2, d3, d4, d5⟩, ⟨ik, rk, ck, k1, k2.trans hk⟩, ⟨n1, (hI 5 (by omega)).trans n2, (hI 6 (by omega)).trans n3, n4, n5, ?_, ?_⟩, ⟨?_, ?_⟩, ⟨?_, ?_, ?_⟩, ro.sq (by omega) (hI 7 (by omega)) (hI 8 (by omega)) rfl (fun c h1 h2 => hR c (by omega))⟩
  · rw [hR 9 (by omega)]; exact n6
  · rw [hR 10 (by omega)]; exact n7
  · rw [hR 9 (by omega)]; exact nb.1
  · rw [hR 10 (by omega)]; exact nb.2
  · rw [hR 27 (by omega)]; exact ba.1
  · rw [hR 28 (by omega)]; exact ba.2.1
  · rw [hR 27 (by omega)]; exact ba.2.2
/-- the answers' codes: what was thrown against what was refused -/
abbrev CRel (L : List (Nat × Nat)) (k : Nat) (y : Int32) : Prop := (k = 0 ∧ y = 0) ∨ ∃ a b, (a, b) ∈ L ∧ k = a ∧ y = nI b
abbrev e123 : List (Nat × Nat) := [(1, 1), (2, 2), (3, 3)]
abbrev e12 : List (Nat × Nat) := [(1, 1), (2, 2)]
abbrev e1 : List (Nat × Nat) := [(1, 1)]
abbrev e2 : List (Nat × Nat) := [(2, 1)]
abbrev e13 : List (Nat × Nat) := [(1, 1), (3, 2)]
abbrev e23 : List (Nat × Nat) := [(2, 1), (3, 2)]
section cases
theorem refused_0 {R : RI} {I : OI} : f_X6_refused R I 0 = some (0, va_up I 0 0) := rfl
theorem refused_1 {R : RI} {I : OI} : f_X6_refused R I 1 = some (1, va_up I 0 1) := by
  unfold f_X6_refused
  rw [ol_eq, if_neg (by decide)]
theorem refused_2 {R : RI} {I : OI} : f_X6_refused R I 2 = some (1, va_up I 0 2) := by
  unfold f_X6_refused
  rw [ol_eq, if_neg (by decide)]
theorem refused_3 {R : RI} {I : OI} : f_X6_refused R I 3 = some (1, va_up I 0 3) := by
  unfold f_X6_refused
  rw [ol_eq, if_neg (by decide)]
theorem ob2_mk {P1 P2 O : Type} {a : P1} {b : P2} {K : P1 → P2 → Option O} : ob2 (some (a, b)) K = K a b := rfl
theorem ob3_mk {P1 P2 P3 O : Type} {a : P1} {b : P2} {c : P3} {K : P1 → P2 → P3 → Option O} : ob3 (some (a, b, c)) K = K a b c := rfl
theorem obc_0 {O : Type} {T : Nat → O} {K : Option O} : obc (some 0) T K = K := rfl
theorem obc_1 {O : Type} {T : Nat → O} {K : Option O} : obc (some 1) T K = some (T 1) := rfl
theorem obc_2 {O : Type} {T : Nat → O} {K : Option O} : obc (some 2) T K = some (T 2) := rfl
theorem obc_3 {O : Type} {T : Nat → O} {K : Option O} : obc (some 3) T K = some (T 3) := rfl
/-- a number in a range or not, for both -/
theorem within_c {a b : Nat} (hb : b < 2147483648) (ha : a ≤ b) (x : Int32) : (∃ v, a ≤ v ∧ v ≤ b ∧ x = nI v ∧ f_X6_within x (nI a) (nI b) = some 1 ∧ f_X5_requireWithin x (nI a) (nI b) = some 0) ∨ (f_X6_within x (nI a) (nI b) = some 0 ∧ f_X5_requireWithin x (nI a) (nI b) = some 2) := by
  unfold f_X6_within f_X5_requireWithin f_X5_requireWithin_j10
  by_cases h1 : x < nI a
  · exact Or.inr ⟨by rw [if_pos h1], by rw [if_pos h1]⟩
  · by_cases h2 : nI b < x
    · exact Or.inr ⟨by rw [if_neg h1, if_pos h2], by rw [if_neg h1, if_neg (Int32.not_le.mpr h2)]⟩
    · have h3 := Int32.not_lt.mp h1
      have h4 := Int32.not_lt.mp h2
      rw [Int32.le_iff_toInt_le, n_ti (by omega)] at h3 h4
      refine Or.inl ⟨x.toInt.toNat, by omega, by omega, ?_, by rw [if_neg h1, if_neg h2], by rw [if_neg h1, if_pos (Int32.not_lt.mp h2)]⟩
      rw [← Int32.toInt_inj, n_ti (by omega)]
      omega
theorem below_c {b : Nat} (hb : b < 2147483648) (x : Int32) : (∃ v, v < b ∧ x = nI v) ∨ (x < 0 ∨ nI b ≤ x) := by
  by_cases h1 : x < 0
  · exact Or.inr (Or.inl h1)
  · by_cases h2 : x < nI b
    · obtain ⟨v, hv, e⟩ := n_of h1 h2 hb
      exact Or.inl ⟨v, hv, e⟩
    · exact Or.inr (Or.inr (Int32.not_lt.mp h2))
theorem within_0 {x : Int32} {y : Int32} (h : x < 0 ∨ y < x) : f_X6_within x 0 y = some 0 := by
  unfold f_X6_within
  rcases h with h | h
  · rw [if_pos h]
  · by_cases h1 : x < 0
    · rw [if_pos h1]
    · rw [if_neg h1, if_pos h]
theorem within_1 {v b : Nat} (hv : v ≤ b) (hb : b < 2147483648) : f_X6_within (nI v) 0 (nI b) = some 1 := by
  unfold f_X6_within
  rw [if_neg (nI_nn (by omega)), if_neg (fun e => by have := (n_lt (by omega) (by omega)).mp e; omega)]
/-- one of the first P -/
theorem first_m {x : Int32} {P : Nat} (hP : P < 2147483648) : (∃ p, p < P ∧ x = nI p ∧ f_X6_within x 0 (nI P - 1) = some 1) ∨ ((x < 0 ∨ nI P ≤ x) ∧ f_X6_within x 0 (nI P - 1) = some 0) := by
  cases P with
  | zero =>
    refine Or.inr ?_
    have e : nI 0 - 1 = (-1 : Int32) := by decide
    rw [e]
    by_cases h : x < 0
    · exact ⟨Or.inl h, within_0 (Or.inl h)⟩
    · have h' := Int32.not_lt.mp h
      refine ⟨Or.inr h', within_0 (Or.inr ?_)⟩
      rw [Int32.lt_iff_toInt_lt]
      rw [Int32.le_iff_toInt_le] at h'
      have e1 : (-1 : Int32).toInt = -1 := by decide
      have e2 : (0 : Int32).toInt = 0 := by decide
      omega
  | succ P =>
    rw [nI_p1]
    rcases below_c (b := P + 1) hP x with ⟨v, hv, e⟩ | h
    · exact Or.inl ⟨v, hv, e, by rw [e]; exact within_1 (by omega) (by omega)⟩
    · refine Or.inr ⟨h, within_0 (h.imp id fun h => ?_)⟩
      rw [Int32.lt_iff_toInt_lt]
      rw [Int32.le_iff_toInt_le, n_ti (by omega)] at h
      rw [n_ti (by omega)]
      omega
theorem person_c {P : Nat} (hP : P ≤ 24) {I Ix : OI} {R Rx : RI} (h4 : I 4 = nI P) (hx : Ix 1 = nI P) (x : Int32) : (∃ p, p < P ∧ x = nI p ∧ f_X6_isPerson I R x = some 1 ∧ f_X5_requirePerson Ix Rx x = some 0) ∨ ((x < 0 ∨ nI P ≤ x) ∧ f_X6_isPerson I R x = some 0 ∧ f_X5_requirePerson Ix Rx x = some 1) := by
  unfold f_X6_isPerson f_X5_requirePerson f_X5_requirePerson_j12
  rw [h4, hx]
  rcases first_m (x := x) (P := P) (by omega) with ⟨p, hp, e, h⟩ | ⟨h, h2⟩
  · refine Or.inl ⟨p, hp, e, by rw [h, ob1_some, oz_1], ?_⟩
    rw [e, if_neg (nI_nn (by omega)), if_pos ((n_lt (by omega) (by omega)).mpr hp)]
  · refine Or.inr ⟨h, by rw [h2, ob1_some, oz_0], ?_⟩
    rcases h with h | h
    · rw [if_pos h]
    · by_cases h3 : x < 0
      · rw [if_pos h3]
      · rw [if_neg h3, if_neg (Int32.not_lt.mpr h)]
theorem day_c {d : Nat} (hd : d ≤ 30000) {I Ix : OI} {R Rx : RI} (h1 : I 1 = nI d) (hx : Ix 0 = nI d) (x : Int32) : (∃ b, b ≤ d ∧ x = nI b ∧ f_X6_isDay I R x = some 1 ∧ f_X5_requireDay Ix Rx x = some 0) ∨ ((x < 0 ∨ nI d < x) ∧ f_X6_isDay I R x = some 0 ∧ f_X5_requireDay Ix Rx x = some 2) := by
  unfold f_X6_isDay f_X5_requireDay
  rw [h1, hx]
  rcases within_c (a := 0) (b := d) (by omega) (Nat.zero_le d) x with ⟨v, -, hv, e, g1, g2⟩ | ⟨g1, g2⟩
  · exact Or.inl ⟨v, hv, e, by rw [show (0 : Int32) = nI 0 from rfl, g1, ob1_some, oz_1], by rw [show (0 : Int32) = nI 0 from rfl, g2, obc_0]⟩
  · refine Or.inr ⟨?_, by rw [show (0 : Int32) = nI 0 from rfl, g1, ob1_some]; exact oz_0, by rw [show (0 : Int32) = nI 0 from rfl, g2, obc_2]⟩
    unfold f_X6_within at g1
    by_cases z1 : x < 0
    · exact Or.inl z1
    · by_cases z2 : nI d < x
      · exact Or.inr z2
      · rw [if_neg (show ¬ x < nI 0 from z1), if_neg z2] at g1
        exact absurd g1 (by decide)
theorem dwell_c (x : Int32) : (∃ h, h < 16 ∧ x = nI h ∧ f_X6_within x 0 15 = some 1 ∧ f_X5_requireDwelling x = some 0) ∨ (f_X6_within x 0 15 = some 0 ∧ f_X5_requireDwelling x = some 1) := by
  unfold f_X5_requireDwelling f_X5_requireDwelling_j10
  rcases first_m (x := x) (P := 16) (by omega) with ⟨p, hp, e, h⟩ | ⟨h, h2⟩
  · refine Or.inl ⟨p, hp, e, h, ?_⟩
    rw [e, if_neg (nI_nn (by omega)), if_pos (show nI p < (16 : Int32) from (n_lt (b := 16) (by omega) (by omega)).mpr hp)]
  · refine Or.inr ⟨h2, ?_⟩
    rcases h with h | h
    · rw [if_pos h]
    · by_cases h3 : x < 0
      · rw [if_pos h3]
      · rw [if_neg h3, if_neg (show ¬ x < (16 : Int32) from Int32.not_lt.mpr h)]
theorem office_c (x : Int32) : (∃ h, h < 4 ∧ x = nI h ∧ f_X6_within x 0 3 = some 1 ∧ f_X5_requireOffice x = some 0) ∨ (f_X6_within x 0 3 = some 0 ∧ f_X5_requireOffice x = some 1) := by
  unfold f_X5_requireOffice f_X5_requireOffice_j9
  rcases first_m (x := x) (P := 4) (by omega) with ⟨p, hp, e, h⟩ | ⟨h, h2⟩
  · refine Or.inl ⟨p, hp, e, h, ?_⟩
    rw [e, if_neg (nI_nn (by omega)), if_pos (show nI p < (4 : Int32) from (n_lt (b := 4) (by omega) (by omega)).mpr hp)]
  · refine Or.inr ⟨h2, ?_⟩
    rcases h with h | h
    · rw [if_pos h]
    · by_cases h3 : x < 0
      · rw [if_pos h3]
      · rw [if_neg h3, if_neg (show ¬ x < (4 : Int32) from Int32.not_lt.mpr h)]
theorem actLeft_c {n : Nat} (hn : n ≤ 150) {I Ix : OI} {Rx : RI} {ea : Option Nat} {wa : OO} (h2 : I 2 = nI n) : (n < 150 ∧ ¬ I 2 = 150 ∧ f_X5_requireActLeft Ix Rx (nI n) ea wa = some 0) ∨ (n = 150 ∧ I 2 = 150 ∧ f_X5_requireActLeft Ix Rx (nI n) ea wa = some 3) := by
  unfold f_X5_requireActLeft
  rw [h2]
  by_cases h : n < 150
  · exact Or.inl ⟨h, fun e => by have := (n_eq (b := 150) (by omega) (by omega)).mp e; omega, by rw [if_pos (show nI n < (150 : Int32) from (n_lt (b := 150) (by omega) (by omega)).mpr h)]⟩
  · obtain rfl : n = 150 := by omega
    exact Or.inr ⟨rfl, rfl, by rw [if_neg (by decide)]⟩
theorem numLeft_c {g : Nat} (hg : g ≤ 60) {I Ix In : OI} {Rx Rn : RI} (h5 : I 5 = nI g) (hn : In 0 = nI g) : (g < 60 ∧ ¬ I 5 = 60 ∧ f_X5_requireNumberLeft Ix Rx In Rn = some 0) ∨ (g = 60 ∧ I 5 = 60 ∧ f_X5_requireNumberLeft Ix Rx In Rn = some 3) := by
  unfold f_X5_requireNumberLeft
  rw [h5, hn]
  by_cases h : g < 60
  · exact Or.inl ⟨h, fun e => by have := (n_eq (b := 60) (by omega) (by omega)).mp e; omega, by rw [if_pos (show nI g < (60 : Int32) from (n_lt (b := 60) (by omega) (by omega)).mpr h)]⟩
  · obtain rfl : g = 60 := by omega
    exact Or.inr ⟨rfl, rfl, by rw [if_neg (by decide)]⟩
end cases
end PIn
