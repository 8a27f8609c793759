/-! ===== PURE: telling, the chain; one more act ===== -/
section PTc
def adA (ad : Nat → Nat) (n q : Nat) (i : Nat) : Nat := if i = n then q else ad i
theorem adA_lt {ad : Nat → Nat} {n q i : Nat} (h : i < n) : adA ad n q i = ad i := by unfold adA; rw [if_neg (by omega)]
theorem adA_at {ad : Nat → Nat} {n q : Nat} : adA ad n q n = q := by unfold adA; rw [if_pos rfl]
theorem PN.mo {n n' : Nat} {x : Int32} (h : PN n x) (hn : n ≤ n') : PN n' x := by
  rcases h with h | ⟨i, h1, h2⟩
  · exact Or.inl h
  · exact Or.inr ⟨i, by omega, h2⟩
theorem lt_sq {i n : Nat} (h : i < n + 1) : i < n ∨ i = n := by omega
section ext
variable {n m P : Nat} {od ad : Nat → Nat} {I : OI} {R : RI} {AL : List Nat} {AI : Nat → OI} {AR : Nat → OO} {ta : Int32} {ea : Option Nat} {wa : OO}
theorem ac_ext (A : AC n m P od ad I R AL AI AR ta ea wa) {q : Nat} (hqn : q ∉ AL) (hn : n < 150) {P' m' : Nat} (hP : P ≤ P') (hP24 : P' ≤ 24) {od' : Nat → Nat} {I' : OI} {R' : RI} {AI' : Nat → OI} {AR' : Nat → OO} {ea' : Option Nat} {wa' : OO}
    (hm' : m' ≤ n + 1) (hI4 : I' 4 = nI P') (hI2 : I' 2 = nI (n + 1)) (hI3 : I' 3 = nI m') (hR : ∀ c, c < 7 → ∀ i, i < n → R' c i = R c i) (hAI : ∀ c, c < 8 → ∀ i, i < n → AI' (ad i) c = AI (ad i) c)
    (g0 : AI' q 0 = R' 0 n) (g1 : AI' q 1 = R' 1 n) (g2 : AI' q 2 = R' 2 n) (g3 : AI' q 3 = R' 3 n) (g4 : R' 0 n ≠ 8 → AI' q 4 = R' 4 n) (g5 : AI' q 5 = R' 5 n) (g6 : AI' q 6 = R' 6 n) (g7 : AI' q 7 = nI n)
    (hwa : ∀ i, wa' i = if i = n then some q else wa i) (kd : ∃ k, k < 9 ∧ R' 0 n = nI k) (who : R' 0 n ≠ 8 → ∃ w, w < P' ∧ R' 3 n = nI w) (oth : R' 0 n ≠ 8 → PN P' (R' 4 n)) (ot3 : R' 0 n = 3 ∨ R' 0 n = 4 ∨ R' 0 n = 6 → ¬ R' 4 n = -1) (jn : R' 0 n = 7 → ∃ w o, w < o ∧ o < P' ∧ R' 3 n = nI w ∧ R' 4 n = nI o) (sod : (R' 0 n = 7 ∨ R' 0 n = 8) ↔ R' 2 n = -1)
    (hsk : ∀ i, i < n + 1 → (R' 7 i = -1 ∧ AR' (adA ad n q i) 0 = none) ∨ ∃ z, z < n + 1 ∧ R' 7 i = nI z ∧ AR' (adA ad n q i) 0 = some (adA ad n q z))
    (hodr : ∀ j, j < m' → od' j < n + 1 ∧ R' 8 j = nI (od' j) ∧ ∃ k, k < 7 ∧ R' 0 (od' j) = nI k)
    (hch : ∀ j, j < m' → AR' (adA ad n q (od' j)) 1 = if j + 1 < m' then some (adA ad n q (od' (j + 1))) else none)
    (hhd : ea' = if 0 < m' then some (adA ad n q (od' 0)) else none)
    (hsrt : ∀ i j, i ≤ j → j < m' → R' 2 (od' i) ≤ R' 2 (od' j)) : AC (n + 1) m' P' od' (adA ad n q) I' R' (AL ++ [q]) AI' AR' (nI (n + 1)) ea' wa' := by
  have h0 : ∀ i, i < n → R' 0 i = R 0 i := hR 0 (by omega)
  refine ⟨by omega, hm', hP24, hI4, hI2, hI3, rfl, ?_, ?_, ?_, ?_, ?_, ?_, ?_, ?_, ?_, ?_, ?_, ?_, ?_, ?_, ?_, ?_, ?_, hsk, hodr, hch, hhd, hsrt⟩
  · intro i hi
    rcases lt_sq hi with h | h
    · rw [adA_lt h]; exact List.mem_append_left _ (A.al i h)
    · rw [h, adA_at]; exact List.mem_append_right _ (List.mem_singleton.mpr rfl)
  · intro i j hi hj e
    rcases lt_sq hi with h | h <;> rcases lt_sq hj with g | g
    · rw [adA_lt h, adA_lt g] at e; exact A.inj i j h g e
    · rw [adA_lt h, g, adA_at] at e; exact absurd (e ▸ A.al i h) hqn
    · rw [adA_lt g, h, adA_at] at e; exact absurd (e ▸ A.al j g) hqn
    · omega
  · intro i hi
    rw [hwa i]
    by_cases h : i = n
    · rw [if_pos h, if_pos (by omega), h, adA_at]
    · rw [if_neg h, A.war i hi]
      by_cases g : i < n
      · rw [if_pos g, if_pos (by omega), adA_lt g]
      · rw [if_neg g, if_neg (by omega)]
  · intro i hi
    rcases lt_sq hi with h | h
    · rw [adA_lt h, hAI 0 (by omega) i h, h0 i h]; exact A.c0 i h
    · rw [h, adA_at]; exact g0
  · intro i hi
    rcases lt_sq hi with h | h
    · rw [adA_lt h, hAI 1 (by omega) i h, hR 1 (by omega) i h]; exact A.c1 i h
    · rw [h, adA_at]; exact g1
  · intro i hi
    rcases lt_sq hi with h | h
    · rw [adA_lt h, hAI 2 (by omega) i h, hR 2 (by omega) i h]; exact A.c2 i h
    · rw [h, adA_at]; exact g2
  · intro i hi
    rcases lt_sq hi with h | h
    · rw [adA_lt h, hAI 3 (by omega) i h, hR 3 (by omega) i h]; exact A.c3 i h
    · rw [h, adA_at]; exact g3
  · intro i hi
    rcases lt_sq hi with h | h
    · rw [adA_lt h, hAI 4 (by omega) i h, hR 4 (by omega) i h, h0 i h]; exact A.c4 i h
    · rw [h, adA_at]; exact g4
  · intro i hi
    rcases lt_sq hi with h | h
    · rw [adA_lt h, hAI 5 (by omega) i h, hR 5 (by omega) i h]; exact A.c5 i h
    · rw [h, adA_at]; exact g5
  · intro i hi
    rcases lt_sq hi with h | h
    · rw [adA_lt h, hAI 6 (by omega) i h, hR 6 (by omega) i h]; exact A.c6 i h
    · rw [h, adA_at]; exact g6
  · intro i hi
    rcases lt_sq hi with h | h
    · rw [adA_lt h, hAI 7 (by omega) i h]; exact A.c7 i h
    · rw [h, adA_at]; exact g7
  · intro i hi
    rcases lt_sq hi with h | h
    · rw [h0 i h]; exact A.kd i h
    · rw [h]; exact kd
  · intro i hi
    rcases lt_sq hi with h | h
    · rw [h0 i h, hR 3 (by omega) i h]
      intro h8
      obtain ⟨w, hw, e⟩ := A.who i h h8
      exact ⟨w, by omega, e⟩
    · rw [h]; exact who
  · intro i hi
    rcases lt_sq hi with h | h
    · rw [h0 i h, hR 4 (by omega) i h]
      intro h8
      exact (A.oth i h h8).mo hP
    · rw [h]; exact oth
  · intro i hi
    rcases lt_sq hi with h | h
    · rw [h0 i h, hR 4 (by omega) i h]; exact A.ot3 i h
    · rw [h]; exact ot3
  · intro i hi
    rcases lt_sq hi with h | h
    · rw [h0 i h, hR 4 (by omega) i h, hR 3 (by omega) i h]
      intro h7
      obtain ⟨w, o, h1, h2, h3⟩ := A.jn i h h7
      exact ⟨w, o, h1, by omega, h3⟩
    · rw [h]; exact jn
  · intro i hi
    rcases lt_sq hi with h | h
    · rw [h0 i h, hR 2 (by omega) i h]; exact A.sod i h
    · rw [h]; exact sod
/-- nobody stands in the order twice -/
theorem od_inj (A : AC n m P od ad I R AL AI AR ta ea wa) : ∀ (c i j : Nat), j + c + 1 = m → i < j → od i ≠ od j
  | 0, i, j, hj, hi => fun e => by
    have h1 := A.ch i (by omega)
    rw [if_pos (by omega), e, A.ch j (by omega), if_neg (by omega)] at h1
    cases h1
  | c + 1, i, j, hj, hi => fun e => by
    have h1 := A.ch i (by omega)
    rw [if_pos (by omega), e, A.ch j (by omega), if_pos (by omega)] at h1
    injection h1 with h1
    exact od_inj A c (i + 1) (j + 1) (by omega) (by omega) (A.inj _ _ (A.odr _ (by omega)).1 (A.odr _ (by omega)).1 h1.symm)
theorem ad_inj (A : AC n m P od ad I R AL AI AR ta ea wa) {i j : Nat} (hi : i < m) (hj : j < m) (h : i ≠ j) : ad (od i) ≠ ad (od j) := fun e => by
  have e2 := A.inj _ _ (A.odr i hi).1 (A.odr j hj).1 e
  rcases Nat.lt_or_gt_of_ne h with h | h
  · exact od_inj A (m - j - 1) i j (by omega) h e2
  · exact od_inj A (m - i - 1) j i (by omega) h e2.symm
theorem upQ1 {AR : Nat → OO} {a y : Nat} {v : Option Nat} : upQ AR a 1 v y 1 = if y = a then v else AR y 1 := by
  unfold upQ va_up
  by_cases h : y = a
  · rw [if_pos h, if_pos h, if_pos rfl]
  · rw [if_neg h, if_neg h]
theorem upQ10 {AR : Nat → OO} {a y : Nat} {v : Option Nat} : upQ AR a 1 v y 0 = AR y 0 := by
  unfold upQ va_up
  by_cases h : y = a
  · rw [if_pos h, if_neg (by omega), h]
  · rw [if_neg h]
theorem chain_l (A : AC n m P od ad I R AL AI AR ta ea wa) {N q p : Nat} {x : Int32} {AI' : Nat → OI} {AR0 : Nat → OO} {ta' : Int32} {wa' : OO} (hA2 : ∀ i, i < n → AI' (ad i) 2 = AI (ad i) 2) (hq2 : AI' q 2 = x) (hAR : ∀ i, i < n → AR0 (ad i) 1 = AR (ad i) 1) (hp : p ≤ m) (h5 : ∀ i, p ≤ i → i < m → x < R 2 (od i)) (h6 : 0 < p → R 2 (od (p - 1)) ≤ x) :
    ∀ (c j f : Nat), j + c = p → c < f → f_X1_chain_l7 N (AL ++ [q]) ta' wa' AI' f ea AR0 q (if j = 0 then none else some (ad (od (j - 1)))) (nth m od ad j) = f_X1_chain_j32 N (AL ++ [q]) ta' wa' AI' ea AR0 q (if p = 0 then none else some (ad (od (p - 1))))
  | c, j, 0, _, hf => absurd hf (by omega)
  | c, j, f + 1, hj, hf => by
    show f_X1_chain_l7b N (AL ++ [q]) ta' wa' AI' (f_X1_chain_l7 N (AL ++ [q]) ta' wa' AI' f) ea AR0 q _ _ = _
    unfold f_X1_chain_l7b
    have hq : q ∈ AL ++ [q] := List.mem_append_right _ (List.mem_singleton.mpr rfl)
    by_cases hm : j < m
    · have ho := (A.odr j hm).1
      have hin : ad (od j) ∈ AL ++ [q] := List.mem_append_left _ (A.al _ ho)
      rw [show nth m od ad j = some (ad (od j)) by unfold nth; rw [if_pos hm], oc_some, om_mem hin, om_mem hq, hq2, hA2 _ ho, A.c2 _ ho]
      by_cases hc : c = 0
      · obtain rfl : j = p := by omega
        rw [if_pos (h5 j (Nat.le_refl _) hm)]
      · rw [if_neg (Int32.not_lt.mpr (Int32.le_trans (A.srt j (p - 1) (by omega) (by omega)) (h6 (by omega)))), om_mem hin, ol_eq, hAR _ ho, A.ch j hm]
        exact chain_l A hA2 hq2 hAR hp h5 h6 (c - 1) (j + 1) f (by omega) (by omega)
    · obtain rfl : j = p := by omega
      rw [show nth m od ad j = none by unfold nth; rw [if_neg hm], oc_none]
/-- an act is put into the chain -/
theorem chain_new (A : AC n m P od ad I R AL AI AR ta ea wa) {N q p : Nat} (hqn : q ∉ AL) (hN : 200 ≤ N) {x : Int32} {AI' : Nat → OI} {AR0 : Nat → OO} {ta' : Int32} {wa' : OO} (hA2 : ∀ i, i < n → AI' (ad i) 2 = AI (ad i) 2) (hq2 : AI' q 2 = x) (hAR : ∀ i, i < n → AR0 (ad i) 1 = AR (ad i) 1) (hp : p ≤ m) (h5 : ∀ i, p ≤ i → i < m → x < R 2 (od i)) (h6 : 0 < p → R 2 (od (p - 1)) ≤ x) :
    ∃ ea' AR', f_X1_chain N (AL ++ [q]) ta' wa' AI' ea AR0 q = some (ea', AR') ∧ (∀ y, AR' y 0 = AR0 y 0) ∧ (∀ j, j < m + 1 → AR' (adA ad n q (insA p n od j)) 1 = if j + 1 < m + 1 then some (adA ad n q (insA p n od (j + 1))) else none) ∧ ea' = some (adA ad n q (insA p n od 0)) := by
  have hn := A.n150
  have hmn := A.mn
  have hq : q ∈ AL ++ [q] := List.mem_append_right _ (List.mem_singleton.mpr rfl)
  have eq1 := chain_l A (N := N) (q := q) (ta' := ta') (wa' := wa') hA2 hq2 hAR hp h5 h6 p 0 N (by omega) (by omega)
  rw [if_pos rfl, ← hd_nth A] at eq1
  have hqa : ∀ i, i < n → ad i ≠ q := fun i hi e => hqn (e ▸ A.al i hi)
  have lo : ∀ j, j < p → adA ad n q (insA p n od j) = ad (od j) := fun j hj => by rw [insA_lt hj, adA_lt (A.odr j (by omega)).1]
  have mi : adA ad n q (insA p n od p) = q := by rw [insA_at, adA_at]
  have hi : ∀ j, p < j → j < m + 1 → adA ad n q (insA p n od j) = ad (od (j - 1)) := fun j h1 h2 => by rw [insA_gt h1, adA_lt (A.odr _ (by omega)).1]
  unfold f_X1_chain
  rw [eq1]
  unfold f_X1_chain_j32
  by_cases h0 : p = 0
  · subst h0
    rw [if_pos rfl, oc_none, om_mem hq]
    refine ⟨_, _, rfl, fun y => upQ10, fun j hj => ?_, by rw [mi]⟩
    rw [upQ1]
    by_cases hj0 : j = 0
    · subst hj0
      rw [mi, if_pos rfl, A.hd]
      by_cases hm0 : 0 < m
      · rw [if_pos hm0, if_pos (by omega), hi 1 (by omega) (by omega)]
      · rw [if_neg hm0, if_neg (by omega)]
    · rw [hi j (by omega) hj, if_neg (hqa _ (A.odr _ (by omega)).1), hAR _ (A.odr _ (by omega)).1, A.ch (j - 1) (by omega)]
      by_cases hm0 : j - 1 + 1 < m
      · rw [if_pos hm0, if_pos (by omega), hi (j + 1) (by omega) (by omega), show j - 1 + 1 = j + 1 - 1 by omega]
      · rw [if_neg hm0, if_neg (by omega)]
  · have hp1 : p - 1 < m := by omega
    have ho := (A.odr (p - 1) hp1).1
    have hin : ad (od (p - 1)) ∈ AL ++ [q] := List.mem_append_left _ (A.al _ ho)
    rw [if_neg h0, oc_some, om_mem hin, om_mem hq, om_mem hin]
    refine ⟨_, _, rfl, fun y => by rw [upQ10, upQ10], fun j hj => ?_, by rw [lo 0 (by omega), A.hd, if_pos (by omega)]⟩
    rw [upQ1, upQ1]
    by_cases h1 : j < p
    · rw [lo j h1]
      by_cases h2 : j = p - 1
      · rw [if_pos (by rw [h2]), if_pos (by omega), show j + 1 = p by omega, mi]
      · rw [if_neg (ad_inj A (by omega) hp1 h2), if_neg (hqa _ (A.odr _ (by omega)).1), hAR _ (A.odr _ (by omega)).1, A.ch j (by omega), if_pos (by omega), if_pos (by omega), lo (j + 1) (by omega)]
    · by_cases h2 : j = p
      · rw [h2, mi, if_neg (fun e => hqa _ ho e.symm), if_pos rfl, hAR _ ho, A.ch _ hp1, show p - 1 + 1 = p by omega]
        by_cases h3 : p < m
        · rw [if_pos h3, if_pos (by omega), hi (p + 1) (by omega) (by omega), Nat.add_sub_cancel]
        · rw [if_neg h3, if_neg (by omega)]
      · rw [hi j (by omega) hj, if_neg (ad_inj A (by omega) hp1 (by omega)), if_neg (hqa _ (A.odr _ (by omega)).1), hAR _ (A.odr _ (by omega)).1, A.ch (j - 1) (by omega)]
        by_cases hm0 : j - 1 + 1 < m
        · rw [if_pos hm0, if_pos (by omega), hi (j + 1) (by omega) (by omega), show j - 1 + 1 = j + 1 - 1 by omega]
        · rw [if_neg hm0, if_neg (by omega)]
end ext
end PTc
