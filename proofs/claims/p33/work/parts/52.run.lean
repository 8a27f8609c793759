/-! ===== PURE: runs of acts ===== -/
section PRu
def run (AI : Nat → OI) : List Nat → RI → RI
  | [], R => R
  | x :: L, R => run AI L (hapv AI x R)
theorem run_app (AI : Nat → OI) : ∀ (L1 L2 : List Nat) (R : RI), run AI (L1 ++ L2) R = run AI L2 (run AI L1 R)
  | [], _, _ => rfl
  | x :: L1, L2, R => run_app AI L1 L2 (hapv AI x R)
theorem run_LEq (AI : Nat → OI) : ∀ (L : List Nat) {Ra Rb : RI}, LEq Ra Rb → LEq (run AI L Ra) (run AI L Rb)
  | [], _, _, h => h
  | x :: L, _, _, h => run_LEq AI L (hapv_LEq h AI x)
theorem run_ai {AI AI' : Nat → OI} : ∀ (L : List Nat) (R : RI), (∀ x, x ∈ L → AI' x = AI x) → run AI' L R = run AI L R
  | [], _, _ => rfl
  | x :: L, R, h => by
    show run AI' L (hapv AI' x R) = run AI L (hapv AI x R)
    rw [hapv_ai (h x (List.mem_cons_self ..)) R]
    exact run_ai L _ (fun y hy => h y (List.mem_cons_of_mem _ hy))
theorem run_CL {AI : Nat → OI} {s : Int32} : ∀ (L : List Nat) {R : RI}, (∀ x, x ∈ L → AcF s (AI x)) → CL s R → CL s (run AI L R)
  | [], _, _, h => h
  | x :: L, R, ha, h => run_CL L (fun y hy => ha y (List.mem_cons_of_mem _ hy)) (h.hap (ha x (List.mem_cons_self ..)) _ _)
def segA (R : RI) (od ad : Nat → Nat) (k : Int32) : Nat → Nat → List Nat
  | _, 0 => []
  | a, c + 1 => if kn R k (od a) then ad (od a) :: segA R od ad k (a + 1) c else segA R od ad k (a + 1) c
theorem segA_add (R : RI) (od ad : Nat → Nat) (k : Int32) : ∀ (c a d : Nat), segA R od ad k a (c + d) = segA R od ad k a c ++ segA R od ad k (a + c) d
  | 0, a, d => by rw [Nat.zero_add]; rfl
  | c + 1, a, d => by
    rw [show c + 1 + d = (c + d) + 1 by omega]
    show (if kn R k (od a) then ad (od a) :: segA R od ad k (a + 1) (c + d) else segA R od ad k (a + 1) (c + d)) = (if kn R k (od a) then ad (od a) :: segA R od ad k (a + 1) c else segA R od ad k (a + 1) c) ++ segA R od ad k (a + (c + 1)) d
    rw [segA_add R od ad k c (a + 1) d, show a + 1 + c = a + (c + 1) by omega]
    split
    · rfl
    · rfl
theorem segA_c {R R' : RI} {od od' ad ad' : Nat → Nat} {k k' : Int32} : ∀ (c a : Nat), (∀ i, a ≤ i → i < a + c → (kn R' k' (od' i) ↔ kn R k (od i)) ∧ ad' (od' i) = ad (od i)) → segA R' od' ad' k' a c = segA R od ad k a c
  | 0, a, _ => rfl
  | c + 1, a, h => by
    show (if kn R' k' (od' a) then ad' (od' a) :: segA R' od' ad' k' (a + 1) c else segA R' od' ad' k' (a + 1) c) = (if kn R k (od a) then ad (od a) :: segA R od ad k (a + 1) c else segA R od ad k (a + 1) c)
    rw [segA_c c (a + 1) (fun i h1 h2 => h i (by omega) (by omega)), (h a (Nat.le_refl _) (by omega)).2]
    by_cases h1 : kn R k (od a)
    · rw [if_pos h1, if_pos ((h a (Nat.le_refl _) (by omega)).1.mpr h1)]
    · rw [if_neg h1, if_neg (fun h2 => h1 ((h a (Nat.le_refl _) (by omega)).1.mp h2))]
theorem segA_m {R : RI} {od ad : Nat → Nat} {k : Int32} {x : Nat} : ∀ (c a : Nat), x ∈ segA R od ad k a c → ∃ i, a ≤ i ∧ i < a + c ∧ x = ad (od i)
  | 0, a, h => by cases h
  | c + 1, a, h => by
    have h' : x ∈ (if kn R k (od a) then ad (od a) :: segA R od ad k (a + 1) c else segA R od ad k (a + 1) c) := h
    have g : x ∈ segA R od ad k (a + 1) c → ∃ i, a ≤ i ∧ i < a + (c + 1) ∧ x = ad (od i) := fun h2 => by
      obtain ⟨i, h3, h4, h5⟩ := segA_m c (a + 1) h2
      exact ⟨i, by omega, by omega, h5⟩
    split at h'
    · rcases List.mem_cons.mp h' with e | e
      · exact ⟨a, Nat.le_refl _, by omega, e⟩
      · exact g e
    · exact g h'
section with_acts
variable {n m P : Nat} {od ad : Nat → Nat} {I : OI} {R : RI} {AL : List Nat} {AI : Nat → OI} {AR : Nat → OO} {ta : Int32} {ea : Option Nat} {wa : OO}
theorem run_goes (A : AC n m P od ad I R AL AI AR ta ea wa) {N : Nat} {Ik : OI} {cm : Option Nat} {s k : Int32} (hk : Ik 1 = k) : ∀ (c j : Nat) (Rk : RI) (f : Nat), j + c ≤ m → (∀ i, j ≤ i → i < j + c → R 2 (od i) ≤ s) → (j + c < m → ¬ R 2 (od (j + c)) ≤ s) → c < f → f_X2_goOn_l10 N AL AI AR f Ik Rk cm s (nth m od ad j) = some (Ik, run AI (segA R od ad k j c) Rk, nth m od ad (j + c))
  | 0, j, Rk, f, hj, _, h2, hf => by
    obtain ⟨f, rfl⟩ : ∃ z, f = z + 1 := ⟨f - 1, by omega⟩
    by_cases hm : j < m
    · rw [go_c A hk hm, if_neg (show ¬ R 2 (od j) ≤ s from h2 hm)]
      rfl
    · unfold nth
      rw [if_neg hm, if_neg (by omega)]
      exact go_cend
  | c + 1, j, Rk, f, hj, h1, h2, hf => by
    obtain ⟨f, rfl⟩ : ∃ z, f = z + 1 := ⟨f - 1, by omega⟩
    have hm : j < m := by omega
    rw [go_c A hk hm, if_pos (h1 j (Nat.le_refl _) (by omega)), hap_v (A.al _ (A.odr j hm).1), ob1_some]
    have e : ∀ R1, f_X2_goOn_l10 N AL AI AR f Ik R1 cm s (nth m od ad (j + 1)) = some (Ik, run AI (segA R od ad k (j + 1) c) R1, nth m od ad (j + (c + 1))) := fun R1 => by
      rw [run_goes A hk c (j + 1) R1 f (by omega) (fun i h3 h4 => h1 i (by omega) (by omega)) (by rw [show j + 1 + c = j + (c + 1) by omega]; exact h2) (by omega), show j + 1 + c = j + (c + 1) by omega]
    have e2 : segA R od ad k j (c + 1) = if kn R k (od j) then ad (od j) :: segA R od ad k (j + 1) c else segA R od ad k (j + 1) c := rfl
    rw [e, e, e2]
    by_cases h3 : kn R k (od j)
    · rw [if_pos h3, if_pos h3]; rfl
    · rw [if_neg h3, if_neg h3]
theorem cut_at (R : RI) (od : Nat → Nat) (m : Nat) (s : Int32) : ∀ (c j : Nat), j + c = m → ∃ c', j + c' ≤ m ∧ (∀ i, j ≤ i → i < j + c' → R 2 (od i) ≤ s) ∧ (j + c' < m → ¬ R 2 (od (j + c')) ≤ s)
  | 0, j, h => ⟨0, by omega, fun i h1 h2 => by omega, fun h1 => by omega⟩
  | c + 1, j, h => by
    by_cases h0 : R 2 (od j) ≤ s
    · obtain ⟨c', h1, h2, h3⟩ := cut_at R od m s c (j + 1) (by omega)
      refine ⟨c' + 1, by omega, fun i h4 h5 => ?_, ?_⟩
      · by_cases e : i = j
        · rw [e]; exact h0
        · exact h2 i (by omega) (by omega)
      · rw [show j + (c' + 1) = j + 1 + c' by omega]; exact h3
    · exact ⟨0, by omega, fun i h1 h2 => by omega, fun _ => h0⟩
theorem begin_cl (A : AC n m P od ad I R AL AI AR ta ea wa) {N : Nat} (hN : 200 ≤ N) (Ik : OI) (Rk : RI) (cm : Option Nat) (k : Int32) : ∃ Rb, f_X2_begin N AL ta ea wa AI AR Ik Rk cm k = some (va_up (va_up Ik 1 k) 0 0, Rb, ea) ∧ ∀ s, CL s Rb := by
  have hn := A.n150
  obtain ⟨R1, h1, h2⟩ := reset_m (N := N) (J := I) (x1 := k) (x2 := k) (R0 := R) 24 0 R N rfl ⟨SameQ.rf, fun i hi => absurd hi (Nat.not_lt_zero i), fun i hi => absurd hi (Nat.not_lt_zero i), fun i hi => absurd hi (Nat.not_lt_zero i), fun i hi => absurd hi (Nat.not_lt_zero i), fun i hi => absurd hi (Nat.not_lt_zero i), fun i hi => absurd hi (Nat.not_lt_zero i), fun i hi => absurd hi (Nat.not_lt_zero i), fun i hi => absurd hi (Nat.not_lt_zero i), fun i hi => absurd hi (Nat.not_lt_zero i)⟩ (by omega)
  obtain ⟨Rk1, h3, h4⟩ := forget_l (N := N) (Ik := va_up (va_up Ik 1 k) 0 0) (cm := ea) 24 0 Rk N rfl ⟨fun i hi => absurd hi (Nat.not_lt_zero i), fun i hi => absurd hi (Nat.not_lt_zero i)⟩ (by omega)
  obtain ⟨R2, Rk2, h5, h6, h7, h8, h9⟩ := joins_both N (Ik := va_up (va_up Ik 1 k) 0 0) (cm := ea) (x1 := k) (x2 := k) (by rw [up_ne (by omega), up_same]) n 0 R1 Rk1 N N (A.sq h2.sq) (by omega) ⟨fun j hj => Or.inl (h2.r11 j hj), fun p _ hp => h2.r11 p hp, fun p hp => by rw [h2.r11 p hp, if_pos rfl]; exact h4.k0 p hp⟩ (by omega) (by omega)
  obtain ⟨Rk3, h10, h11⟩ := doubles_l (N := N) (AL := AL) (Ik := va_up (va_up Ik 1 k) 0 0) (cm := ea) (ta := ta) (ea := ea) (wa := wa) (AI := AI) (AR := AR) (R := R2) (Rk0 := Rk2) h7.ld 24 0 Rk2 N rfl ⟨fun i hi => absurd hi (Nat.not_lt_zero i), fun i hi => absurd hi (Nat.not_lt_zero i), fun p _ hp => h7.mt p hp, fun p _ hp => by rw [h9 1 (by omega)]; exact h4.k1 p hp, fun _ _ _ => rfl⟩ (by omega)
  refine ⟨Rk3, ?_, fun s => ?_⟩
  · show ob1 (f_X2_forget_l2 N (va_up (va_up Ik 1 k) 0 0) ea N Rk (nI 0)) (fun R3 => ob1 (f_X2_joinDoubles_l2 N AL (va_up (va_up Ik 1 k) 0 0) ea ta ea wa AI AR N R3 (nI 0)) (fun R4 => some (va_up (va_up Ik 1 k) 0 0, R4, ea))) = _
    rw [h3, ob1_some, h6]
    show ob1 (f_X2_joinDoubles_l63 N AL (va_up (va_up Ik 1 k) 0 0) ea ta ea wa AI AR N Rk2 (nI 0)) (fun R4 => some (va_up (va_up Ik 1 k) 0 0, R4, ea)) = _
    rw [h10, ob1_some]
  · have b1 : ∀ j, j < 24 → Rk3 1 j = 0 ∨ Rk3 1 j = 3 := fun j hj => by
      rw [h11.lo1 j hj hj]
      split
      · exact Or.inl rfl
      · exact Or.inr rfl
    have b : ∀ c, c ≠ 0 → c ≠ 1 → ∀ j, Rk3 c j = Rk1 c j := fun c h0 h1 j => by rw [h11.sm c h0 h1, h9 c h0]
    have n1 : ∀ j, j < 24 → ¬ Rk3 1 j = 1 := fun j hj e => by rcases b1 j hj with h | h <;> rw [h] at e <;> exact absurd e (by decide)
    have n2 : ∀ j, j < 24 → ¬ Rk3 1 j = 2 := fun j hj e => by rcases b1 j hj with h | h <;> rw [h] at e <;> exact absurd e (by decide)
    refine ⟨fun j hj e => absurd e (n1 j hj), fun j hj _ => ?_, fun j hj e => e.elim (fun e => absurd e (n1 j hj)) (fun e => absurd e (n2 j hj)), fun j i hj hi e => ?_, fun j hj _ => ⟨?_, ?_⟩, fun j hj e => ?_⟩
    · rw [b 2 (by omega) (by omega)]; exact h4.k2 j hj
    · rw [b 4 (by omega) (by omega), h4.k4 j hj] at e
      exact absurd e.symm (nI_m1 (by omega))
    · rw [b 6 (by omega) (by omega)]; exact h4.k6 j hj
    · rw [b 8 (by omega) (by omega)]; exact h4.k8 j hj
    · rw [b 8 (by omega) (by omega), h4.k8 j hj] at e
      exact absurd rfl e
theorem find_run (A : AC n m P od ad I R AL AI AR ta ea wa) {N : Nat} (hN : 200 ≤ N) (Ik : OI) (Rk : RI) (cm : Option Nat) (s k : Int32) :
    ∃ Rb c, f_X2_begin N AL ta ea wa AI AR Ik Rk cm k = some (va_up (va_up Ik 1 k) 0 0, Rb, ea) ∧ c ≤ m ∧ (∀ i, i < c → R 2 (od i) ≤ s) ∧ (c < m → ¬ R 2 (od c) ≤ s) ∧ f_X2_find N AL ta ea wa AI AR Ik Rk cm s k = some (va_up (va_up (va_up Ik 1 k) 0 0) 0 s, run AI (segA R od ad k 0 c) Rb, nth m od ad c) ∧ ∀ s, CL s Rb := by
  have hn := A.n150
  have hm := A.mn
  obtain ⟨Rb, h1, h2⟩ := begin_cl A hN Ik Rk cm k
  obtain ⟨c, h3, h4, h5⟩ := cut_at R od m s m 0 (by omega)
  rw [Nat.zero_add] at h3 h5
  refine ⟨Rb, c, h1, h3, fun i hi => h4 i (by omega) (by omega), h5, ?_, h2⟩
  unfold f_X2_find
  rw [h1, ob3_some]
  unfold f_X2_goOn
  rw [ol_eq, hd_nth A]
  have := run_goes A (N := N) (Ik := va_up (va_up (va_up Ik 1 k) 0 0) 0 s) (cm := nth m od ad 0) (s := s) (k := k) (by rw [up_ne (by omega), up_ne (by omega), up_same]) c 0 Rb N (by omega) (fun i h6 h7 => h4 i h6 h7) (by rw [Nat.zero_add]; exact h5) (by omega)
  rw [this, ob3_some, Nat.zero_add]
/-- the land does not look at what is passed along -/
theorem fg_eq (N : Nat) (Ia Ib : OI) (ca cb : Option Nat) : ∀ f, f_X2_forget_l2 N Ia ca f = f_X2_forget_l2 N Ib cb f
  | 0 => rfl
  | f + 1 => by
    show f_X2_forget_l2b N Ia ca (f_X2_forget_l2 N Ia ca f) = f_X2_forget_l2b N Ib cb (f_X2_forget_l2 N Ib cb f)
    rw [fg_eq N Ia Ib ca cb f]
    rfl
theorem l63_eq (N : Nat) (AL' : List Nat) (Ia Ib : OI) (ca cb : Option Nat) (ta' : Int32) (ea' : Option Nat) (wa' : OO) (AI' : Nat → OI) (AR' : Nat → OO) : ∀ f, f_X2_joinDoubles_l63 N AL Ia ca ta ea wa AI AR f = f_X2_joinDoubles_l63 N AL' Ib cb ta' ea' wa' AI' AR' f
  | 0 => rfl
  | f + 1 => by
    show f_X2_joinDoubles_l63b N AL Ia ca ta ea wa AI AR (f_X2_joinDoubles_l63 N AL Ia ca ta ea wa AI AR f) = f_X2_joinDoubles_l63b N AL' Ib cb ta' ea' wa' AI' AR' (f_X2_joinDoubles_l63 N AL' Ib cb ta' ea' wa' AI' AR' f)
    rw [l63_eq N AL' Ia Ib ca cb ta' ea' wa' AI' AR' f]
    rfl
theorem find_act (A : AC n m P od ad I R AL AI AR ta ea wa) {i : Nat} (hi : i < n) : f_X1_find ta ea wa (nI i) = some (some (ad i)) := by
  have hn := A.n150
  unfold f_X1_find
  rw [if_neg (nI_nn (by omega)), if_neg (fun e => by have := (n_le (a := 150) (by omega) (by omega)).mp e; omega), og_nI (by omega) (by omega), nI_tn (by omega), A.war i (by omega), if_pos hi]
theorem join_c (A : AC n m P od ad I R AL AI AR ta ea wa) {N f : Nat} {Ik : OI} {cm : Option Nat} {k : Int32} (hk : Ik 1 = k) {Rk : RI} {i : Nat} (hi : i < n) :
    f_X2_joinDoubles_l2 N AL Ik cm ta ea wa AI AR (f + 1) Rk (nI i) = if R 0 i = 7 ∧ kn R k i then f_X2_joinDoubles_l2 N AL Ik cm ta ea wa AI AR f (va_up Rk 0 (putv 24 (Rk 0) (R 4 i) (R 3 i))) (nI (i + 1)) else f_X2_joinDoubles_l2 N AL Ik cm ta ea wa AI AR f Rk (nI (i + 1)) := by
  have hn := A.n150
  show f_X2_joinDoubles_l2b N AL Ik cm ta ea wa AI AR (f_X2_joinDoubles_l2 N AL Ik cm ta ea wa AI AR f) Rk (nI i) = _
  unfold f_X2_joinDoubles_l2b
  rw [A.tan, if_neg (fun e => by have := (n_le (by omega) (by omega)).mp e; omega), ← A.tan, find_act A hi, ob1_some, oc_some]
  simp only [om_mem (A.al _ hi), hk, known_c A k hi, ob1_ite, ol_eq, nI_s9, A.c0 i hi, A.c3 i hi]
  by_cases h1 : R 0 i = 7
  · have h8 : R 0 i ≠ 8 := by rw [h1]; decide
    rw [if_pos h1, A.c4 i hi h8]
    by_cases h2 : kn R k i
    · rw [if_pos h2, if_neg one0, if_pos ⟨h1, h2⟩]
    · rw [if_neg h2, if_pos trivial, if_neg (fun h => h2 h.2)]
  · rw [if_neg h1, if_neg (fun h => h1 h.1)]
theorem join_e (A : AC n m P od ad I R AL AI AR ta ea wa) {N f : Nat} {Ik : OI} {cm : Option Nat} {Rk : RI} :
    f_X2_joinDoubles_l2 N AL Ik cm ta ea wa AI AR (f + 1) Rk (nI n) = f_X2_joinDoubles_l63 N AL Ik cm ta ea wa AI AR N Rk 0 := by
  have hn := A.n150
  show f_X2_joinDoubles_l2b N AL Ik cm ta ea wa AI AR (f_X2_joinDoubles_l2 N AL Ik cm ta ea wa AI AR f) Rk (nI n) = _
  unfold f_X2_joinDoubles_l2b
  rw [A.tan, if_pos ((n_le (by omega) (by omega)).mpr (Nat.le_refl _))]
theorem join_skip (A : AC n m P od ad I R AL AI AR ta ea wa) {N : Nat} {Ik : OI} {cm : Option Nat} {Rk : RI} : ∀ (d i f : Nat), i + d = n → (∀ j, i ≤ j → j < n → R 0 j ≠ 7) → d < f → f_X2_joinDoubles_l2 N AL Ik cm ta ea wa AI AR f Rk (nI i) = f_X2_joinDoubles_l63 N AL Ik cm ta ea wa AI AR N Rk 0
  | 0, i, f, h, _, hf => by
    obtain ⟨f, rfl⟩ : ∃ z, f = z + 1 := ⟨f - 1, by omega⟩
    obtain rfl : i = n := by omega
    exact join_e A
  | d + 1, i, f, h, h7, hf => by
    obtain ⟨f, rfl⟩ : ∃ z, f = z + 1 := ⟨f - 1, by omega⟩
    rw [join_c A rfl (by omega), if_neg (fun e => h7 i (Nat.le_refl _) (by omega) e.1)]
    exact join_skip A d (i + 1) f (by omega) (fun j h1 h2 => h7 j (by omega) h2) (by omega)
section two
variable {n' m' P' : Nat} {od' ad' : Nat → Nat} {I' : OI} {R' : RI} {AL' : List Nat} {AI' : Nat → OI} {AR' : Nat → OO} {ta' : Int32} {ea' : Option Nat} {wa' : OO}
theorem joins_eq (A : AC n m P od ad I R AL AI AR ta ea wa) (A' : AC n' m' P' od' ad' I' R' AL' AI' AR' ta' ea' wa') {N : Nat} {Ia Ib : OI} {ca cb : Option Nat} {k k' : Int32} (ha : Ia 1 = k) (hb : Ib 1 = k') (hn : n ≤ n') (h0 : ∀ i, i < n → R' 0 i = R 0 i) (h3 : ∀ i, i < n → R 0 i = 7 → R' 3 i = R 3 i ∧ R' 4 i = R 4 i) (hk : ∀ i, i < n → (kn R' k' i ↔ kn R k i)) (h7 : ∀ i, n ≤ i → i < n' → R' 0 i ≠ 7) :
    ∀ (c i : Nat) (Rk : RI) (f f' : Nat), i + c = n → c < f → c + (n' - n) < f' → f_X2_joinDoubles_l2 N AL' Ib cb ta' ea' wa' AI' AR' f' Rk (nI i) = f_X2_joinDoubles_l2 N AL Ia ca ta ea wa AI AR f Rk (nI i)
  | 0, i, Rk, f, f', h, hf, hf' => by
    obtain ⟨f, rfl⟩ : ∃ z, f = z + 1 := ⟨f - 1, by omega⟩
    obtain rfl : i = n := by omega
    rw [join_e A, join_skip A' (n' - i) i f' (by omega) (fun j h1 h2 => h7 j h1 h2) (by omega), l63_eq (AL := AL) N AL' Ia Ib ca cb ta' ea' wa' AI' AR' N]
  | c + 1, i, Rk, f, f', h, hf, hf' => by
    obtain ⟨f, rfl⟩ : ∃ z, f = z + 1 := ⟨f - 1, by omega⟩
    obtain ⟨f', rfl⟩ : ∃ z, f' = z + 1 := ⟨f' - 1, by omega⟩
    have hi : i < n := by omega
    rw [join_c A ha hi, join_c A' hb (by omega), h0 i hi]
    by_cases h1 : R 0 i = 7 ∧ kn R k i
    · rw [if_pos h1, if_pos ⟨h1.1, (hk i hi).mpr h1.2⟩, (h3 i hi h1.1).1, (h3 i hi h1.1).2]
      exact joins_eq A A' ha hb hn h0 h3 hk h7 c (i + 1) _ f f' (by omega) (by omega) (by omega)
    · rw [if_neg h1, if_neg (fun e => h1 ⟨e.1, (hk i hi).mp e.2⟩)]
      exact joins_eq A A' ha hb hn h0 h3 hk h7 c (i + 1) _ f f' (by omega) (by omega) (by omega)
theorem begin_eq (A : AC n m P od ad I R AL AI AR ta ea wa) (A' : AC n' m' P' od' ad' I' R' AL' AI' AR' ta' ea' wa') {N : Nat} (hN : 200 ≤ N) {k k' : Int32} (hn : n ≤ n') (h0 : ∀ i, i < n → R' 0 i = R 0 i) (h3 : ∀ i, i < n → R 0 i = 7 → R' 3 i = R 3 i ∧ R' 4 i = R 4 i) (hk : ∀ i, i < n → (kn R' k' i ↔ kn R k i)) (h7 : ∀ i, n ≤ i → i < n' → R' 0 i ≠ 7) {Ik : OI} {Rk : RI} {cm : Option Nat} {Rb : RI} (h : f_X2_begin N AL ta ea wa AI AR Ik Rk cm k = some (va_up (va_up Ik 1 k) 0 0, Rb, ea)) :
    f_X2_begin N AL' ta' ea' wa' AI' AR' Ik Rk cm k' = some (va_up (va_up Ik 1 k') 0 0, Rb, ea') := by
  have hn' := A'.n150
  have e : ∀ (AL : List Nat) (ta : Int32) (ea : Option Nat) (wa : OO) (AI : Nat → OI) (AR : Nat → OO) (k : Int32), f_X2_begin N AL ta ea wa AI AR Ik Rk cm k = ob1 (f_X2_forget_l2 N (va_up (va_up Ik 1 k) 0 0) ea N Rk 0) (fun R3 => ob1 (f_X2_joinDoubles_l2 N AL (va_up (va_up Ik 1 k) 0 0) ea ta ea wa AI AR N R3 (nI 0)) (fun R4 => some (va_up (va_up Ik 1 k) 0 0, R4, ea))) := fun _ _ _ _ _ _ _ => rfl
  rw [e] at h ⊢
  rw [fg_eq N (va_up (va_up Ik 1 k) 0 0) (va_up (va_up Ik 1 k') 0 0) ea ea'] at h
  cases h1 : f_X2_forget_l2 N (va_up (va_up Ik 1 k') 0 0) ea' N Rk 0 with
  | none => rw [h1] at h; cases h
  | some R3 =>
    rw [h1, ob1_some] at h
    rw [ob1_some, joins_eq A A' (Ia := va_up (va_up Ik 1 k) 0 0) (ca := ea) (k := k) (k' := k') (by rw [up_ne (by omega), up_same]) (by rw [up_ne (by omega), up_same]) hn h0 h3 hk h7 n 0 R3 N N (by omega) (by omega) (by omega)]
    cases h2 : f_X2_joinDoubles_l2 N AL (va_up (va_up Ik 1 k) 0 0) ea ta ea wa AI AR N R3 (nI 0) with
    | none => rw [h2] at h; cases h
    | some R4 =>
      rw [h2, ob1_some] at h
      rw [ob1_some]
      cases h
      rfl
end two
end with_acts
end PRu
