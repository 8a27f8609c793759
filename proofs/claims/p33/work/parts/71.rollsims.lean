/-! ===== PURE: the calls on rolls ===== -/
section PRs
theorem msgs_pre {R : RI} {r : Nat} : ∀ (c i : Nat) (j : Nat), j < (msgs R r i).length → (msgs R r (i + c))[j]? = (msgs R r i)[j]?
  | 0, i, j, _ => rfl
  | c + 1, i, j, h => by
    have e : msgs R r (i + (c + 1)) = msgs R r (i + c) ++ (if R 25 (i + c) = nI r then [R 26 (i + c)] else []) := rfl
    have h2 : (msgs R r i).length ≤ (msgs R r (i + c)).length := by
      have : ∀ c, (msgs R r i).length ≤ (msgs R r (i + c)).length := fun c => by
        induction c with
        | zero => exact Nat.le_refl _
        | succ c ih =>
          have e : msgs R r (i + (c + 1)) = msgs R r (i + c) ++ (if R 25 (i + c) = nI r then [R 26 (i + c)] else []) := rfl
          rw [e, List.length_append]
          omega
      exact this c
    rw [e, List.getElem?_append_left (by omega)]
    exact msgs_pre c i j h
section sims
variable {N t n m P d g : Nat} {od ad : Nat → Nat} {Ix : OI} {Rx : RI} {ta : Int32} {ea : Option Nat} {wa : OO} {Ik : OI} {Rk : RI} {cmk : Option Nat} {In : OI} {Rn : RI} {AL : List Nat} {AI : Nat → OI} {AR : Nat → OO} {rs : OO} {RL : List RLT} {I : OI} {R : RI}
/-- a roll or none, in both -/
theorem roll_c (hl5 : RL.length ≤ 5) (h7 : I 7 = nI RL.length) (hrs : ∀ i, i < 5 → rs i = (RL[i]?).map (fun e => e.1)) (x : Int32) : (∃ r e, r < RL.length ∧ RL[r]? = some e ∧ x = nI r ∧ f_X6_isRoll I R x = some 1 ∧ f_X5_requireRoll Ix Rx rs x = some (0, e.1)) ∨ (f_X6_isRoll I R x = some 0 ∧ f_X5_requireRoll Ix Rx rs x = some (1, 0)) := by
  unfold f_X6_isRoll f_X5_requireRoll f_X5_requireRoll_j23
  rw [h7]
  rcases first_m (x := x) (P := RL.length) (by omega) with ⟨r, hr, e, h⟩ | ⟨h, h2⟩
  · have he : RL[r]? = some RL[r] := List.getElem?_eq_getElem hr
    refine Or.inl ⟨r, RL[r], hr, he, e, by rw [h, ob1_some, oz_1], ?_⟩
    rw [e, if_neg (nI_nn (by omega)), if_neg (fun z => by have := (n_le (a := 5) (by omega) (by omega)).mp z; omega), og_nI (by omega) (by omega), nI_tn (by omega), hrs r (by omega), he]
    rfl
  · refine Or.inr ⟨by rw [h2, ob1_some, oz_0], ?_⟩
    by_cases h0 : x < 0
    · rw [if_pos h0, oc_none]
    · rw [if_neg h0]
      by_cases h5 : (5 : Int32) ≤ x
      · rw [if_pos h5, oc_none]
      · rw [if_neg h5]
        obtain ⟨j, hj, rfl⟩ := n_of h0 (show x < nI 5 from Int32.not_le.mp h5) (by omega)
        have hjl : RL.length ≤ j := by
          rcases h with h | h
          · exact absurd h h0
          · exact (n_le (by omega) (by omega)).mp h
        rw [og_nI hj (by omega), nI_tn (by omega), hrs j hj, List.getElem?_eq_none hjl]
        rfl
theorem oe_rf {O : Type} {a : Nat} {k : Option O} : oe a a k = k := by unfold oe; rw [if_pos rfl]
theorem obr_0 {O : Type} {T : Nat → O} {K : Nat → Option O} {a : Nat} : obr (some (0, a)) T K = K a := rfl
theorem obr_1 {O : Type} {T : Nat → O} {K : Nat → Option O} {a : Nat} : obr (some (1, a)) T K = some (T 1) := rfl
/-- the invariant with one roll anew -/
theorem IV.rolled (h : IVc N t n m P d g od ad Ix Rx ta ea wa Ik Rk cmk In Rn AL AI AR rs RL I R) {Ix' I' : OI} {R' : RI} {rs' : OO} {RL' : List RLT} (hI : ∀ c, c ≠ 0 → c ≠ 7 → c ≠ 8 → I' c = I c) (hx : ∀ c, c ≠ 2 → Ix' c = Ix c) (hR : ∀ c, ¬ (11 ≤ c ∧ c ≤ 26) → R' c = R c) (hro : RO (t + 1) Ix' I' R' rs' RL') : IV N (t + 1) Ix' Rx ta ea wa Ik Rk cmk In Rn AL AI AR rs' RL' I' R' := by
  obtain ⟨A, X, ⟨d1, d2, d3, d4, d5⟩, K, ⟨n1, n2, n3, n4, n5, n6, n7⟩, nb, ba, ro⟩ := h
  refine ⟨n, m, P, d, g, od, ad, ac_sq9 A (hI 2 (by omega) (by omega) (by omega)) (hI 3 (by omega) (by omega) (by omega)) (hI 4 (by omega) (by omega) (by omega)) (fun c hc => hR c (by omega)), X.sq (fun c hc => hR c (by omega)), ⟨(hI 1 (by omega) (by omega) (by omega)).trans d1, (hx 0 (by omega)).trans d2, (hx 1 (by omega)).trans d3, d4, d5⟩, K, ⟨n1, (hI 5 (by omega) (by omega) (by omega)).trans n2, (hI 6 (by omega) (by omega) (by omega)).trans n3, n4, n5, ?_, ?_⟩, ⟨?_, ?_⟩, ⟨?_, ?_, ?_⟩, hro⟩
  · rw [hR 9 (by omega)]; exact n6
  · rw [hR 10 (by omega)]; exact n7
  · rw [hR 9 (by omega)]; exact nb.1
  · rw [hR 10 (by omega)]; exact nb.2
  · rw [hR 27 (by omega)]; exact ba.1
  · rw [hR 28 (by omega)]; exact ba.2.1
  · rw [hR 27 (by omega)]; exact ba.2.2
/-- a call on a roll: there is one, or none -/
abbrev RSim (RL : List RLT) (x : Int32) (good : Nat → RLT → Prop) (bad : Prop) : Prop := (∃ r e, r < RL.length ∧ RL[r]? = some e ∧ x = nI r ∧ good r e) ∨ bad
theorem sim_deliver (hN : 700 ≤ N) (ht : t ≤ 511) (h : IVc N t n m P d g od ad Ix Rx ta ea wa Ik Rk cmk In Rn AL AI AR rs RL I R) (x1 : Int32) :
    RSim RL x1 (fun r e => ∃ v nr' Ir' Rr' I' R', f_X5_deliver N e.2.2.1 e.1 Ix Rx Ik Rk cmk rs e.2.2.2.1 e.2.2.2.2 x1 = some (0, v, nr', Ir', Rr') ∧ f_X6_deliver N I R x1 = some (v, I', R') ∧ I' 0 = 0 ∧ ∀ adr', IV N (t + 1) Ix Rx ta ea wa Ik Rk cmk In Rn AL AI AR rs (RL.set r (e.1, adr', nr', Ir', Rr')) I' R')
      (f_X5B_deliver Ix Rx Ik Rk cmk rs x1 = some (1, 0) ∧ f_X6_deliver N I R x1 = some (0, va_up I 0 1, R) ∧ IV N (t + 1) Ix Rx ta ea wa Ik Rk cmk In Rn AL AI AR rs RL (va_up I 0 1) R) := by
  have h9 := h
  obtain ⟨A, X, ⟨d1, d2, d3, d4, d5⟩, K, NR, nb, ba, ⟨M, r1, r2, r3, r4, r5, r6, r7, r8, r9⟩⟩ := h
  have hP := A.P24
  unfold f_X5B_deliver f_X6_deliver f_X6_deliver_j14
  rcases roll_c (Ix := Ix) (Rx := Rx) (R := R) r3 r4 r6 x1 with ⟨r, e, hr, he, rfl, a1, a2⟩ | ⟨a1, a2⟩
  · refine Or.inl ⟨r, e, hr, he, rfl, ?_⟩
    obtain ⟨R1, f1, f3, f4, f5, f6⟩ := kept_all (A_up0 A 0) X (show 200 ≤ N by omega) K
    have f4' : ∀ c, 20 ≤ c → R1 c = R c := fun c hc => f4 c (by omega)
    have roR1 : ∀ i e, RL[i]? = some e → RO1 R1 M i e.2.2.1 e.2.2.2.1 e.2.2.2.2 := fun i e he => by
      have z := r7 i e he
      unfold RO1 at z ⊢
      rw [msgs_c (f4' 25 (by omega)) (f4' 26 (by omega)), f4' 22 (by omega), f4' 23 (by omega), f4' 24 (by omega)]
      exact z
    have sd : SD t r 0 M e.2.2.1 (va_up I 0 0) R1 (va_up I 0 0) R1 e.2.2.2.1 e.2.2.2.2 RL := ⟨fun _ _ => rfl, (up_ne (by omega)).trans r2, fun _ _ _ _ => rfl, roR1 r e he, fun i e' _ he' => roR1 i e' he', by omega, by rw [f4' 25 (by omega)]; exact r8, by rw [f4' 24 (by omega)]; exact r9⟩
    obtain ⟨nr', S', M', Ia', R', Ir', Rr', z1, z2, z3⟩ := send_g (N := N) (Rx := Rx) (cmk := cmk) (rs := rs) (or := e.1) X.dd d4 ((up_ne (by omega)).trans d1) ((up_ne (by omega)).trans A.iP) d3 hP f3 f6 hr r3 ht (show 200 ≤ N by omega) P 0 0 M R1 (va_up I 0 0) e.2.2.2.1 e.2.2.2.2 N N (by omega) (by omega) (by omega) sd
    obtain ⟨s1, s2, s3, s4, s5, s6, s7, s8⟩ := z3
    refine ⟨nI S', nr', Ir', Rr', Ia', R', ?_, ?_, (s1 0 (by omega)).trans up_same, fun adr' => ?_⟩
    · unfold f_X5_deliver
      rw [a2, obr_0, oe_rf]
      exact z1
    · rw [a1, ob1_some, if_neg one0, refused_0, ob2_mk, if_pos rfl]
      unfold f_X6_send
      rw [up_ne (show (1 : Nat) ≠ 0 by omega), d1, f1, ob1_some]
      have z2' : f_X6_send_l17 N N (va_up I 0 0) R1 (nI r) 1 0 0 = some (nI S', Ia', R') := z2
      rw [z2', ob3_mk]
    · refine IV.rolled h9 (fun c c0 c7 c8 => (s1 c c8).trans (up_ne c0)) (fun _ _ => rfl) (fun c hc => (s3 c (by omega) (by omega) (by omega)).trans (f4 c (by omega))) ⟨M', by omega, s2, by rw [List.length_set]; exact r3, by rw [List.length_set]; exact (s1 7 (by omega)).trans ((up_ne (by omega)).trans r4), by rw [List.length_set]; exact r5, fun i hi => ?_, fun i e' he' => ?_, by rw [List.length_set]; exact s7, by rw [List.length_set]; exact s8⟩
      · rw [r6 i hi, List.getElem?_set]
        by_cases ei : r = i
        · rw [if_pos ei, ← ei, if_pos hr, he]
          rfl
        · rw [if_neg ei]
      · rw [List.getElem?_set] at he'
        by_cases ei : r = i
        · rw [if_pos ei, if_pos hr] at he'
          injection he' with he'
          rw [← he', ← ei]
          exact s4
        · rw [if_neg ei] at he'
          exact s5 i e' (fun z => ei z.symm) he'
  · refine Or.inr ⟨by rw [a2, obr_1], ?_, askI h9 1⟩
    rw [a1, ob1_some, if_pos rfl, refused_1, ob2_mk, if_neg one0]
theorem sim_owes (hN : 700 ≤ N) (h : IVc N t n m P d g od ad Ix Rx ta ea wa Ik Rk cmk In Rn AL AI AR rs RL I R) (x1 : Int32) :
    RSim RL x1 (fun _ e => ∃ v I' R', f_X5_owes N e.2.2.1 e.1 Ix Rx Ik Rk cmk rs e.2.2.2.1 e.2.2.2.2 x1 = some (0, v) ∧ f_X6_owes N I R x1 = some (v, I', R') ∧ I' 0 = 0 ∧ IV N (t + 1) Ix Rx ta ea wa Ik Rk cmk In Rn AL AI AR rs RL I' R')
      (f_X5B_owes Ix Rx Ik Rk cmk rs x1 = some (1, 0) ∧ f_X6_owes N I R x1 = some (0, va_up I 0 1, R) ∧ IV N (t + 1) Ix Rx ta ea wa Ik Rk cmk In Rn AL AI AR rs RL (va_up I 0 1) R) := by
  have h9 := h
  obtain ⟨A, X, ⟨d1, d2, d3, d4, d5⟩, K, NR, nb, ba, ⟨M, r1, r2, r3, r4, r5, r6, r7, r8, r9⟩⟩ := h
  have hP := A.P24
  unfold f_X5B_owes f_X6_owes f_X6_owes_j14
  rcases roll_c (Ix := Ix) (Rx := Rx) (R := R) r3 r4 r6 x1 with ⟨r, e, hr, he, rfl, a1, a2⟩ | ⟨a1, a2⟩
  · refine Or.inl ⟨r, e, hr, he, rfl, ?_⟩
    obtain ⟨R1, f1, f3, f4, f5, f6⟩ := kept_all (A_up0 A 0) X (show 200 ≤ N by omega) K
    have f4' : ∀ c, 20 ≤ c → R1 c = R c := fun c hc => f4 c (by omega)
    have roR1 : RO1 R1 M r e.2.2.1 e.2.2.2.1 e.2.2.2.2 := by
      have z := r7 r e he
      unfold RO1 at z ⊢
      rw [msgs_c (f4' 25 (by omega)) (f4' 26 (by omega)), f4' 22 (by omega), f4' 23 (by omega), f4' 24 (by omega)]
      exact z
    obtain ⟨S', z1, z2⟩ := owes_l (N := N) (Rx := Rx) (cmk := cmk) (rs := rs) (or := e.1) X.dd d4 ((up_ne (by omega)).trans d1) ((up_ne (by omega)).trans A.iP) (I0 := va_up I 0 0) d3 hP f3 f6 (show r < 5 by omega) roR1 P 0 0 N N (by omega) (by omega) (by omega)
    refine ⟨nI S', va_up I 0 0, R1, ?_, ?_, up_same, IV.ask h9 (fun c hc => up_ne hc) (fun c hc => f4 c (by omega)) LEq.rf⟩
    · unfold f_X5_owes
      rw [a2, obr_0, oe_rf]
      exact z1
    · rw [a1, ob1_some, if_neg one0, refused_0, ob2_mk, if_pos rfl]
      unfold f_X6_send
      rw [up_ne (show (1 : Nat) ≠ 0 by omega), d1, f1, ob1_some]
      have z2' : f_X6_send_l17 N N (va_up I 0 0) R1 (nI r) 0 0 0 = some (nI S', va_up I 0 0, R1) := z2
      rw [z2', ob3_mk]
  · refine Or.inr ⟨by rw [a2, obr_1], ?_, askI h9 1⟩
    rw [a1, ob1_some, if_pos rfl, refused_1, ob2_mk, if_neg one0]
theorem sim_holds (h : IVc N t n m P d g od ad Ix Rx ta ea wa Ik Rk cmk In Rn AL AI AR rs RL I R) (x1 x2 : Int32) :
    RSim RL x1 (fun _ e => ∃ k v w I', f_X5_holds e.2.2.1 e.1 Ix Rx rs e.2.2.2.1 e.2.2.2.2 x1 x2 = some (k, v) ∧ f_X6_holds R I x1 x2 = some (w, I') ∧ CRel e1 k (I' 0) ∧ (k = 0 → v = w) ∧ IV N (t + 1) Ix Rx ta ea wa Ik Rk cmk In Rn AL AI AR rs RL I' R)
      (f_X5B_holds Ix Rx rs x1 x2 = some (1, 0) ∧ f_X6_holds R I x1 x2 = some (0, va_up I 0 1) ∧ IV N (t + 1) Ix Rx ta ea wa Ik Rk cmk In Rn AL AI AR rs RL (va_up I 0 1) R) := by
  have h9 := h
  obtain ⟨A, X, ⟨d1, d2, d3, d4, d5⟩, K, NR, nb, ba, ⟨M, r1, r2, r3, r4, r5, r6, r7, r8, r9⟩⟩ := h
  have hP := A.P24
  have bad : f_X6_holds_j21 R I x1 x2 0 = some (0, va_up I 0 1) := by
    unfold f_X6_holds_j21 f_X6_holds_j32
    rw [if_pos rfl, refused_1, ob2_mk, if_neg one0]
  unfold f_X5B_holds f_X6_holds
  rcases roll_c (Ix := Ix) (Rx := Rx) (R := R) r3 r4 r6 x1 with ⟨r, e, hr, he, rfl, a1, a2⟩ | ⟨a1, a2⟩
  · refine Or.inl ⟨r, e, hr, he, rfl, ?_⟩
    dsimp only
    unfold f_X5_holds
    rw [a1, ob1_some, if_neg one0, a2, obr_0, oe_rf]
    rcases person_c (R := R) (Rx := Rx) hP A.iP d3 x2 with ⟨p, hp, rfl, b1, b2⟩ | ⟨-, b1, b2⟩
    · have hp24 : p < 24 := by omega
      have hix : (24 : Int32) * nI r + nI p = nI (24 * r + p) := by rw [show (24 : Int32) = nI 24 from rfl, nI_mul, nI_ad]
      rw [b1, b2, ob1_some, if_neg one0, obc_0, atv_nI hp24 (by omega), (r7 r e he).2.2.2.2.1 p hp24]
      refine ⟨0, _, _, va_up I 0 0, rfl, ?_, c0, fun _ => rfl, askI h9 0⟩
      unfold f_X6_holds_j21 f_X6_holds_j32
      rw [if_neg one0, refused_0, ob2_mk, if_pos rfl, hix, og_nI (by omega) (by omega), nI_tn (by omega)]
    · rw [b1, b2, ob1_some, if_pos rfl, obc_1, bad]
      refine ⟨1, 0, 0, _, rfl, rfl, ?_, n0e (by omega), askI h9 1⟩
      rw [up0]
      exact cE (b := 1) (by decide)
  · refine Or.inr ⟨by rw [a2, obr_1], ?_, askI h9 1⟩
    rw [a1, ob1_some, if_pos rfl, bad]
theorem anew_l {nr : Nat} {Ir : OI} {Rr : RI} {L : List Int32} {p : Nat} (h2 : Ir 2 = nI L.length) (hl : L.length ≤ nr) (hn : nr ≤ 12288) (hm : ∀ j, j < L.length → L[j]? = some (Rr 1 j)) : ∀ (c i : Nat) (f : Nat), i + c = L.length → c < f → f_X4_findAnew_l4 N nr Ir Rr f (nI p) ((L.take i).foldl (anewF p) (-1)) (nI i) = some (anew L p)
  | c, i, 0, _, hf => absurd hf (by omega)
  | 0, i, f + 1, hi, hf => by
    show f_X4_findAnew_l4b N nr Ir Rr (f_X4_findAnew_l4 N nr Ir Rr f) (nI p) _ (nI i) = _
    unfold f_X4_findAnew_l4b
    rw [h2, if_pos ((n_le (by omega) (by omega)).mpr (by omega)), List.take_of_length_le (by omega)]
    rfl
  | c + 1, i, f + 1, hi, hf => by
    have hil : i < L.length := by omega
    show f_X4_findAnew_l4b N nr Ir Rr (f_X4_findAnew_l4 N nr Ir Rr f) (nI p) _ (nI i) = _
    unfold f_X4_findAnew_l4b ogn f_X4_personIn f_X4_dwellingIn
    rw [h2, if_neg (fun e => by have := (n_le (by omega) (by omega)).mp e; omega), if_pos (by omega), ol_eq, atv_nI (by omega) (by omega), ob1_some]
    have r := anew_l h2 hl hn hm (p := p) c (i + 1) f (by omega) (by omega)
    have et : (L.take (i + 1)).foldl (anewF p) (-1) = anewF p ((L.take i).foldl (anewF p) (-1)) (Rr 1 i) := by
      rw [List.take_succ, hm i hil, List.foldl_append]
      rfl
    rw [et] at r
    unfold anewF at r
    simp only [ol_eq, nI_s9]
    by_cases e : Rr 1 i / 1000 = nI p
    · rw [if_pos e] at r ⊢
      by_cases e2 : Rr 1 i - Rr 1 i / 10 * 10 = 2
      · rw [if_pos e2] at r ⊢
        rw [ob1_some]; exact r
      · rw [if_neg e2] at r ⊢
        rw [ob1_some]; exact r
    · rw [if_neg e] at r ⊢
      exact r
theorem sim_holdsAnew (hN : 13000 ≤ N) (h : IVc N t n m P d g od ad Ix Rx ta ea wa Ik Rk cmk In Rn AL AI AR rs RL I R) (x1 x2 : Int32) :
    RSim RL x1 (fun _ e => ∃ k v w I', f_X5_holdsAnew N e.2.2.1 e.1 Ix Rx rs e.2.2.2.1 e.2.2.2.2 x1 x2 = some (k, v) ∧ f_X6_holdsAnew R I x1 x2 = some (w, I') ∧ CRel e1 k (I' 0) ∧ (k = 0 → v = w) ∧ IV N (t + 1) Ix Rx ta ea wa Ik Rk cmk In Rn AL AI AR rs RL I' R)
      (f_X5B_holdsAnew Ix Rx rs x1 x2 = some (1, 0) ∧ f_X6_holdsAnew R I x1 x2 = some (0, va_up I 0 1) ∧ IV N (t + 1) Ix Rx ta ea wa Ik Rk cmk In Rn AL AI AR rs RL (va_up I 0 1) R) := by
  have h9 := h
  obtain ⟨A, X, ⟨d1, d2, d3, d4, d5⟩, K, NR, nb, ba, ⟨M, r1, r2, r3, r4, r5, r6, r7, r8, r9⟩⟩ := h
  have hP := A.P24
  have bad : f_X6_holds_j21 R I x1 x2 0 = some (0, va_up I 0 1) := by
    unfold f_X6_holds_j21 f_X6_holds_j32
    rw [if_pos rfl, refused_1, ob2_mk, if_neg one0]
  unfold f_X5B_holdsAnew f_X6_holdsAnew f_X6_holds
  rcases roll_c (Ix := Ix) (Rx := Rx) (R := R) r3 r4 r6 x1 with ⟨r, e, hr, he, rfl, a1, a2⟩ | ⟨a1, a2⟩
  · refine Or.inl ⟨r, e, hr, he, rfl, ?_⟩
    dsimp only
    unfold f_X5_holdsAnew
    rw [a1, ob1_some, if_neg one0, a2, obr_0, oe_rf]
    rcases person_c (R := R) (Rx := Rx) hP A.iP d3 x2 with ⟨p, hp, rfl, b1, b2⟩ | ⟨-, b1, b2⟩
    · have hp24 : p < 24 := by omega
      have hix : (24 : Int32) * nI r + nI p = nI (24 * r + p) := by rw [show (24 : Int32) = nI 24 from rfl, nI_mul, nI_ad]
      obtain ⟨o0, o1, ok, oo, o24, o2, on1, on2, ogt, om, oa, ov⟩ := r7 r e he
      have := anew_l (N := N) (p := p) o2 ogt on2 om (msgs R r M).length 0 N (by omega) (by omega)
      rw [List.take_zero] at this
      have hf : f_X4_findAnew N e.2.2.1 e.2.2.2.1 e.2.2.2.2 (nI p) = some (anew (msgs R r M) p) := this
      rw [b1, b2, ob1_some, if_neg one0, obc_0, hf, ob1_some, oa p hp24]
      refine ⟨0, _, _, va_up I 0 0, rfl, ?_, c0, fun _ => rfl, askI h9 0⟩
      unfold f_X6_holds_j21 f_X6_holds_j32
      rw [if_neg one0, refused_0, ob2_mk, if_pos rfl, hix, og_nI (by omega) (by omega), nI_tn (by omega), ob2_mk]
    · rw [b1, b2, ob1_some, if_pos rfl, obc_1, bad, ob2_mk]
      refine ⟨1, 0, 0, _, rfl, rfl, ?_, n0e (by omega), askI h9 1⟩
      rw [up0]
      exact cE (b := 1) (by decide)
  · refine Or.inr ⟨by rw [a2, obr_1], ?_, askI h9 1⟩
    rw [a1, ob1_some, if_pos rfl, bad, ob2_mk]
/-- the reference looks for a message -/
theorem msg_l {r M pl : Nat} (hM : M ≤ 12288) (h8 : I 8 = nI M) (hroll : f_X6_isRoll I R (nI r) = some 1) (hr : r < 5) (hpl : pl < 2147483648) : ∀ (c i l : Nat) (f : Nat), i + c = M → c + 1 < f → pl = (msgs R r i).length + l → f_X6_message_l8 N R f I (nI r) (nI pl) (nI l) (-1) (nI i) = (if pl < (msgs R r M).length then some (((msgs R r M)[pl]?).getD 0, va_up I 0 0) else some (0, va_up I 0 1))
  | c, i, l, 0, _, hf, _ => absurd hf (by omega)
  | 0, i, l, f + 1, hi, hf, hl => by
    obtain rfl : i = M := by omega
    show f_X6_message_l8b N R (f_X6_message_l8 N R f) I (nI r) (nI pl) (nI l) (-1) (nI i) = _
    unfold f_X6_message_l8b f_X6_message_j89 f_X6_message_j101
    rw [h8, if_pos ((n_le (by omega) (by omega)).mpr (Nat.le_refl _)), if_pos rfl, refused_1, ob2_mk, if_neg one0, if_neg (by omega)]
  | c + 1, i, l, f + 1, hi, hf, hl => by
    have hle : ¬ nI M ≤ nI i := fun e => by have := (n_le (by omega) (by omega)).mp e; omega
    have em : msgs R r (i + 1) = msgs R r i ++ (if R 25 i = nI r then [R 26 i] else []) := rfl
    show f_X6_message_l8b N R (f_X6_message_l8 N R f) I (nI r) (nI pl) (nI l) (-1) (nI i) = _
    unfold f_X6_message_l8b
    rw [h8, if_neg hle, hroll, ob1_some, if_neg one0, if_neg (nI_nn hpl), if_pos rfl, og_nI (by omega) (by omega), nI_tn (by omega)]
    have j68a : ∀ y, f_X6_message_j68 N R (f_X6_message_l8 N R f) I (nI r) (nI pl) (nI l) (nI i) 0 y = f_X6_message_l8 N R f I (nI r) (nI pl) (nI l) y (nI (i + 1)) := fun y => by
      unfold f_X6_message_j68
      rw [if_pos rfl, ol_eq, ol_eq, nI_s9, show nI l - 0 = nI l from nI_sb (b := 0) (Nat.zero_le l)]
    have j68b : ∀ y, f_X6_message_j68 N R (f_X6_message_l8 N R f) I (nI r) (nI pl) (nI l) (nI i) 1 y = f_X6_message_l8 N R f I (nI r) (nI pl) (nI l - 1) y (nI (i + 1)) := fun y => by
      unfold f_X6_message_j68
      rw [if_neg one0, ol_eq, ol_eq, nI_s9]
    unfold f_X6_message_j51
    rw [j68a, j68b, j68b]
    by_cases e : R 25 i = nI r
    · rw [if_pos e, if_neg one0]
      rw [if_pos e] at em
      by_cases e0 : l = 0
      · subst e0
        rw [if_pos (show nI 0 = (0 : Int32) from rfl)]
        obtain ⟨f, rfl⟩ : ∃ z, f = z + 1 := ⟨f - 1, by omega⟩
        have j89 : f_X6_message_j89 N R I (nI i) = some (R 26 i, va_up I 0 0) := by
          unfold f_X6_message_j89 f_X6_message_j101
          rw [if_neg (nI_m1 (by omega)), refused_0, ob2_mk, if_pos rfl, og_nI (by omega) (by omega), nI_tn (by omega)]
        have hfin : f_X6_message_l8 N R (f + 1) I (nI r) (nI pl) (nI 0 - 1) (nI i) (nI (i + 1)) = some (R 26 i, va_up I 0 0) := by
          show f_X6_message_l8b N R (f_X6_message_l8 N R f) I (nI r) (nI pl) (nI 0 - 1) (nI i) (nI (i + 1)) = _
          unfold f_X6_message_l8b
          rw [hroll, ob1_some, if_neg one0, if_neg (nI_nn hpl), if_neg (nI_m1 (by omega)), j89]
          split <;> rfl
        rw [hfin]
        have hlen : (msgs R r (i + 1)).length = (msgs R r i).length + 1 := by rw [em, List.length_append]; rfl
        have hpre := msgs_pre (R := R) (r := r) (M - (i + 1)) (i + 1) pl (by omega)
        rw [show i + 1 + (M - (i + 1)) = M by omega] at hpre
        have hval : (msgs R r (i + 1))[pl]? = some (R 26 i) := by
          rw [em, hl, Nat.add_zero, List.getElem?_append_right (Nat.le_refl _), Nat.sub_self]
          rfl
        rw [hval] at hpre
        have hlt : pl < (msgs R r M).length := (List.getElem?_eq_some_iff.mp hpre).1
        rw [if_pos hlt, hpre]
        rfl
      · rw [if_neg (show ¬ nI l = (0 : Int32) from fun z => e0 ((n_eq (b := 0) (by omega) (by omega)).mp z))]
        obtain ⟨l, rfl⟩ : ∃ z, l = z + 1 := ⟨l - 1, by omega⟩
        rw [nI_p1]
        exact msg_l hM h8 hroll hr hpl c (i + 1) l f (by omega) (by omega) (by rw [em, List.length_append]; simp only [List.length_cons, List.length_nil]; omega)
    · rw [if_neg e, if_pos rfl]
      rw [if_neg e, List.append_nil] at em
      exact msg_l hM h8 hroll hr hpl c (i + 1) l f (by omega) (by omega) (by rw [em]; exact hl)
theorem sim_message (hN : 13000 ≤ N) (ht : t ≤ 511) (h : IVc N t n m P d g od ad Ix Rx ta ea wa Ik Rk cmk In Rn AL AI AR rs RL I R) (x1 x2 : Int32) :
    RSim RL x1 (fun _ e => ∃ k v w I', f_X5_message e.2.2.1 e.1 Ix Rx rs e.2.2.2.1 e.2.2.2.2 x1 x2 = some (k, v) ∧ f_X6_message N R I x1 x2 = some (w, I') ∧ CRel e1 k (I' 0) ∧ (k = 0 → v = w) ∧ IV N (t + 1) Ix Rx ta ea wa Ik Rk cmk In Rn AL AI AR rs RL I' R)
      (f_X5B_message Ix Rx rs x1 x2 = some (1, 0) ∧ f_X6_message N R I x1 x2 = some (0, va_up I 0 1) ∧ IV N (t + 1) Ix Rx ta ea wa Ik Rk cmk In Rn AL AI AR rs RL (va_up I 0 1) R) := by
  have h9 := h
  obtain ⟨A, X, ⟨d1, d2, d3, d4, d5⟩, K, NR, nb, ba, ⟨M, r1, r2, r3, r4, r5, r6, r7, r8, r9⟩⟩ := h
  have j89 : f_X6_message_j89 N R I (-1) = some (0, va_up I 0 1) := by
    unfold f_X6_message_j89 f_X6_message_j101
    rw [if_pos rfl, refused_1, ob2_mk, if_neg one0]
  have neg : x2 < 0 ∨ f_X6_isRoll I R x1 = some 0 → (f_X6_isRoll I R x1 = some 0 ∨ f_X6_isRoll I R x1 = some 1) → f_X6_message N R I x1 x2 = some (0, va_up I 0 1) := fun z z1 => by
    obtain ⟨f, rfl⟩ : ∃ z, N = z + 1 := ⟨N - 1, by omega⟩
    show f_X6_message_l8b (f + 1) R (f_X6_message_l8 (f + 1) R f) I x1 x2 x2 (-1) 0 = _
    unfold f_X6_message_l8b
    rw [j89]
    split
    · rfl
    · rcases z1 with z1 | z1
      · rw [z1, ob1_some, if_pos rfl]
      · rw [z1, ob1_some, if_neg one0]
        rcases z with z | z
        · rw [if_pos z]
        · rw [z1] at z
          exact absurd z (by decide)
  unfold f_X5B_message
  rcases roll_c (Ix := Ix) (Rx := Rx) (R := R) r3 r4 r6 x1 with ⟨r, e, hr, he, rfl, a1, a2⟩ | ⟨a1, a2⟩
  · refine Or.inl ⟨r, e, hr, he, rfl, ?_⟩
    have bad : ∃ k v w I', (some (1, (0 : Int32)) : Option (Nat × Int32)) = some (k, v) ∧ (some ((0 : Int32), va_up I 0 1) : Option (Int32 × OI)) = some (w, I') ∧ CRel e1 k (I' 0) ∧ (k = 0 → v = w) ∧ IV N (t + 1) Ix Rx ta ea wa Ik Rk cmk In Rn AL AI AR rs RL I' R := by
      refine ⟨1, 0, 0, _, rfl, rfl, ?_, n0e (by omega), askI h9 1⟩
      rw [up0]
      exact cE (b := 1) (by decide)
    dsimp only
    unfold f_X5_message f_X5_message_j18
    rw [a2, obr_0, oe_rf]
    by_cases h0 : x2 < 0
    · rw [if_pos h0, neg (Or.inl h0) (Or.inr a1)]
      exact bad
    · rw [if_neg h0]
      obtain ⟨o0, o1, ok, oo, o24, o2, on1, on2, ogt, om, oa, ov⟩ := r7 r e he
      obtain ⟨pl, hpl, rfl⟩ : ∃ pl, pl < 2147483648 ∧ x2 = nI pl := by
        have z0 : (0 : Int32).toInt = 0 := by decide
        have z1 := Int32.toInt_lt x2
        rw [Int32.lt_iff_toInt_lt, z0] at h0
        refine ⟨x2.toInt.toNat, by omega, ?_⟩
        rw [← Int32.toInt_inj, n_ti (by omega)]
        omega
      have hm := msg_l (N := N) (show M ≤ 12288 by omega) r2 a1 (show r < 5 by omega) hpl M 0 pl N (by omega) (by omega) (by show pl = 0 + pl; omega)
      have hm' : f_X6_message N R I (nI r) (nI pl) = _ := hm
      rw [hm', o2]
      by_cases hlt : pl < (msgs R r M).length
      · rw [if_pos ((n_lt (by omega) (by omega)).mpr hlt), if_pos hlt, om pl hlt]
        unfold ogn
        rw [if_pos (by omega), atv_nI (by omega) (by omega)]
        exact ⟨0, _, _, va_up I 0 0, rfl, rfl, c0, fun _ => rfl, askI h9 0⟩
      · rw [if_neg (fun z => hlt ((n_lt (by omega) (by omega)).mp z)), if_neg hlt]
        exact bad
  · exact Or.inr ⟨by rw [a2, obr_1], neg (Or.inr a1) (Or.inl a1), askI h9 1⟩
theorem fill_m1 {p : Nat} (hp : p < 24) : fillv 24 (fun _ => (0 : Int32)) (-1) p = -1 := by unfold fillv; rw [if_pos hp]
/-- a roll is begun -/
theorem sim_roll (h : IVc N t n m P d g od ad Ix Rx ta ea wa Ik Rk cmk In Rn AL AI AR rs RL I R) (x1 x2 : Int32) :
    ∃ out outM, f_X5_roll Rx rs Ix x1 x2 = some out ∧ f_X6_roll I R x1 x2 = some outM ∧ CRel e123 out.1 (outM.2.1 0) ∧ (out.1 = 0 → out.2.1 = outM.1 ∧ ∀ q adr, IV N (t + 1) out.2.2 Rx ta ea wa Ik Rk cmk In Rn AL AI AR (va_up rs out.2.1.toNatClampNeg (some q)) (RL ++ [(q, adr, 24, va_up (va_up (fun _ => 0) 0 x1) 1 x2, va_up (fun _ _ => 0) 0 (fillv 24 (fun _ => 0) (-1)))]) outM.2.1 outM.2.2) ∧ (out.1 ≠ 0 → IV N (t + 1) Ix Rx ta ea wa Ik Rk cmk In Rn AL AI AR rs RL outM.2.1 outM.2.2) := by
  have h9 := h
  obtain ⟨A, X, ⟨d1, d2, d3, d4, d5⟩, K, NR, nb, ba, ⟨M, r1, r2, r3, r4, r5, r6, r7, r8, r9⟩⟩ := h
  have bad : ∀ (y : Int32) (k b : Nat), y = nI b → (k, b) ∈ e123 → k ≠ 0 → f_X6_refused R I y = some (1, va_up I 0 y) → ∃ out outM, (some (k, (0 : Int32), Ix) : Option (Nat × Int32 × OI)) = some out ∧ f_X6_roll_j40 I R x1 x2 y = some outM ∧ CRel e123 out.1 (outM.2.1 0) ∧ (out.1 = 0 → out.2.1 = outM.1 ∧ ∀ q adr, IV N (t + 1) out.2.2 Rx ta ea wa Ik Rk cmk In Rn AL AI AR (va_up rs out.2.1.toNatClampNeg (some q)) (RL ++ [(q, adr, 24, va_up (va_up (fun _ => 0) 0 x1) 1 x2, va_up (fun _ _ => 0) 0 (fillv 24 (fun _ => 0) (-1)))]) outM.2.1 outM.2.2) ∧ (out.1 ≠ 0 → IV N (t + 1) Ix Rx ta ea wa Ik Rk cmk In Rn AL AI AR rs RL outM.2.1 outM.2.2) := by
    intro y k b hy hkb hk hr
    refine ⟨_, (0, va_up I 0 y, R), rfl, ?_, ?_, fun z => absurd z hk, fun _ => askI h9 y⟩
    · unfold f_X6_roll_j40
      rw [hr, ob2_mk, if_neg one0]
    · show CRel e123 k (va_up I 0 y 0)
      rw [up0, hy]
      exact cE hkb
  unfold f_X5_roll f_X6_roll f_X5_roll_j28
  rcases office_c x2 with ⟨o, ho, rfl, a1, a2⟩ | ⟨a1, a2⟩
  · rw [a1, a2, ob1_some, if_neg one0, obc_0]
    rcases within_c (a := 0) (b := 3) (by omega) (by omega) x1 with ⟨k, -, hk, rfl, b1, b2⟩ | ⟨b1, b2⟩
    · rw [show f_X6_within (nI k) 0 3 = some 1 from b1, show f_X5_requireWithin (nI k) 0 3 = some 0 from b2, ob1_some, if_neg one0, obc_0, ol_eq, r4, r5, if_neg (nI_nn (by omega))]
      by_cases hl : RL.length < 5
      · have hi150 : RL.length < 2147483648 := by omega
        rw [if_pos (show nI RL.length < (5 : Int32) from (n_lt (b := 5) (by omega) (by omega)).mpr hl), og_nI hl (by omega), if_neg (fun e => by have := (n_eq (b := 5) (by omega) (by omega)).mp e; omega), ol_eq, nI_s1]
        have hi : ∀ c, c ≠ 0 → c ≠ 7 → va_up (va_up I 0 0) 7 (nI (RL.length + 1)) c = I c := fun c z0 z7 => by rw [up_ne z7, up_ne z0]
        have hr' : ∀ c, c ≠ 22 → c ≠ 23 → va_up (va_up R 22 (upd (R 22) RL.length (nI k))) 23 (upd (R 23) RL.length (nI o)) c = R c := fun c z0 z7 => by rw [up_ne z7, up_ne z0]
        refine ⟨(0, nI RL.length, va_up Ix 2 (nI (RL.length + 1))), (nI RL.length, va_up (va_up I 0 0) 7 (nI (RL.length + 1)), va_up (va_up R 22 (upd (R 22) RL.length (nI k))) 23 (upd (R 23) RL.length (nI o))), rfl, ?_, ?_, fun _ => ⟨rfl, fun q adr => ?_⟩, fun z => absurd rfl z⟩
        · unfold f_X6_roll_j40
          rw [refused_0, ob2_mk, if_pos rfl, up_ne (show (7 : Nat) ≠ 0 by omega), r4, og_nI hl (by omega), nI_tn hi150, ol_eq, og_nI hl (by omega), ol_eq, ol_eq, nI_s1, up_same, nI_p1, up_ne (show (23 : Nat) ≠ 22 by omega)]
        · show CRel e123 0 (va_up (va_up I 0 0) 7 (nI (RL.length + 1)) 0)
          rw [up_ne (by omega), up0]
          exact c0
        · dsimp only
          rw [nI_tn hi150]
          have e25 := hr' 25 (by omega) (by omega)
          have e26 := hr' 26 (by omega) (by omega)
          have e24 := hr' 24 (by omega) (by omega)
          refine IV.rolled h9 (fun c z0 z7 _ => hi c z0 z7) (fun c hc => up_ne hc) (fun c hc => hr' c (by omega) (by omega)) ⟨M, by omega, (hi 8 (by omega) (by omega)).trans r2, by rw [List.length_append]; simp only [List.length_cons, List.length_nil]; omega, by rw [up_same, List.length_append]; rfl, by rw [up_same, List.length_append]; rfl, fun i hi => ?_, fun i e he => ?_, fun j hj => ?_, fun i p z1 z2 z3 => ?_⟩
          · by_cases e : i = RL.length
            · rw [e, up_same, List.getElem?_append_right (Nat.le_refl _), Nat.sub_self]
              rfl
            · rw [up_ne e, r6 i hi]
              by_cases e2 : i < RL.length
              · rw [List.getElem?_append_left e2]
              · rw [List.getElem?_eq_none (by omega), List.getElem?_eq_none (by rw [List.length_append]; simp only [List.length_cons, List.length_nil]; omega)]
          · by_cases e2 : i < RL.length
            · rw [List.getElem?_append_left e2] at he
              have z := r7 i e he
              unfold RO1 at z ⊢
              rw [msgs_c e25 e26, e24, up_ne (show (22 : Nat) ≠ 23 by omega), up_same, up_same, upd_ne (by omega), upd_ne (by omega)]
              exact z
            · have hil : i = RL.length := by
                have := (List.getElem?_eq_some_iff.mp he).1
                rw [List.length_append] at this
                simp only [List.length_cons, List.length_nil] at this
                omega
              rw [hil, List.getElem?_append_right (Nat.le_refl _), Nat.sub_self] at he
              have he2 : (q, adr, 24, va_up (va_up (fun _ => (0 : Int32)) 0 (nI k)) 1 (nI o), va_up (fun _ _ => (0 : Int32)) 0 (fillv 24 (fun _ => 0) (-1))) = e := by
                injection he
              subst he2
              have hmn : ∀ M', M' ≤ M → msgs R RL.length M' = [] := fun M' => by
                induction M' with
                | zero => intro _; rfl
                | succ M' ih =>
                  intro hM
                  show msgs R RL.length M' ++ (if R 25 M' = nI RL.length then [R 26 M'] else []) = []
                  rw [ih (by omega), List.nil_append, if_neg]
                  obtain ⟨i, hi, e⟩ := r8 M' (by omega)
                  rw [e]
                  exact fun z => by have := (n_eq (by omega) (by omega)).mp z; omega
              rw [hil]
              unfold RO1
              rw [msgs_c e25 e26, hmn M (Nat.le_refl _), e24, up_ne (show (22 : Nat) ≠ 23 by omega), up_same, up_same, upd_same, upd_same]
              refine ⟨?_, ?_, ⟨k, by omega, rfl⟩, ⟨o, ho, rfl⟩, fun p hp => ?_, ?_, by show 24 ≤ 24; omega, by show 24 ≤ 12288; omega, Nat.zero_le _, fun j hj => absurd hj (Nat.not_lt_zero j), fun p hp => ?_, fun p hp => ?_⟩
              · show va_up (va_up (fun _ => (0 : Int32)) 0 (nI k)) 1 (nI o) 0 = nI k
                rw [up_ne (by omega), up_same]
              · show va_up (va_up (fun _ => (0 : Int32)) 0 (nI k)) 1 (nI o) 1 = nI o
                rw [up_same]
              · show va_up (fun _ _ => (0 : Int32)) 0 (fillv 24 (fun _ => 0) (-1)) 0 p = _
                rw [up_same, fill_m1 hp, r9 _ p (Nat.le_refl _) hl hp]
              · show va_up (va_up (fun _ => (0 : Int32)) 0 (nI k)) 1 (nI o) 2 = nI 0
                rw [up_ne (by omega), up_ne (by omega)]
                rfl
              · rw [r9 _ p (Nat.le_refl _) hl hp]
                rfl
              · exact Or.inl (r9 _ p (Nat.le_refl _) hl hp)
          · rw [e25]
            obtain ⟨i, hi, e⟩ := r8 j hj
            exact ⟨i, by rw [List.length_append]; omega, e⟩
          · rw [e24]
            rw [List.length_append] at z1
            exact r9 i p (by omega) z2 z3
      · rw [if_neg (show ¬ nI RL.length < (5 : Int32) from fun e => hl ((n_lt (b := 5) (by omega) (by omega)).mp e)), if_pos (by rw [show RL.length = 5 by omega]; rfl)]
        exact bad 3 3 3 rfl (by decide) (by omega) refused_3
    · rw [show f_X6_within x1 0 3 = some 0 from b1, show f_X5_requireWithin x1 0 3 = some 2 from b2, ob1_some, if_pos rfl, obc_2]
      exact bad 2 2 2 rfl (by decide) (by omega) refused_2
  · rw [a1, a2, ob1_some, if_pos rfl, obc_1]
    exact bad 1 1 1 rfl (by decide) (by omega) refused_1
end sims
end PRs
