/-! ===== PURE: telling, both sides ===== -/
section PTx
theorem find_j34 {N : Nat} {AL : List Nat} {I : OI} {R : RI} {ta : Int32} {ea : Option Nat} {wa : OO} {Ik : OI} {Rk : RI} {cmk : Option Nat} {AI : Nat → OI} {AR : Nat → OO} {x : Nat} (hx : x ∈ AL) {Ia : OI} {Ra : RI} {ca : Option Nat} (h : f_X2_find N AL ta ea wa AI AR Ik Rk cmk (I 0) (I 0) = some (Ia, Ra, ca)) : f_X5_tell_j34 N AL I R ta ea wa Ik Rk cmk AI AR x = some (AI x 7, ta, ea, wa, Ia, Ra, ca, AI, AR) := by
  unfold f_X2_find at h
  unfold f_X5_tell_j34
  cases hb : f_X2_begin N AL ta ea wa AI AR Ik Rk cmk (I 0) with
  | none => rw [hb] at h; cases h
  | some b =>
    rw [hb, ob3_some] at h
    rw [ob3_some]
    cases hg : f_X2_goOn N AL AI AR b.1 b.2.1 b.2.2 (I 0) with
    | none => rw [hg] at h; cases h
    | some g =>
      rw [hg, ob3_some] at h
      rw [ob3_some, om_mem hx]
      obtain ⟨h1, h2, h3⟩ := some3 h
      rw [h1, h2, h3]
theorem upI7 {AI : Nat → OI} {q : Nat} {v : Int32} : upI AI q 7 v q 7 = v := by
  unfold upI
  rw [up_same, up_same]
theorem upIq {AI : Nat → OI} {q c : Nat} {v : Int32} (h : c ≠ 7) : upI AI q 7 v q c = AI q c := by
  unfold upI
  rw [up_same, up_ne h]
theorem upIy {AI : Nat → OI} {q y j : Nat} {v : Int32} (h : y ≠ q) : upI AI q j v y = AI y := by
  unfold upI
  rw [up_ne h]
theorem ob5_mk {P1 P2 P3 P4 P5 O : Type} {a : P1} {b : P2} {c : P3} {d : P4} {e : P5} {K : P1 → P2 → P3 → P4 → P5 → Option O} : ob5 (some (a, b, c, d, e)) K = K a b c d e := rfl
theorem ax_ext {n d : Nat} {R R' : RI} (X : AX n d R) (hR : ∀ c, c < 7 → ∀ i, i < n → R' c i = R c i) (h1 : ∃ b, b ≤ d ∧ R' 1 n = nI b) (h2 : R' 0 n ≠ 7 → R' 0 n ≠ 8 → ∃ b, b ≤ d ∧ R' 2 n = nI b) (h3 : R' 0 n = 0 ∨ R' 0 n = 1 → ∃ h, h < 16 ∧ R' 5 n = nI h) : AX (n + 1) d R' := by
  refine ⟨X.dd, fun i hi => ?_, fun i hi => ?_, fun i hi => ?_⟩
  · rcases lt_sq hi with h | h
    · rw [hR 1 (by omega) i h]; exact X.tl i h
    · rw [h]; exact h1
  · rcases lt_sq hi with h | h
    · rw [hR 0 (by omega) i h, hR 2 (by omega) i h]; exact X.so i h
    · rw [h]; exact h2
  · rcases lt_sq hi with h | h
    · rw [hR 0 (by omega) i h, hR 5 (by omega) i h]; exact X.dw i h
    · rw [h]; exact h3
section ext
variable {n m P d : Nat} {od ad : Nat → Nat} {I : OI} {R : RI} {AL : List Nat} {AI : Nat → OI} {AR : Nat → OO} {ta : Int32} {ea : Option Nat} {wa : OO}
/-- what a telling leaves, in both -/
abbrev TOut (N n m' P' d q : Nat) (od' ad : Nat → Nat) (AL : List Nat) (wa : OO) (I : OI) (R : RI) (I' : OI) (R' : RI) (ea' : Option Nat) (Ik' : OI) (Rk' : RI) (AI' : Nat → OI) (AR' : Nat → OO) : Prop := (I' 2 = nI (n + 1) ∧ I' 3 = nI m' ∧ ∀ c, c ≠ 2 → c ≠ 3 → I' c = I c) ∧ (∀ c, 9 ≤ c → R' c = R c) ∧ (∀ (I'' : OI) (R'' : RI), I'' 2 = nI (n + 1) → I'' 3 = nI m' → I'' 4 = nI P' → (∀ c, c < 9 → R'' c = R' c) → AC (n + 1) m' P' od' (adA ad n q) I'' R'' (AL ++ [q]) AI' AR' (nI (n + 1)) ea' (va_up wa n (some q)) ∧ AX (n + 1) d R'') ∧ KI N (AL ++ [q]) (nI (n + 1)) ea' (va_up wa n (some q)) AI' AR' d Rk' ∧ Ik' 0 = nI d
theorem ac_sq9 {n m P : Nat} {od ad : Nat → Nat} {I I' : OI} {R R' : RI} {AL : List Nat} {AI : Nat → OI} {AR : Nat → OO} {ta : Int32} {ea : Option Nat} {wa : OO} (A : AC n m P od ad I R AL AI AR ta ea wa) (h2 : I' 2 = I 2) (h3 : I' 3 = I 3) (h4 : I' 4 = I 4) (h : ∀ c, c < 9 → R' c = R c) : AC n m P od ad I' R' AL AI AR ta ea wa := by
  have e0 := h 0 (by omega)
  have e1 := h 1 (by omega)
  have e2 := h 2 (by omega)
  have e3 := h 3 (by omega)
  have e4 := h 4 (by omega)
  have e5 := h 5 (by omega)
  have e6 := h 6 (by omega)
  have e7 := h 7 (by omega)
  have e8 := h 8 (by omega)
  refine ⟨A.n150, A.mn, A.P24, h4.trans A.iP, h2.trans A.i2, h3.trans A.i3, A.tan, A.al, A.inj, A.war, ?_, ?_, ?_, ?_, ?_, ?_, ?_, A.c7, ?_, ?_, ?_, ?_, ?_, ?_, ?_, ?_, A.ch, A.hd, ?_⟩
  · rw [e0]; exact A.c0
  · rw [e1]; exact A.c1
  · rw [e2]; exact A.c2
  · rw [e3]; exact A.c3
  · rw [e0, e4]; exact A.c4
  · rw [e5]; exact A.c5
  · rw [e6]; exact A.c6
  · rw [e0]; exact A.kd
  · rw [e0, e3]; exact A.who
  · rw [e0, e4]; exact A.oth
  · rw [e0, e4]; exact A.ot3
  · rw [e0, e3, e4]; exact A.jn
  · rw [e0, e2]; exact A.sod
  · rw [e7]; exact A.sk
  · rw [e8, e0]; exact A.odr
  · rw [e2]; exact A.srt
theorem add_day {N q : Nat} (hn : n < 150) {AL' : List Nat} (hq : q ∈ AL') {AI0 : Nat → OI} {AR0 : Nat → OO} {ea' : Option Nat} {AR' : Nat → OO} (h2 : AI0 q 2 ≠ -1) (hc : f_X1_chain N AL' (nI (n + 1)) (va_up wa n (some q)) (upI AI0 q 7 (nI n)) ea AR0 q = some (ea', AR')) : f_X1_add N AL' (nI n) ea wa AI0 AR0 q = some (nI (n + 1), ea', va_up wa n (some q), upI AI0 q 7 (nI n), AR') := by
  unfold f_X1_add
  rw [if_neg (nI_nn (by omega)), if_pos (show nI n < (150 : Int32) from (n_lt (b := 150) (by omega) (by omega)).mpr hn), om_mem hq, og_nI hn (by omega), nI_tn (by omega), ol_eq, om_mem hq, om_mem hq, if_neg (by rw [upIq (by omega)]; exact h2), nI_s1, hc, ob2_some]
theorem add_none {N q : Nat} (hn : n < 150) {AL' : List Nat} (hq : q ∈ AL') {AI0 : Nat → OI} {AR0 : Nat → OO} (h2 : AI0 q 2 = -1) : f_X1_add N AL' (nI n) ea wa AI0 AR0 q = some (nI (n + 1), ea, va_up wa n (some q), upI AI0 q 7 (nI n), AR0) := by
  unfold f_X1_add
  rw [if_neg (nI_nn (by omega)), if_pos (show nI n < (150 : Int32) from (n_lt (b := 150) (by omega) (by omega)).mpr hn), om_mem hq, og_nI hn (by omega), nI_tn (by omega), ol_eq, om_mem hq, om_mem hq, if_pos (by rw [upIq (by omega)]; exact h2), nI_s1]
/-- an act with a day is told -/
theorem tell_core (A : AC n m P od ad I R AL AI AR ta ea wa) (X : AX n d R) {N : Nat} (hN : 200 ≤ N) (hn : n < 150) (hI1 : I 1 = nI d) {Ix : OI} {Rx : RI} (hx0 : Ix 0 = nI d) {Ik : OI} {Rk : RI} (hk0 : Ik 0 = nI d) (K : KI N AL ta ea wa AI AR d Rk) {P' : Nat} (hP : P ≤ P') (hP24 : P' ≤ 24)
    {k b w : Nat} {oth dw nm : Int32} (hk : k < 7) (hb : b ≤ d) (hw : w < P') (ho : PN P' oth) (ho3 : k = 3 ∨ k = 4 ∨ k = 6 → ¬ oth = -1) (hdw : k = 0 ∨ k = 1 → ∃ h, h < 16 ∧ dw = nI h)
    {q : Nat} (hqn : q ∉ AL) {AI0 : Nat → OI} {AR0 : Nat → OO} (hAI : ∀ i, i < n → AI0 (ad i) = AI (ad i)) (g0 : AI0 q 0 = nI k) (g1 : AI0 q 1 = nI d) (g2 : AI0 q 2 = nI b) (g3 : AI0 q 3 = nI w) (g4 : AI0 q 4 = oth) (g5 : AI0 q 5 = dw) (g6 : AI0 q 6 = nm) (hAR : ∀ i, i < n → AR0 (ad i) = AR (ad i)) (r0 : AR0 q 0 = none) :
    ∃ m' od' ea' Ik' Rk' AI' AR' I' R', f_X5_tell N (AL ++ [q]) Ix Rx ta ea wa Ik Rk none AI0 AR0 q = some (nI n, nI (n + 1), ea', va_up wa n (some q), Ik', Rk', none, AI', AR') ∧ f_X6_tell N I R (nI k) (nI b) (nI w) oth dw nm = some (nI n, I', R') ∧ TOut N n m' P' d q od' ad AL wa I R I' R' ea' Ik' Rk' AI' AR' := by
  have hmn := A.mn
  have hdd := X.dd
  have hq : q ∈ AL ++ [q] := List.mem_append_right _ (List.mem_singleton.mpr rfl)
  have hqa : ∀ i, i < n → ad i ≠ q := fun i hi e => hqn (e ▸ A.al i hi)
  have nk : ∀ z, z < 9 → k ≠ z → nI k ≠ nI z := fun z hz h e => h ((n_eq (by omega) (by omega)).mp e)
  have k7 : nI k ≠ 7 := nk 7 (by omega) (by omega)
  have k8 : nI k ≠ 8 := nk 8 (by omega) (by omega)
  have kz : ∀ z, z < 9 → nI k = nI z → k = z := fun z hz e => (n_eq (by omega) (by omega)).mp e
  obtain ⟨p, R', p1, p2, p3, p4, p5, p6⟩ := tell_day (N := N) (I := I) (R := R) (od := od) (x1 := nI k) (x2 := nI b) (x3 := nI w) (x4 := oth) (x5 := dw) (x6 := nm) hN hn hmn (fun j hj => ⟨(A.odr j hj).1, (A.odr j hj).2.1⟩) A.i2 A.i3 (by rw [show (7 : Int32) = nI 7 from rfl, n_le (by omega) (by omega)]; omega)
  have hlo : ∀ c, c < 8 → ∀ i, i < n → R' c i = R c i := fun c hc i hi => by rw [p3 c (by omega)]; exact tR_lo hc hi
  have v0 : R' 0 n = nI k := by rw [p3 0 (by omega), tR0, if_pos rfl]
  have v1 : R' 1 n = nI d := by rw [p3 1 (by omega), tR1, if_pos rfl, hI1]
  have v2 : R' 2 n = nI b := by rw [p3 2 (by omega), tR2, if_pos rfl]
  have v3 : R' 3 n = nI w := by rw [p3 3 (by omega), tR3, if_pos rfl]
  have v4 : R' 4 n = oth := by rw [p3 4 (by omega), tR4, if_pos rfl]
  have v5 : R' 5 n = dw := by rw [p3 5 (by omega), tR5, if_pos rfl]
  have v6 : R' 6 n = nm := by rw [p3 6 (by omega), tR6, if_pos rfl]
  have v7 : R' 7 n = -1 := by rw [p3 7 (by omega), tR7, if_pos rfl]
  obtain ⟨ea', AR', c1, c2, c3, c4⟩ := chain_new A (N := N) (q := q) (p := p) (x := nI b) (AI' := upI AI0 q 7 (nI n)) (AR0 := AR0) (ta' := nI (n + 1)) (wa' := va_up wa n (some q)) hqn hN (fun i hi => by rw [upIy (hqa i hi), hAI i hi]) (by rw [upIq (by omega)]; exact g2) (fun i hi => by rw [hAR i hi]) p1 p5 p6
  have hadd := add_day (N := N) (ea := ea) (wa := wa) (AI0 := AI0) (AR0 := AR0) hn hq (by rw [g2]; exact nI_m1 (by omega)) c1
  have hin : ∀ j, j < m + 1 → insA p n od j < n + 1 := fun j hj => by
    by_cases h1 : j < p
    · rw [insA_lt h1]; have := (A.odr j (by omega)).1; omega
    · by_cases h2 : j = p
      · rw [h2, insA_at]; omega
      · rw [insA_gt (by omega)]; have := (A.odr (j - 1) (by omega)).1; omega
  have hval : ∀ j, j < m + 1 → j ≠ p → ∃ z, z < m ∧ (z < p ↔ j < p) ∧ z + (if j < p then 0 else 1) = j ∧ insA p n od j = od z := fun j hj hp => by
    by_cases h1 : j < p
    · exact ⟨j, by omega, Iff.rfl, by rw [if_pos h1]; rfl, insA_lt h1⟩
    · exact ⟨j - 1, by omega, by omega, by rw [if_neg h1]; omega, insA_gt (by omega)⟩
  have hlow : ∀ i, i < p → R 2 (od i) ≤ nI b := fun i hi => Int32.le_trans (A.srt i (p - 1) (by omega) (by omega)) (p6 (by omega))
  have so' : ∀ j, j < m + 1 → (j < p → R' 2 (insA p n od j) ≤ nI b) ∧ (j = p → R' 2 (insA p n od j) = nI b) ∧ (p < j → nI b ≤ R' 2 (insA p n od j)) := fun j hj => by
    refine ⟨fun h => ?_, fun h => ?_, fun h => ?_⟩
    · rw [insA_lt h, hlo 2 (by omega) _ (A.odr j (by omega)).1]; exact hlow j h
    · rw [h, insA_at]; exact v2
    · rw [insA_gt h, hlo 2 (by omega) _ (A.odr (j - 1) (by omega)).1]; exact Int32.le_of_lt (p5 (j - 1) (by omega) (by omega))
  have hsrt : ∀ i j, i ≤ j → j < m + 1 → R' 2 (insA p n od i) ≤ R' 2 (insA p n od j) := fun i j hij hj => by
    obtain ⟨a1, a2, a3⟩ := so' i (by omega)
    obtain ⟨b1, b2, b3⟩ := so' j hj
    by_cases e1 : i = p
    · rw [a2 e1]
      by_cases e2 : j = p
      · rw [b2 e2]; exact Int32.le_refl _
      · exact b3 (by omega)
    · by_cases e2 : j = p
      · rw [b2 e2]; exact a1 (by omega)
      · by_cases h1 : i < p
        · by_cases h2 : j < p
          · rw [insA_lt h1, insA_lt h2, hlo 2 (by omega) _ (A.odr i (by omega)).1, hlo 2 (by omega) _ (A.odr j (by omega)).1]
            exact A.srt i j hij (by omega)
          · exact Int32.le_trans (a1 h1) (b3 (by omega))
        · rw [insA_gt (show p < i by omega), insA_gt (show p < j by omega), hlo 2 (by omega) _ (A.odr (i - 1) (by omega)).1, hlo 2 (by omega) _ (A.odr (j - 1) (by omega)).1]
          exact A.srt (i - 1) (j - 1) (by omega) (by omega)
  have AA : ∀ (I'' : OI) (R'' : RI), I'' 2 = nI (n + 1) → I'' 3 = nI (m + 1) → I'' 4 = nI P' → (∀ c, c < 9 → R'' c = R' c) → AC (n + 1) (m + 1) P' (insA p n od) (adA ad n q) I'' R'' (AL ++ [q]) (upI AI0 q 7 (nI n)) AR' (nI (n + 1)) ea' (va_up wa n (some q)) := by
    intro I'' R'' i2 i3 i4 hr
    refine ac_sq9 (I := I'') (R := R') ?_ rfl rfl rfl hr
    refine ac_ext A hqn hn hP hP24 (by omega) i4 i2 i3 (fun c hc i hi => hlo c (by omega) i hi) (fun c _ i hi => by rw [upIy (hqa i hi), hAI i hi]) ?_ ?_ ?_ ?_ ?_ ?_ ?_ ?_ (fun i => rfl) ⟨k, by omega, v0⟩ (fun _ => ⟨w, hw, v3⟩) (fun _ => by rw [v4]; exact ho) ?_ ?_ ?_ ?_ ?_ c3 ?_ hsrt
    · rw [upIq (by omega), g0, v0]
    · rw [upIq (by omega), g1, v1]
    · rw [upIq (by omega), g2, v2]
    · rw [upIq (by omega), g3, v3]
    · intro _; rw [upIq (by omega), g4, v4]
    · rw [upIq (by omega), g5, v5]
    · rw [upIq (by omega), g6, v6]
    · exact upI7
    · rw [v0, v4]
      intro h
      refine ho3 ?_
      rcases h with h | h | h
      · exact Or.inl (kz 3 (by omega) h)
      · exact Or.inr (Or.inl (kz 4 (by omega) h))
      · exact Or.inr (Or.inr (kz 6 (by omega) h))
    · rw [v0]; intro h; exact absurd h k7
    · rw [v0, v2]
      exact ⟨fun h => h.elim (fun h => absurd h k7) (fun h => absurd h k8), fun h => absurd h (nI_m1 (by omega))⟩
    · intro i hi
      rcases lt_sq hi with h | h
      · rw [hlo 7 (by omega) i h, adA_lt h, c2, hAR i h]
        rcases A.sk i h with h1 | ⟨z, h1, h2, h3⟩
        · exact Or.inl h1
        · exact Or.inr ⟨z, by omega, h2, by rw [h3, adA_lt h1]⟩
      · rw [h, adA_at, c2]; exact Or.inl ⟨v7, r0⟩
    · intro j hj
      refine ⟨hin j hj, p4 j (by omega), ?_⟩
      by_cases e : j = p
      · rw [e, insA_at]; exact ⟨k, hk, v0⟩
      · obtain ⟨z, hz, -, -, ez⟩ := hval j hj e
        rw [ez, hlo 0 (by omega) _ (A.odr z hz).1]
        exact (A.odr z hz).2.2
    · rw [if_pos (by omega)]; exact c4
  have XX : ∀ R'' : RI, (∀ c, c < 9 → R'' c = R' c) → AX (n + 1) d R'' := fun R'' hr => by
    refine (ax_ext X (fun c hc i hi => hlo c (by omega) i hi) ⟨d, Nat.le_refl d, v1⟩ (fun _ _ => ⟨b, hb, v2⟩) (fun h => ?_)).sq hr
    rw [v5]
    refine hdw ?_
    rw [v0] at h
    exact h.elim (fun h => Or.inl (kz 0 (by omega) h)) (fun h => Or.inr (kz 1 (by omega) h))
  have A1 := AA (va_up (va_up (va_up I 3 (nI (m + 1))) 2 (nI (n + 1))) 4 (nI P')) R' (by rw [up_ne (by omega), up_same]) (by rw [up_ne (by omega), up_ne (by omega), up_same]) up_same (fun _ _ => rfl)
  have X1 := XX R' (fun _ _ => rfl)
  have hII : (va_up (va_up I 3 (nI (m + 1))) 2 (nI (n + 1)) 2 = nI (n + 1) ∧ va_up (va_up I 3 (nI (m + 1))) 2 (nI (n + 1)) 3 = nI (m + 1) ∧ ∀ c, c ≠ 2 → c ≠ 3 → va_up (va_up I 3 (nI (m + 1))) 2 (nI (n + 1)) c = I c) := ⟨up_same, by rw [up_ne (by omega), up_same], fun c h2 h3 => by rw [up_ne h2, up_ne h3]⟩
  have hR9 : ∀ c, 9 ≤ c → R' c = R c := fun c hc => by rw [p3 c (by omega)]; exact tR_hi (by omega)
  have hrow : upI AI0 q 7 (nI n) q 2 ≠ -1 := by rw [upIq (by omega), g2]; exact nI_m1 (by omega)
  have hnext := c3 p (by omega)
  rw [insA_at, adA_at] at hnext
  by_cases hpm : p < m
  · rw [if_pos (by omega)] at hnext
    obtain ⟨Rb, c, -, f2, -, f4, f5, -⟩ := find_run A1 hN Ik Rk none (nI d) (nI d)
    have ec := all_cut A1 X1 (Nat.le_refl d) hdd f2 f4
    subst ec
    rw [show nth (m + 1) (insA p n od) (adA ad n q) (m + 1) = none by unfold nth; rw [if_neg (by omega)]] at f5
    refine ⟨m + 1, insA p n od, ea', va_up (va_up (va_up Ik 1 (nI d)) 0 0) 0 (nI d), _, upI AI0 q 7 (nI n), AR', _, R', ?_, p2, hII, hR9, fun I'' R'' i2 i3 i4 hr => ⟨AA I'' R'' i2 i3 i4 hr, XX R'' hr⟩, ki_any A1 hN f5, up_same⟩
    unfold f_X5_tell
    rw [A.tan, hadd, ob5_mk, om_mem hq, if_neg hrow, om_mem hq, hnext, oc_some, find_j34 hq (by rw [hx0]; exact f5), upI7]
  · have hpm' : p = m := by omega
    rw [if_neg (by omega)] at hnext
    refine ⟨m + 1, insA p n od, ea', Ik, hapv (upI AI0 q 7 (nI n)) q Rk, upI AI0 q 7 (nI n), AR', _, R', ?_, p2, hII, hR9, fun I'' R'' i2 i3 i4 hr => ⟨AA I'' R'' i2 i3 i4 hr, XX R'' hr⟩, ?_, hk0⟩
    · unfold f_X5_tell
      rw [A.tan, hadd, ob5_mk, om_mem hq, if_neg hrow, om_mem hq, hnext, oc_none, hap_v hq, ob1_some, om_mem hq, upI7]
    · have := ki_tell A X A1 X1 hN (fun j hj => insA_lt (by omega)) (by rw [← hpm', insA_at]) (fun i hi => adA_lt hi) hlo (fun i hi => by rw [upIy (hqa i hi), hAI i hi]) (by rw [v0]; exact k7) v7 K
      rw [adA_at] at this
      exact this
/-- .. and one without a day -/
theorem tell_coreN (A : AC n m P od ad I R AL AI AR ta ea wa) (X : AX n d R) {N : Nat} (hN : 200 ≤ N) (hn : n < 150) (hI1 : I 1 = nI d) {Ix : OI} {Rx : RI} (hx0 : Ix 0 = nI d) {Ik : OI} {Rk : RI}
    {Rm : RI} (hRm : ∀ c, c ≠ 7 → Rm c = R c) {k : Nat} {who oth : Int32} (hk : k = 7 ∨ k = 8) (jn : k = 7 → ∃ w o, w < o ∧ o < P ∧ who = nI w ∧ oth = nI o)
    {q : Nat} (hqn : q ∉ AL) {AI0 : Nat → OI} {AR0 : Nat → OO} (hAI : ∀ i, i < n → AI0 (ad i) = AI (ad i)) (g0 : AI0 q 0 = nI k) (g1 : AI0 q 1 = nI d) (g2 : AI0 q 2 = -1) (g3 : AI0 q 3 = who) (g4 : k = 7 → AI0 q 4 = oth) (g5 : AI0 q 5 = -1) (g6 : AI0 q 6 = -1) (hAR : ∀ i, i < n → AR0 (ad i) 1 = AR (ad i) 1) (r0 : AR0 q 0 = none)
    (hsk : ∀ i, i < n → (Rm 7 i = -1 ∧ AR0 (ad i) 0 = none) ∨ ∃ z, z < n + 1 ∧ Rm 7 i = nI z ∧ AR0 (ad i) 0 = some (adA ad n q z)) :
    ∃ m' od' ea' Ik' Rk' AI' AR' I' R', f_X5_tell N (AL ++ [q]) Ix Rx ta ea wa Ik Rk none AI0 AR0 q = some (nI n, nI (n + 1), ea', va_up wa n (some q), Ik', Rk', none, AI', AR') ∧ f_X6_tell N I Rm (nI k) (-1) who oth (-1) (-1) = some (nI n, I', R') ∧ TOut N n m' P d q od' ad AL wa I R I' R' ea' Ik' Rk' AI' AR' := by
  have hmn := A.mn
  have hdd := X.dd
  have hq : q ∈ AL ++ [q] := List.mem_append_right _ (List.mem_singleton.mpr rfl)
  have hqa : ∀ i, i < n → ad i ≠ q := fun i hi e => hqn (e ▸ A.al i hi)
  have k9 : k < 9 := by clear jn; omega
  have kz : ∀ z, z < 9 → nI k = nI z → k = z := fun z hz e => (n_eq (by omega) (by omega)).mp e
  have ht := tell_none (N := N) (I := I) (R := Rm) (x1 := nI k) (x2 := -1) (x3 := who) (x4 := oth) (x5 := -1) (x6 := -1) hn A.i2 (by clear jn; rw [show (7 : Int32) = nI 7 from rfl, n_le (by omega) (by omega)]; omega)
  have hlo : ∀ c, c < 7 → ∀ i, i < n → tR Rm n (I 1) (nI k) (-1) who oth (-1) (-1) c i = R c i := fun c hc i hi => by rw [tR_lo (by omega) hi, hRm c (by omega)]
  have v0 : tR Rm n (I 1) (nI k) (-1) who oth (-1) (-1) 0 n = nI k := by rw [tR0, if_pos rfl]
  have v1 : tR Rm n (I 1) (nI k) (-1) who oth (-1) (-1) 1 n = nI d := by rw [tR1, if_pos rfl, hI1]
  have v2 : tR Rm n (I 1) (nI k) (-1) who oth (-1) (-1) 2 n = -1 := by rw [tR2, if_pos rfl]
  have v3 : tR Rm n (I 1) (nI k) (-1) who oth (-1) (-1) 3 n = who := by rw [tR3, if_pos rfl]
  have v4 : tR Rm n (I 1) (nI k) (-1) who oth (-1) (-1) 4 n = oth := by rw [tR4, if_pos rfl]
  have v5 : tR Rm n (I 1) (nI k) (-1) who oth (-1) (-1) 5 n = -1 := by rw [tR5, if_pos rfl]
  have v6 : tR Rm n (I 1) (nI k) (-1) who oth (-1) (-1) 6 n = -1 := by rw [tR6, if_pos rfl]
  have v7 : tR Rm n (I 1) (nI k) (-1) who oth (-1) (-1) 7 n = -1 := by rw [tR7, if_pos rfl]
  have l7 : ∀ i, i < n → tR Rm n (I 1) (nI k) (-1) who oth (-1) (-1) 7 i = Rm 7 i := fun i hi => tR_lo (by omega) hi
  have l8 : tR Rm n (I 1) (nI k) (-1) who oth (-1) (-1) 8 = R 8 := by rw [tR_hi (by omega), hRm 8 (by omega)]
  have hR9 : ∀ c, 9 ≤ c → tR Rm n (I 1) (nI k) (-1) who oth (-1) (-1) c = R c := fun c hc => by rw [tR_hi (by omega), hRm c (by omega)]
  generalize tR Rm n (I 1) (nI k) (-1) who oth (-1) (-1) = R' at *
  have hadd := add_none (N := N) (ea := ea) (wa := wa) (AI0 := AI0) (AR0 := AR0) hn hq g2
  have kne : k = 7 ∨ k = 8 → ∀ z, z < 7 → nI k ≠ nI z := fun _ z hz e => by have := kz z (by omega) e; omega
  have AA : ∀ (I'' : OI) (R'' : RI), I'' 2 = nI (n + 1) → I'' 3 = nI m → I'' 4 = nI P → (∀ c, c < 9 → R'' c = R' c) → AC (n + 1) m P od (adA ad n q) I'' R'' (AL ++ [q]) (upI AI0 q 7 (nI n)) AR0 (nI (n + 1)) ea (va_up wa n (some q)) := by
    intro I'' R'' i2 i3 i4 hr
    refine ac_sq9 (I := I'') (R := R') ?_ rfl rfl rfl hr
    have j7 : R' 0 n ≠ 8 → k = 7 := fun h => by
      rcases hk with h1 | h1
      · exact h1
      · exact absurd (by rw [v0, h1]; rfl) h
    refine ac_ext A hqn hn (Nat.le_refl P) A.P24 (by omega) i4 i2 i3 hlo (fun c _ i hi => by rw [upIy (hqa i hi), hAI i hi]) ?_ ?_ ?_ ?_ ?_ ?_ ?_ ?_ (fun i => rfl) ⟨k, k9, v0⟩ ?_ ?_ ?_ ?_ ?_ ?_ ?_ ?_ ?_ ?_
    · rw [upIq (by omega), g0, v0]
    · rw [upIq (by omega), g1, v1]
    · rw [upIq (by omega), g2, v2]
    · rw [upIq (by omega), g3, v3]
    · intro h; rw [upIq (by omega), g4 (j7 h), v4]
    · rw [upIq (by omega), g5, v5]
    · rw [upIq (by omega), g6, v6]
    · exact upI7
    · intro h
      obtain ⟨w, o, h1, h2, h3, -⟩ := jn (j7 h)
      exact ⟨w, by omega, v3.trans h3⟩
    · intro h
      obtain ⟨w, o, h1, h2, -, h4⟩ := jn (j7 h)
      exact Or.inr ⟨o, h2, v4.trans h4⟩
    · rw [v0]
      intro h
      rcases h with h | h | h
      · exact absurd h (kne hk 3 (by omega))
      · exact absurd h (kne hk 4 (by omega))
      · exact absurd h (kne hk 6 (by omega))
    · intro h
      obtain ⟨w, o, h1, h2, h3, h4⟩ := jn (j7 (by rw [h]; decide))
      exact ⟨w, o, h1, h2, v3.trans h3, v4.trans h4⟩
    · rw [v0, v2]
      refine ⟨fun _ => rfl, fun _ => ?_⟩
      rcases hk with h | h
      · exact Or.inl (by rw [h]; rfl)
      · exact Or.inr (by rw [h]; rfl)
    · intro i hi
      rcases lt_sq hi with h | h
      · rw [l7 i h, adA_lt h]; exact hsk i h
      · rw [h, adA_at]; exact Or.inl ⟨v7, r0⟩
    · intro j hj
      obtain ⟨h1, h2, z, h3, h4⟩ := A.odr j hj
      exact ⟨by omega, by rw [l8]; exact h2, z, h3, by rw [hlo 0 (by omega) _ h1]; exact h4⟩
    · intro j hj
      rw [adA_lt (A.odr j hj).1, hAR _ (A.odr j hj).1, A.ch j hj]
      by_cases h : j + 1 < m
      · rw [if_pos h, if_pos h, adA_lt (A.odr _ h).1]
      · rw [if_neg h, if_neg h]
    · rw [A.hd]
      by_cases h : 0 < m
      · rw [if_pos h, if_pos h, adA_lt (A.odr _ h).1]
      · rw [if_neg h, if_neg h]
    · intro i j hij hj
      rw [hlo 2 (by omega) _ (A.odr i (by omega)).1, hlo 2 (by omega) _ (A.odr j hj).1]
      exact A.srt i j hij hj
  have XX : ∀ R'' : RI, (∀ c, c < 9 → R'' c = R' c) → AX (n + 1) d R'' := fun R'' hr => by
    refine (ax_ext X hlo ⟨d, Nat.le_refl d, v1⟩ (fun h1 h2 => ?_) (fun h => ?_)).sq hr
    · rw [v0] at h1 h2
      rcases hk with h | h
      · exact absurd (by rw [h]; rfl) h1
      · exact absurd (by rw [h]; rfl) h2
    · rw [v0] at h
      exact h.elim (fun h => absurd h (kne hk 0 (by omega))) (fun h => absurd h (kne hk 1 (by omega)))
  have A1 := AA (va_up I 2 (nI (n + 1))) R' up_same (by rw [up_ne (by omega)]; exact A.i3) (by rw [up_ne (by omega)]; exact A.iP) (fun _ _ => rfl)
  have X1 := XX R' (fun _ _ => rfl)
  have hrow : upI AI0 q 7 (nI n) q 2 = -1 := by rw [upIq (by omega)]; exact g2
  obtain ⟨Rb, c, -, f2, -, f4, f5, -⟩ := find_run A1 hN Ik Rk none (nI d) (nI d)
  have ec := all_cut A1 X1 (Nat.le_refl d) hdd f2 f4
  subst ec
  rw [show nth c od (adA ad n q) c = none by unfold nth; rw [if_neg (by omega)]] at f5
  refine ⟨c, od, ea, va_up (va_up (va_up Ik 1 (nI d)) 0 0) 0 (nI d), _, upI AI0 q 7 (nI n), AR0, _, R', ?_, ht, ⟨up_same, by rw [up_ne (by omega)]; exact A.i3, fun c h2 h3 => up_ne h2⟩, hR9, fun I'' R'' i2 i3 i4 hr => ⟨AA I'' R'' i2 i3 i4 hr, XX R'' hr⟩, ki_any A1 hN f5, up_same⟩
  unfold f_X5_tell
  rw [A.tan, hadd, ob5_mk, om_mem hq, if_pos hrow, find_j34 hq (by rw [hx0]; exact f5), upI7]
end ext
end PTx
