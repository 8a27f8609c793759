/-! ===== PURE: the telling calls, two ===== -/
section PTl2
section sims
variable {N t n m P d g : Nat} {od ad : Nat → Nat} {Ix : OI} {Rx : RI} {ta : Int32} {ea : Option Nat} {wa : OO} {Ik : OI} {Rk : RI} {cmk : Option Nat} {In : OI} {Rn : RI} {AL : List Nat} {AI : Nat → OI} {AR : Nat → OO} {rs : OO} {RL : List RLT} {I : OI} {R : RI}
theorem sim_naming (hN : 700 ≤ N) (h : IVc N t n m P d g od ad Ix Rx ta ea wa Ik Rk cmk In Rn AL AI AR rs RL I R) (x1 x2 x3 : Int32) : TSim e123 N t Ix Rx ta ea wa Ik Rk cmk In Rn AL AI AR rs RL (f_X5_naming N AL Ix Rx ta ea wa Ik Rk cmk AI AR x1 x2 x3) (f_X6_naming N I R x1 x2 x3) := by
  obtain rfl := h.1.tan
  have h9 := h
  obtain ⟨A, X, ⟨d1, d2, d3, d4, d5⟩, K, -⟩ := h
  have hP := A.P24
  have hdd := X.dd
  have bad : ∀ (y : Int32) (k b : Nat), y = nI b → (k, b) ∈ e123 → k ≠ 0 → f_X6_refused R I y = some (1, va_up I 0 y) → TSim e123 N t Ix Rx (nI n) ea wa Ik Rk cmk In Rn AL AI AR rs RL (some (fun _ => some (k, 0, nI n, ea, wa, Ik, Rk, cmk, AI, AR))) (f_X6_naming_j63 N I R x1 x2 x3 y) := by
    intro y k b hy hkb hk hr
    refine ⟨_, (0, va_up I 0 y, R), rfl, ?_, T_bad h9 hy hkb hk⟩
    unfold f_X6_naming_j63
    rw [hr, ob2_mk, if_neg one0]
  have hm : ∀ y : Int32, f_X6_isPerson I R x1 = some 0 → f_X6_naming_j24 N I R x1 x2 x3 y = f_X6_naming_j63 N I R x1 x2 x3 1 := fun y e => by
    unfold f_X6_naming_j24
    rw [e, ob1_some, if_pos rfl]
  have hm0 : f_X6_isPerson I R x1 = some 1 → f_X6_naming_j24 N I R x1 x2 x3 0 = f_X6_naming_j63 N I R x1 x2 x3 2 := fun e => by
    unfold f_X6_naming_j24
    rw [e, ob1_some, if_neg one0, if_pos rfl]
  unfold f_X5_naming f_X6_naming
  rcases person_c (R := R) (Rx := Rx) hP A.iP d3 x1 with ⟨p, hp, rfl, a1, a2⟩ | ⟨-, a1, a2⟩
  · rw [a2, obc_0, hm0 a1]
    rcases day_c (R := R) (Rx := Rx) hdd d1 d2 x2 with ⟨s, hs, rfl, e1, e2⟩ | ⟨-, e1, e2⟩
    · rw [e1, e2, ob1_some, if_neg one0, obc_0]
      rcases within_c (a := 0) (b := 999) (by omega) (by omega) x3 with ⟨v, -, hv, rfl, b1, b2⟩ | ⟨b1, b2⟩
      · rw [show f_X6_within (nI v) 0 999 = some 1 from b1, show f_X5_requireWithin (nI v) 0 999 = some 0 from b2, ob1_some, if_neg one0, obc_0]
        unfold f_X6_naming_j24
        rw [a1, ob1_some, if_neg one0, if_neg one0]
        rcases actLeft_c (Ix := Ix) (Rx := Rx) (ea := ea) (wa := wa) A.n150 A.i2 with ⟨hn, f1, f2⟩ | ⟨hn, f1, f2⟩
        · rw [if_neg f1, f2, obc_0]
          obtain ⟨I', R', t1, t2, t3⟩ := day_sim (k := 2) (b := s) (w := p) (oth := -1) (dw := -1) (nm := nI v) hN h9 hn (by omega) hs hp (Or.inl rfl) (fun z => by omega) (fun z => by omega)
          obtain ⟨outf, g1, g2⟩ := T_good (N := N) (t := t + 1) (Ix := Ix) (Rx := Rx) (In := In) (Rn := Rn) (AL := AL) (rs := rs) (RL := RL) (e := e123) (o0 := (0, nI n, ea, wa, Ik, Rk, cmk, AI, AR)) (v := nI n) t2 (K := fun q1 => ob2 (f_X0_init (AL ++ [q1]) (va_up AI q1 (fun _ => 0)) (va_up AR q1 (fun _ => none)) q1 2 (Ix 0) (nI s) (nI p) (-1)) (fun AI2 AR3 => om q1 (AL ++ [q1]) (ob9 (f_X5_tell N (AL ++ [q1]) Ix Rx (nI n) ea wa Ik Rk cmk (upI AI2 q1 6 (nI v)) AR3 q1) (fun r5 ta6 ea7 wa8 Ik9 Rk10 cmk11 AI12 AR13 => some (0, r5, ta6, ea7, wa8, Ik9, Rk10, cmk11, AI12, AR13))))) (fun q o8 z => by
              obtain ⟨r, -, z⟩ := ob_spec z
              obtain ⟨-, z⟩ := om_spec z
              obtain ⟨r2, -, z⟩ := ob_spec z
              injection z with z
              rw [← z]) (fun q hq => by
              obtain ⟨o9, q1, q2, q3⟩ := t3 q hq (upI (actI AI q 2 (Ix 0) (nI s) (nI p) (-1)) q 6 (nI v)) (fun y hy => (upIy hy).trans (actIy hy)) (by rw [upI_q, if_neg (by omega), actI0]; rfl) (by rw [upI_q, if_neg (by omega), actI1, d2]) (by rw [upI_q, if_neg (by omega), actI2]) (by rw [upI_q, if_neg (by omega), actI3]) (by rw [upI_q, if_neg (by omega), actI4]) (by rw [upI_q, if_neg (by omega), actI5]) (by rw [upI_q, if_pos rfl])
              refine ⟨o9, ?_, q2, q3⟩
              rw [init_v mem_q, ob2_mk, om_mem mem_q, q1, ob9_some])
          refine ⟨outf, _, g1, ?_, g2⟩
          unfold f_X6_naming_j63
          rw [refused_0, ob2_mk, if_pos rfl, show (2 : Int32) = nI 2 from rfl, t1, ob3_mk]
        · rw [if_pos f1, f2, obc_3]
          exact bad 3 3 3 rfl (by decide) (by omega) refused_3
      · rw [show f_X6_within x3 0 999 = some 0 from b1, show f_X5_requireWithin x3 0 999 = some 2 from b2, ob1_some, if_pos rfl, obc_2]
        exact bad 2 2 2 rfl (by decide) (by omega) refused_2
    · rw [e1, e2, ob1_some, if_pos rfl, obc_2]
      exact bad 2 2 2 rfl (by decide) (by omega) refused_2
  · rw [a2, obc_1, hm _ a1, hm _ a1]
    have hz : ob1 (f_X6_isDay I R x2) (fun r1 => if r1 = 0 then f_X6_naming_j63 N I R x1 x2 x3 1 else ob1 (f_X6_within x3 0 999) (fun r8 => if r8 = 0 then f_X6_naming_j63 N I R x1 x2 x3 1 else f_X6_naming_j63 N I R x1 x2 x3 1)) = f_X6_naming_j63 N I R x1 x2 x3 1 := by
      rcases day_c (R := R) (Rx := Rx) hdd d1 d2 x2 with ⟨s, hs, rfl, e1, e2⟩ | ⟨-, e1, e2⟩
      · rw [e1, ob1_some, if_neg one0]
        rcases within_c (a := 0) (b := 999) (by omega) (by omega) x3 with ⟨v, -, hv, rfl, b1, b2⟩ | ⟨b1, b2⟩
        · rw [show f_X6_within (nI v) 0 999 = some 1 from b1, ob1_some, if_neg one0]
        · rw [show f_X6_within x3 0 999 = some 0 from b1, ob1_some, if_pos rfl]
      · rw [e1, ob1_some, if_pos rfl]
    rw [hz]
    exact bad 1 1 1 rfl (by decide) (by omega) refused_1
theorem sim_death (hN : 700 ≤ N) (h : IVc N t n m P d g od ad Ix Rx ta ea wa Ik Rk cmk In Rn AL AI AR rs RL I R) (x1 x2 : Int32) : TSim e123 N t Ix Rx ta ea wa Ik Rk cmk In Rn AL AI AR rs RL (f_X5_death N AL Ix Rx ta ea wa Ik Rk cmk AI AR x1 x2) (f_X6_death N I R x1 x2) := by
  obtain rfl := h.1.tan
  have h9 := h
  obtain ⟨A, X, ⟨d1, d2, d3, d4, d5⟩, K, -⟩ := h
  have hP := A.P24
  have hdd := X.dd
  have bad : ∀ (y : Int32) (k b : Nat), y = nI b → (k, b) ∈ e123 → k ≠ 0 → f_X6_refused R I y = some (1, va_up I 0 y) → TSim e123 N t Ix Rx (nI n) ea wa Ik Rk cmk In Rn AL AI AR rs RL (some (fun _ => some (k, 0, nI n, ea, wa, Ik, Rk, cmk, AI, AR))) (f_X6_death_j40 N I R x1 x2 y) := by
    intro y k b hy hkb hk hr
    refine ⟨_, (0, va_up I 0 y, R), rfl, ?_, T_bad h9 hy hkb hk⟩
    unfold f_X6_death_j40
    rw [hr, ob2_mk, if_neg one0]
  unfold f_X5_death f_X6_death
  rcases person_c (R := R) (Rx := Rx) hP A.iP d3 x1 with ⟨p, hp, rfl, a1, a2⟩ | ⟨-, a1, a2⟩
  · rw [a1, a2, ob1_some, if_neg one0, obc_0]
    rcases day_c (R := R) (Rx := Rx) hdd d1 d2 x2 with ⟨s, hs, rfl, e1, e2⟩ | ⟨-, e1, e2⟩
    · rw [e1, e2, ob1_some, if_neg one0, obc_0]
      rcases actLeft_c (Ix := Ix) (Rx := Rx) (ea := ea) (wa := wa) A.n150 A.i2 with ⟨hn, f1, f2⟩ | ⟨hn, f1, f2⟩
      · rw [if_neg f1, f2, obc_0]
        obtain ⟨I', R', t1, t2, t3⟩ := day_sim (k := 5) (b := s) (w := p) (oth := -1) (dw := -1) (nm := -1) hN h9 hn (by omega) hs hp (Or.inl rfl) (fun z => by omega) (fun z => by omega)
        obtain ⟨outf, g1, g2⟩ := T_good (N := N) (t := t + 1) (Ix := Ix) (Rx := Rx) (In := In) (Rn := Rn) (AL := AL) (rs := rs) (RL := RL) (e := e123) (o0 := (0, nI n, ea, wa, Ik, Rk, cmk, AI, AR)) (v := nI n) t2 (K := fun q1 => ob2 (f_X0_init (AL ++ [q1]) (va_up AI q1 (fun _ => 0)) (va_up AR q1 (fun _ => none)) q1 5 (Ix 0) (nI s) (nI p) (-1)) (fun AI2 AR3 => ob9 (f_X5_tell N (AL ++ [q1]) Ix Rx (nI n) ea wa Ik Rk cmk AI2 AR3 q1) (fun r4 ta5 ea6 wa7 Ik8 Rk9 cmk10 AI11 AR12 => some (0, r4, ta5, ea6, wa7, Ik8, Rk9, cmk10, AI11, AR12)))) (fun q o8 z => by
            obtain ⟨r, -, z⟩ := ob_spec z
            obtain ⟨r2, -, z⟩ := ob_spec z
            injection z with z
            rw [← z]) (fun q hq => by
            obtain ⟨o9, q1, q2, q3⟩ := t3 q hq (actI AI q 5 (Ix 0) (nI s) (nI p) (-1)) (fun y hy => actIy hy) (by rw [actI0]; rfl) (by rw [actI1, d2]) actI2 actI3 actI4 actI5 actI6
            refine ⟨o9, ?_, q2, q3⟩
            rw [init_v mem_q, ob2_mk, q1, ob9_some])
        refine ⟨outf, _, g1, ?_, g2⟩
        unfold f_X6_death_j40
        rw [refused_0, ob2_mk, if_pos rfl, show (5 : Int32) = nI 5 from rfl, t1, ob3_mk]
      · rw [if_pos f1, f2, obc_3]
        exact bad 3 3 3 rfl (by decide) (by omega) refused_3
    · rw [e1, e2, ob1_some, if_pos rfl, obc_2]
      exact bad 2 2 2 rfl (by decide) (by omega) refused_2
  · rw [a1, a2, ob1_some, if_pos rfl, obc_1]
    exact bad 1 1 1 rfl (by decide) (by omega) refused_1
theorem sim_tie (hN : 700 ≤ N) (h : IVc N t n m P d g od ad Ix Rx ta ea wa Ik Rk cmk In Rn AL AI AR rs RL I R) (x1 x2 x3 x4 : Int32) : TSim e123 N t Ix Rx ta ea wa Ik Rk cmk In Rn AL AI AR rs RL (f_X5_tie N AL Ix Rx ta ea wa Ik Rk cmk AI AR x1 x2 x3 x4) (f_X6_tie N I R x1 x2 x3 x4) := by
  obtain rfl := h.1.tan
  have h9 := h
  obtain ⟨A, X, ⟨d1, d2, d3, d4, d5⟩, K, -⟩ := h
  have hP := A.P24
  have hdd := X.dd
  have bad : ∀ (y : Int32) (k b : Nat), y = nI b → (k, b) ∈ e123 → k ≠ 0 → f_X6_refused R I y = some (1, va_up I 0 y) → TSim e123 N t Ix Rx (nI n) ea wa Ik Rk cmk In Rn AL AI AR rs RL (some (fun _ => some (k, 0, nI n, ea, wa, Ik, Rk, cmk, AI, AR))) (f_X6_tie_j94 N I R x1 x2 x3 x4 y) := by
    intro y k b hy hkb hk hr
    refine ⟨_, (0, va_up I 0 y, R), rfl, ?_, T_bad h9 hy hkb hk⟩
    unfold f_X6_tie_j94
    rw [hr, ob2_mk, if_neg one0]
  have j58a : ∀ y : Int32, f_X6_tie_j58 N I R x1 x2 x3 x4 0 y = f_X6_tie_j94 N I R x1 x2 x3 x4 1 := fun y => by
    unfold f_X6_tie_j58
    rw [if_pos rfl]
  have j58b : f_X6_tie_j58 N I R x1 x2 x3 x4 1 0 = f_X6_tie_j94 N I R x1 x2 x3 x4 2 := by
    unfold f_X6_tie_j58
    rw [if_neg one0, if_pos rfl]
  have j39 : ∀ y : Int32, f_X6_tie_j39 N I R x1 x2 x3 x4 y = if f_X6_isDay I R x4 = some 1 ∧ ¬ x2 = x3 then f_X6_tie_j58 N I R x1 x2 x3 x4 y 1 else f_X6_tie_j58 N I R x1 x2 x3 x4 y 0 := fun y => by
    unfold f_X6_tie_j39
    rcases day_c (R := R) (Rx := Rx) hdd d1 d2 x4 with ⟨s, hs, -, e1, e2⟩ | ⟨-, e1, e2⟩
    · rw [e1, ob1_some, if_neg one0]
      by_cases e : x2 = x3
      · rw [if_pos e, if_neg (fun z => z.2 e)]
      · rw [if_neg e, if_pos ⟨rfl, e⟩]
    · rw [e1, ob1_some, if_pos rfl, if_neg (fun z => absurd z.1 (by decide))]
  have j21 : ∀ y : Int32, f_X6_tie_j21 N I R x1 x2 x3 x4 y = if x1 = 3 ∨ x1 = 4 ∨ x1 = 6 then f_X6_tie_j39 N I R x1 x2 x3 x4 y else f_X6_tie_j58 N I R x1 x2 x3 x4 y 0 := fun y => by
    unfold f_X6_tie_j21
    by_cases z3 : x1 = 3
    · rw [if_pos z3, if_pos (Or.inl z3)]
    · by_cases z4 : x1 = 4
      · rw [if_neg z3, if_pos z4, if_pos (Or.inr (Or.inl z4))]
      · by_cases z6 : x1 = 6
        · rw [if_neg z3, if_neg z4, if_pos z6, if_pos (Or.inr (Or.inr z6))]
        · rw [if_neg z3, if_neg z4, if_neg z6, if_neg]
          rintro (z | z | z)
          · exact z3 z
          · exact z4 z
          · exact z6 z
  have c36 : ∀ (z : Option (Nat → Option T10)), (if x1 = 3 then z else (if x1 = 4 then z else (if x1 = 6 then z else (some (fun _ => some (2, 0, nI n, ea, wa, Ik, Rk, cmk, AI, AR)))))) = if x1 = 3 ∨ x1 = 4 ∨ x1 = 6 then z else some (fun _ => some (2, 0, nI n, ea, wa, Ik, Rk, cmk, AI, AR)) := fun z => by
    by_cases z3 : x1 = 3
    · rw [if_pos z3, if_pos (Or.inl z3)]
    · by_cases z4 : x1 = 4
      · rw [if_neg z3, if_pos z4, if_pos (Or.inr (Or.inl z4))]
      · by_cases z6 : x1 = 6
        · rw [if_neg z3, if_neg z4, if_pos z6, if_pos (Or.inr (Or.inr z6))]
        · rw [if_neg z3, if_neg z4, if_neg z6, if_neg]
          rintro (z | z | z)
          · exact z3 z
          · exact z4 z
          · exact z6 z
  have m0 : f_X6_tie_j21 N I R x1 x2 x3 x4 0 = f_X6_tie_j94 N I R x1 x2 x3 x4 1 := by
    rw [j21, j39, j58a, j58a]
    split
    · split <;> rfl
    · rfl
  unfold f_X5_tie f_X6_tie
  rw [c36]
  rcases person_c (R := R) (Rx := Rx) hP A.iP d3 x2 with ⟨p, hp, rfl, a1, a2⟩ | ⟨-, a1, a2⟩
  · rw [a1, a2, ob1_some, if_neg one0, obc_0]
    rcases person_c (R := R) (Rx := Rx) hP A.iP d3 x3 with ⟨q0, hq0, rfl, b1, b2⟩ | ⟨-, b1, b2⟩
    · rw [b1, b2, ob1_some, if_neg one0, obc_0, j21]
      by_cases hk : x1 = 3 ∨ x1 = 4 ∨ x1 = 6
      · rw [if_pos hk, if_pos hk, j39]
        unfold f_X5_tie_j36 f_X5_requireUnlike
        rcases day_c (R := R) (Rx := Rx) hdd d1 d2 x4 with ⟨s, hs, rfl, e1, e2⟩ | ⟨-, e1, e2⟩
        · rw [e2, obc_0]
          by_cases hu : nI p = nI q0
          · rw [if_pos hu, obc_2, if_neg (fun z => z.2 hu), j58b]
            exact bad 2 2 2 rfl (by decide) (by omega) refused_2
          · rw [if_neg hu, obc_0, if_pos ⟨e1, hu⟩]
            unfold f_X6_tie_j58
            rw [if_neg one0, if_neg one0]
            rcases actLeft_c (Ix := Ix) (Rx := Rx) (ea := ea) (wa := wa) A.n150 A.i2 with ⟨hn, f1, f2⟩ | ⟨hn, f1, f2⟩
            · rw [if_neg f1, f2, obc_0]
              obtain ⟨k, hk7, ek⟩ : ∃ k, k < 7 ∧ x1 = nI k ∧ (k = 3 ∨ k = 4 ∨ k = 6) := by
                rcases hk with z | z | z
                · exact ⟨3, by omega, z, Or.inl rfl⟩
                · exact ⟨4, by omega, z, Or.inr (Or.inl rfl)⟩
                · exact ⟨6, by omega, z, Or.inr (Or.inr rfl)⟩
              obtain ⟨I', R', t1, t2, t3⟩ := day_sim (k := k) (b := s) (w := p) (oth := nI q0) (dw := -1) (nm := -1) hN h9 hn hk7 hs hp (Or.inr ⟨q0, hq0, rfl⟩) (fun _ => nI_m1 (by omega)) (fun z => by omega)
              obtain ⟨outf, g1, g2⟩ := T_good (N := N) (t := t + 1) (Ix := Ix) (Rx := Rx) (In := In) (Rn := Rn) (AL := AL) (rs := rs) (RL := RL) (e := e123) (o0 := (0, nI n, ea, wa, Ik, Rk, cmk, AI, AR)) (v := nI n) t2 (K := fun q1 => ob2 (f_X0_init (AL ++ [q1]) (va_up AI q1 (fun _ => 0)) (va_up AR q1 (fun _ => none)) q1 x1 (Ix 0) (nI s) (nI p) (nI q0)) (fun AI2 AR3 => ob9 (f_X5_tell N (AL ++ [q1]) Ix Rx (nI n) ea wa Ik Rk cmk AI2 AR3 q1) (fun r4 ta5 ea6 wa7 Ik8 Rk9 cmk10 AI11 AR12 => some (0, r4, ta5, ea6, wa7, Ik8, Rk9, cmk10, AI11, AR12)))) (fun q o8 z => by
                  obtain ⟨r, -, z⟩ := ob_spec z
                  obtain ⟨r2, -, z⟩ := ob_spec z
                  injection z with z
                  rw [← z]) (fun q hq => by
                  obtain ⟨o9, q1, q2, q3⟩ := t3 q hq (actI AI q x1 (Ix 0) (nI s) (nI p) (nI q0)) (fun y hy => actIy hy) (by rw [actI0]; exact ek.1) (by rw [actI1, d2]) actI2 actI3 actI4 actI5 actI6
                  refine ⟨o9, ?_, q2, q3⟩
                  rw [init_v mem_q, ob2_mk, q1, ob9_some])
              refine ⟨outf, _, g1, ?_, g2⟩
              unfold f_X6_tie_j94
              rw [refused_0, ob2_mk, if_pos rfl, ek.1, t1, ob3_mk]
            · rw [if_pos f1, f2, obc_3]
              exact bad 3 3 3 rfl (by decide) (by omega) refused_3
        · rw [e2, obc_2, if_neg (fun z => absurd (e1.symm.trans z.1) (by decide)), j58b]
          exact bad 2 2 2 rfl (by decide) (by omega) refused_2
      · rw [if_neg hk, if_neg hk, j58b]
        exact bad 2 2 2 rfl (by decide) (by omega) refused_2
    · rw [b1, b2, ob1_some, if_pos rfl, obc_1, m0]
      exact bad 1 1 1 rfl (by decide) (by omega) refused_1
  · rw [a1, a2, ob1_some, if_pos rfl, obc_1, m0]
    exact bad 1 1 1 rfl (by decide) (by omega) refused_1
/-- telling without a day -/
theorem none_sim (hN : 700 ≤ N) (h : IVc N t n m P d g od ad Ix Rx ta ea wa Ik Rk cmk In Rn AL AI AR rs RL I R) (hn : n < 150) {Rm : RI} (hRm : ∀ c, c ≠ 7 → Rm c = R c) {k : Nat} {who oth : Int32} (hk : k = 7 ∨ k = 8) (jn : k = 7 → ∃ w o, w < o ∧ o < P ∧ who = nI w ∧ oth = nI o) :
    ∃ I' R', f_X6_tell N (va_up I 0 0) Rm (nI k) (-1) who oth (-1) (-1) = some (nI n, I', R') ∧ I' 0 = 0 ∧ ∀ q, q ∉ AL → ∀ (AI0 : Nat → OI) (AR0 : Nat → OO), (∀ y, y ≠ q → AI0 y = AI y) → AI0 q 0 = nI k → AI0 q 1 = nI d → AI0 q 2 = -1 → AI0 q 3 = who → (k = 7 → AI0 q 4 = oth) → AI0 q 5 = -1 → AI0 q 6 = -1 → (∀ i, i < n → AR0 (ad i) 1 = AR (ad i) 1) → AR0 q 0 = none → (∀ i, i < n → (Rm 7 i = -1 ∧ AR0 (ad i) 0 = none) ∨ ∃ z, z < n + 1 ∧ Rm 7 i = nI z ∧ AR0 (ad i) 0 = some (adA ad n q z)) → ∃ o9 : T9, f_X5_tell N (AL ++ [q]) Ix Rx ta ea wa Ik Rk cmk AI0 AR0 q = some o9 ∧ o9.1 = nI n ∧ IV9 N (t + 1) Ix Rx o9 In Rn (AL ++ [q]) rs RL I' R' := by
  have h9 := h
  obtain ⟨A, X, ⟨d1, d2, d3, d4, d5⟩, K, -⟩ := h
  have A4 := A_up0 A 0
  have p2 := tell_none (N := N) (I := va_up I 0 0) (R := Rm) (x1 := nI k) (x2 := -1) (x3 := who) (x4 := oth) (x5 := -1) (x6 := -1) hn A4.i2 (by clear jn; rw [show (7 : Int32) = nI 7 from rfl, n_le (by omega) (by omega)]; omega)
  refine ⟨_, _, p2, by rw [up_ne (show (0 : Nat) ≠ 2 by omega), up_same], fun q hq AI0 AR0 hy g0 g1 g2 g3 g4 g5 g6 hAR r0 hsk => ?_⟩
  have hqa : ∀ i, i < n → ad i ≠ q := fun i hi e => hq (e ▸ A.al i hi)
  obtain ⟨m', od', ea', Ik', Rk', AI', AR', I2, R2, t1, t2, t3⟩ := tell_coreN A4 X (show 200 ≤ N by omega) hn ((up_ne (by omega)).trans d1) (Rx := Rx) d2 (Ik := Ik) (Rk := Rk) hRm hk jn hq (AI0 := AI0) (AR0 := AR0) (fun i hi => hy _ (hqa i hi)) g0 g1 g2 g3 g4 g5 g6 hAR r0 hsk
  rw [p2] at t2
  obtain ⟨-, e1, e2⟩ := some3 t2
  rw [d5]
  refine ⟨_, t1, rfl, ?_⟩
  rw [e1, e2]
  exact IV.told h9 t3
theorem sim_join (hN : 700 ≤ N) (h : IVc N t n m P d g od ad Ix Rx ta ea wa Ik Rk cmk In Rn AL AI AR rs RL I R) (x1 x2 : Int32) : TSim e123 N t Ix Rx ta ea wa Ik Rk cmk In Rn AL AI AR rs RL (f_X5_join N AL Ix Rx ta ea wa Ik Rk cmk AI AR x1 x2) (f_X6_join N I R x1 x2) := by
  obtain rfl := h.1.tan
  have h9 := h
  obtain ⟨A, X, ⟨d1, d2, d3, d4, d5⟩, K, -⟩ := h
  have hP := A.P24
  have hdd := X.dd
  have bad : ∀ (y : Int32) (k b : Nat), y = nI b → (k, b) ∈ e123 → k ≠ 0 → f_X6_refused R I y = some (1, va_up I 0 y) → TSim e123 N t Ix Rx (nI n) ea wa Ik Rk cmk In Rn AL AI AR rs RL (some (fun _ => some (k, 0, nI n, ea, wa, Ik, Rk, cmk, AI, AR))) (f_X6_join_j55 N I R x1 x2 y) := by
    intro y k b hy hkb hk hr
    refine ⟨_, (0, va_up I 0 y, R), rfl, ?_, T_bad h9 hy hkb hk⟩
    unfold f_X6_join_j55
    rw [hr, ob2_mk, if_neg one0]
  have m0 : f_X6_join_j21 N I R x1 x2 0 = f_X6_join_j55 N I R x1 x2 1 := by
    unfold f_X6_join_j21
    rw [if_pos rfl]
  unfold f_X5_join f_X6_join
  rcases person_c (R := R) (Rx := Rx) hP A.iP d3 x1 with ⟨p, hp, rfl, a1, a2⟩ | ⟨-, a1, a2⟩
  · rw [a1, a2, ob1_some, if_neg one0, obc_0]
    rcases person_c (R := R) (Rx := Rx) hP A.iP d3 x2 with ⟨q0, hq0, rfl, b1, b2⟩ | ⟨-, b1, b2⟩
    · rw [b1, b2, ob1_some, if_neg one0, obc_0]
      unfold f_X6_join_j21
      rw [if_neg one0]
      by_cases hl : nI p < nI q0
      · rw [if_pos hl, if_pos hl]
        have hl' := (n_lt (by omega) (by omega)).mp hl
        rcases actLeft_c (Ix := Ix) (Rx := Rx) (ea := ea) (wa := wa) A.n150 A.i2 with ⟨hn, f1, f2⟩ | ⟨hn, f1, f2⟩
        · rw [if_neg f1, f2, obc_0]
          obtain ⟨I', R', t1, t2, t3⟩ := none_sim (Rm := R) (k := 7) (who := nI p) (oth := nI q0) hN h9 hn (fun _ _ => rfl) (Or.inl rfl) (fun _ => ⟨p, q0, hl', hq0, rfl, rfl⟩)
          obtain ⟨outf, g1, g2⟩ := T_good (N := N) (t := t + 1) (Ix := Ix) (Rx := Rx) (In := In) (Rn := Rn) (AL := AL) (rs := rs) (RL := RL) (e := e123) (o0 := (0, nI n, ea, wa, Ik, Rk, cmk, AI, AR)) (v := nI n) t2 (K := fun q1 => ob2 (f_X0_init (AL ++ [q1]) (va_up AI q1 (fun _ => 0)) (va_up AR q1 (fun _ => none)) q1 7 (Ix 0) (-1) (nI p) (nI q0)) (fun AI2 AR3 => ob9 (f_X5_tell N (AL ++ [q1]) Ix Rx (nI n) ea wa Ik Rk cmk AI2 AR3 q1) (fun r4 ta5 ea6 wa7 Ik8 Rk9 cmk10 AI11 AR12 => some (0, r4, ta5, ea6, wa7, Ik8, Rk9, cmk10, AI11, AR12)))) (fun q o8 z => by
              obtain ⟨r, -, z⟩ := ob_spec z
              obtain ⟨r2, -, z⟩ := ob_spec z
              injection z with z
              rw [← z]) (fun q hq => by
              have hqa : ∀ i, i < n → ad i ≠ q := fun i hi e => hq (e ▸ A.al i hi)
              obtain ⟨o9, q1, q2, q3⟩ := t3 q hq (actI AI q 7 (Ix 0) (-1) (nI p) (nI q0)) (va_up AR q (fun _ => none)) (fun y hy => actIy hy) (by rw [actI0]; rfl) (by rw [actI1, d2]) actI2 actI3 (fun _ => actI4) actI5 actI6 (fun i hi => by rw [up_ne (hqa i hi)]) (by rw [up_same]) (fun i hi => by
                rw [up_ne (hqa i hi)]
                rcases A.sk i hi with s1 | ⟨z, s1, s2, s3⟩
                · exact Or.inl s1
                · exact Or.inr ⟨z, by omega, s2, by rw [s3, adA_lt s1]⟩)
              refine ⟨o9, ?_, q2, q3⟩
              rw [init_v mem_q, ob2_mk, q1, ob9_some])
          refine ⟨outf, _, g1, ?_, g2⟩
          unfold f_X6_join_j55
          rw [refused_0, ob2_mk, if_pos rfl, show (7 : Int32) = nI 7 from rfl, t1, ob3_mk]
        · rw [if_pos f1, f2, obc_3]
          exact bad 3 3 3 rfl (by decide) (by omega) refused_3
      · rw [if_neg hl, if_neg hl]
        exact bad 2 2 2 rfl (by decide) (by omega) refused_2
    · rw [b1, b2, ob1_some, if_pos rfl, obc_1, m0]
      exact bad 1 1 1 rfl (by decide) (by omega) refused_1
  · rw [a1, a2, ob1_some, if_pos rfl, obc_1, m0]
    exact bad 1 1 1 rfl (by decide) (by omega) refused_1
theorem sim_strike (hN : 700 ≤ N) (h : IVc N t n m P d g od ad Ix Rx ta ea wa Ik Rk cmk In Rn AL AI AR rs RL I R) (x1 : Int32) : TSim e13 N t Ix Rx ta ea wa Ik Rk cmk In Rn AL AI AR rs RL (f_X5_strike N AL Ix Rx ta ea wa Ik Rk cmk AI AR x1) (f_X6_strike N I R x1) := by
  obtain rfl := h.1.tan
  have h9 := h
  obtain ⟨A, X, ⟨d1, d2, d3, d4, d5⟩, K, -⟩ := h
  have hn150 := A.n150
  have bad : ∀ (y : Int32) (k b : Nat), y = nI b → (k, b) ∈ e13 → k ≠ 0 → f_X6_refused R I y = some (1, va_up I 0 y) → TSim e13 N t Ix Rx (nI n) ea wa Ik Rk cmk In Rn AL AI AR rs RL (some (fun _ => some (k, 0, nI n, ea, wa, Ik, Rk, cmk, AI, AR))) (f_X6_strike_j57 N I R x1 y) := by
    intro y k b hy hkb hk hr
    refine ⟨_, (0, va_up I 0 y, R), rfl, ?_, T_bad h9 hy hkb hk⟩
    unfold f_X6_strike_j57
    rw [hr, ob2_mk, if_neg one0]
  unfold f_X5_strike f_X6_strike f_X5_strike_j22
  rcases act_c (Ix := Ix) (Rx := Rx) A x1 with ⟨i0, hi0, rfl, a1, a2⟩ | ⟨a1, a2⟩
  · have ha := A.al i0 hi0
    rw [a1, a2, ob1_some, if_neg one0, og_nI (by omega) (by omega), nI_tn (by omega)]
    show TSim e13 N t Ix Rx (nI n) ea wa Ik Rk cmk In Rn AL AI AR rs RL (om (ad i0) AL _) _
    rw [om_mem ha, A.c0 i0 hi0]
    by_cases h8 : R 0 i0 = 8
    · rw [if_pos h8, if_pos h8]
      exact bad 2 3 2 rfl (by decide) (by omega) refused_2
    · rw [if_neg h8, if_neg h8, om_mem ha, og_nI (by omega) (by omega)]
      rcases A.sk i0 hi0 with ⟨s1, s2⟩ | ⟨z, hz, s1, s2⟩
      · rw [s2, oc_none, if_pos s1]
        rcases actLeft_c (Ix := Ix) (Rx := Rx) (ea := ea) (wa := wa) A.n150 A.i2 with ⟨hn, f1, f2⟩ | ⟨hn, f1, f2⟩
        · rw [if_neg f1, f2, obc_0]
          obtain ⟨I', R', t1, t2, t3⟩ := none_sim (Rm := va_up R 7 (upd (R 7) i0 (nI n))) (k := 8) (who := -1) (oth := nI i0) hN h9 hn (fun c hc => up_ne hc) (Or.inr rfl) (fun z => by omega)
          obtain ⟨outf, g1, g2⟩ := T_good (N := N) (t := t + 1) (Ix := Ix) (Rx := Rx) (In := In) (Rn := Rn) (AL := AL) (rs := rs) (RL := RL) (e := e13) (o0 := (0, nI n, ea, wa, Ik, Rk, cmk, AI, AR)) (v := nI n) t2 (K := fun q5 => ob2 (f_X0_init (AL ++ [q5]) (va_up AI q5 (fun _ => 0)) (va_up AR q5 (fun _ => none)) q5 8 (Ix 0) (-1) (-1) (-1)) (fun AI6 AR7 => om (ad i0) (AL ++ [q5]) (ob9 (f_X5_tell N (AL ++ [q5]) Ix Rx (nI n) ea wa Ik Rk cmk AI6 (upQ AR7 (ad i0) 0 (some q5)) q5) (fun r9 ta10 ea11 wa12 Ik13 Rk14 cmk15 AI16 AR17 => some (0, r9, ta10, ea11, wa12, Ik13, Rk14, cmk15, AI16, AR17))))) (fun q o8 z => by
              obtain ⟨r, -, z⟩ := ob_spec z
              obtain ⟨-, z⟩ := om_spec z
              obtain ⟨r2, -, z⟩ := ob_spec z
              injection z with z
              rw [← z]) (fun q hq => by
              have hqa : ∀ i, i < n → ad i ≠ q := fun i hi e => hq (e ▸ A.al i hi)
              have u0 : ∀ y, upQ (va_up AR q (fun _ => none)) (ad i0) 0 (some q) y 0 = if y = ad i0 then some q else va_up AR q (fun _ => none) y 0 := fun y => by
                unfold upQ
                by_cases e : y = ad i0
                · rw [if_pos e, e, up_same, up_same]
                · rw [if_neg e, up_ne e]
              have u1 : ∀ y, upQ (va_up AR q (fun _ => none)) (ad i0) 0 (some q) y 1 = va_up AR q (fun _ => none) y 1 := fun y => by
                unfold upQ
                by_cases e : y = ad i0
                · rw [e, up_same, up_ne (show (1 : Nat) ≠ 0 by omega)]
                · rw [up_ne e]
              obtain ⟨o9, q1, q2, q3⟩ := t3 q hq (actI AI q 8 (Ix 0) (-1) (-1) (-1)) (upQ (va_up AR q (fun _ => none)) (ad i0) 0 (some q)) (fun y hy => actIy hy) (by rw [actI0]; rfl) (by rw [actI1, d2]) actI2 actI3 (fun z => by omega) actI5 actI6 (fun i hi => by rw [u1, up_ne (hqa i hi)]) (by rw [u0, if_neg (fun e => hqa i0 hi0 e.symm), up_same]) (fun i hi => by
                rw [u0, up_same, upd_at]
                by_cases e : i = i0
                · rw [if_pos e, if_pos (show ad i = ad i0 by rw [e])]
                  exact Or.inr ⟨n, by omega, rfl, by rw [adA_at]⟩
                · rw [if_neg (fun z => e (A.inj i i0 hi hi0 z)), if_neg e, up_ne (hqa i hi)]
                  rcases A.sk i hi with s1 | ⟨z, s1, s2, s3⟩
                  · exact Or.inl s1
                  · exact Or.inr ⟨z, by omega, s2, by rw [s3, adA_lt s1]⟩)
              refine ⟨o9, ?_, q2, q3⟩
              rw [init_v mem_q, ob2_mk, om_mem (List.mem_append_left _ ha), q1, ob9_some])
          refine ⟨outf, _, g1, ?_, g2⟩
          unfold f_X6_strike_j57
          rw [refused_0, ob2_mk, if_pos rfl, og_nI (by omega) (by omega), nI_tn (by omega), ol_eq, up_ne (show (2 : Nat) ≠ 0 by omega), A.i2, show (8 : Int32) = nI 8 from rfl, t1, ob3_mk]
        · rw [if_pos f1, f2, obc_3]
          exact bad 2 3 2 rfl (by decide) (by omega) refused_2
      · rw [s2, oc_some, if_neg (by rw [s1]; exact nI_m1 (by omega))]
        exact bad 2 3 2 rfl (by decide) (by omega) refused_2
  · rw [a1, a2, ob1_some, if_pos rfl]
    exact bad 1 1 1 rfl (by decide) (by omega) refused_1
end sims
end PTl2
