/-! ===== PURE: what the plain answers are, call by call ===== -/
section PAn
theorem ip1 {P p : Nat} {I : OI} {R : RI} (hP : P ≤ 24) (hI : I 4 = nI P) (hp : p < P) : f_X6_isPerson I R (nI p) = some 1 := by
  rcases person_c (R := R) (Ix := fun _ => nI P) (Rx := R) hP hI rfl (nI p) with ⟨q, hq, e, h, -⟩ | ⟨h, -, -⟩
  · exact h
  · rcases h with h | h
    · exact absurd h (nI_nn (by omega))
    · have := (n_le (by omega) (by omega)).mp h; omega
theorem ip0 {P : Nat} {I : OI} {R : RI} {x : Int32} (hP : P ≤ 24) (hI : I 4 = nI P) (hx : x < 0 ∨ nI P ≤ x) : f_X6_isPerson I R x = some 0 := by
  rcases person_c (R := R) (Ix := fun _ => nI P) (Rx := R) hP hI rfl x with ⟨q, hq, rfl, -, -⟩ | ⟨-, h, -⟩
  · rcases hx with h | h
    · exact absurd h (nI_nn (by omega))
    · have := (n_le (by omega) (by omega)).mp h; omega
  · exact h
theorem id1 {d b : Nat} {I : OI} {R : RI} (hd : d ≤ 30000) (hI : I 1 = nI d) (hb : b ≤ d) : f_X6_isDay I R (nI b) = some 1 := by
  rcases day_c (R := R) (Ix := fun _ => nI d) (Rx := R) hd hI rfl (nI b) with ⟨q, hq, e, h, -⟩ | ⟨h, -, -⟩
  · exact h
  · rcases h with h | h
    · exact absurd h (nI_nn (by omega))
    · have := (n_lt (by omega) (by omega)).mp h; omega
theorem id0 {d : Nat} {I : OI} {R : RI} {x : Int32} (hd : d ≤ 30000) (hI : I 1 = nI d) (hx : x < 0 ∨ nI d < x) : f_X6_isDay I R x = some 0 := by
  rcases day_c (R := R) (Ix := fun _ => nI d) (Rx := R) hd hI rfl x with ⟨q, hq, rfl, -, -⟩ | ⟨-, h, -⟩
  · rcases hx with h | h
    · exact absurd h (nI_nn (by omega))
    · have := (n_lt (by omega) (by omega)).mp h; omega
  · exact h
theorem ia1 {n a : Nat} {I : OI} (hn : n ≤ 150) (hI : I 2 = nI n) (ha : a < n) : f_X6_within (nI a) 0 (I 2 - 1) = some 1 := by
  rw [hI]
  rcases first_m (x := nI a) (P := n) (by omega) with ⟨q, hq, e, h⟩ | ⟨h, -⟩
  · exact h
  · rcases h with h | h
    · exact absurd h (nI_nn (by omega))
    · have := (n_le (by omega) (by omega)).mp h; omega
theorem ia0 {n : Nat} {I : OI} {x : Int32} (hn : n ≤ 150) (hI : I 2 = nI n) (hx : x < 0 ∨ nI n ≤ x) : f_X6_within x 0 (I 2 - 1) = some 0 := by
  rw [hI]
  rcases first_m (x := x) (P := n) (by omega) with ⟨q, hq, rfl, -⟩ | ⟨-, h⟩
  · rcases hx with h | h
    · exact absurd h (nI_nn (by omega))
    · have := (n_le (by omega) (by omega)).mp h; omega
  · exact h
theorem w15 {h : Nat} (hh : h < 16) : f_X6_within (nI h) 0 15 = some 1 := within_1 (b := 15) (by omega) (by omega)
theorem w999 {h : Nat} (hh : h < 1000) : f_X6_within (nI h) 0 999 = some 1 := within_1 (b := 999) (by omega) (by omega)
theorem w3 {h : Nat} (hh : h < 4) : f_X6_within (nI h) 0 3 = some 1 := within_1 (b := 3) (by omega) (by omega)
theorem w4 {h : Nat} (hh : h < 5) : f_X6_within (nI h) 0 4 = some 1 := within_1 (b := 4) (by omega) (by omega)
theorem w6 {h : Nat} (hh : h < 7) : f_X6_within (nI h) 0 6 = some 1 := within_1 (b := 6) (by omega) (by omega)
theorem n150 {n : Nat} {x : Int32} (hx : x = nI n) (hn : n < 150) : ¬ x = 150 := fun e => by
  rw [hx] at e
  have := (n_eq (b := 150) (by omega) (by omega)).mp e
  omega
theorem n24 {n : Nat} {x : Int32} (hx : x = nI n) (hn : n < 24) : ¬ x = 24 := fun e => by
  rw [hx] at e
  have := (n_eq (b := 24) (by omega) (by omega)).mp e
  omega
theorem n60 {n : Nat} {x : Int32} (hx : x = nI n) (hn : n < 60) : ¬ x = 60 := fun e => by
  rw [hx] at e
  have := (n_eq (b := 60) (by omega) (by omega)).mp e
  omega
/-- an act is told -/
abbrev Told (n d : Nat) (I : OI) (R : RI) (x1 x2 x3 x4 x5 x6 : Int32) (z : Option (Int32 × OI × RI)) : Prop := ∃ I' R', z = some (nI n, I', R') ∧ I' 0 = 0 ∧ I' 2 = nI (n + 1) ∧ (∀ c, c ≠ 0 → c ≠ 2 → c ≠ 3 → I' c = I c) ∧ (∀ c, c ≠ 8 → R' c = tR R n (nI d) x1 x2 x3 x4 x5 x6 c)
section one
variable {N t n m P d g : Nat} {od ad : Nat → Nat} {Ix : OI} {Rx : RI} {ta : Int32} {ea : Option Nat} {wa : OO} {Ik : OI} {Rk : RI} {cmk : Option Nat} {In : OI} {Rn : RI} {AL : List Nat} {AI : Nat → OI} {AR : Nat → OO} {rs : OO} {RL : List RLT} {I : OI} {R : RI}
theorem m_tell (A : AC n m P od ad I R AL AI AR ta ea wa) (h1 : I 1 = nI d) (hN : 200 ≤ N) (hn : n < 150) {R0 : RI} (h8 : R0 8 = R 8) (h2 : ∀ c, c ≠ 7 → R0 c = R c) (x1 x2 x3 x4 x5 x6 : Int32) : Told n d I R0 x1 x2 x3 x4 x5 x6 (f_X6_tell N (va_up I 0 0) R0 x1 x2 x3 x4 x5 x6) := by
  have i2 : va_up I 0 0 2 = nI n := (up_ne (by omega)).trans A.i2
  have i3 : va_up I 0 0 3 = nI m := (up_ne (by omega)).trans A.i3
  have i1 : va_up I 0 0 1 = nI d := (up_ne (by omega)).trans h1
  by_cases hx : 7 ≤ x1
  · refine ⟨_, _, tell_none hn i2 hx, ?_, up_same, fun c c0 c2 c3 => ?_, fun c _ => by rw [i1]⟩
    · rw [up_ne (by omega), up_same]
    · rw [up_ne c2, up_ne c0]
  · obtain ⟨p, R', -, e, hR, -, -, -⟩ := tell_day (N := N) (R := R0) (x1 := x1) (x2 := x2) (x3 := x3) (x4 := x4) (x5 := x5) (x6 := x6) hN hn A.mn (fun j hj => ⟨(A.odr j hj).1, by rw [h8]; exact (A.odr j hj).2.1⟩) i2 i3 hx
    refine ⟨_, _, e, ?_, up_same, fun c c0 c2 c3 => ?_, fun c hc => by rw [hR c hc, i1]⟩
    · rw [up_ne (by omega), up_ne (by omega), up_same]
    · rw [up_ne c2, up_ne c3, up_ne c0]
theorem told_some {x1 x2 x3 x4 x5 x6 : Int32} {z : Option (Int32 × OI × RI)} (h : Told n d I R x1 x2 x3 x4 x5 x6 z) : Told n d I R x1 x2 x3 x4 x5 x6 (ob3 z (fun r5 I6 R7 => some (r5, I6, R7))) := by
  obtain ⟨I', R', e, h1⟩ := h
  exact ⟨I', R', by rw [e, ob3_mk], h1⟩
theorem m_move (h : IVc N t n m P d g od ad Ix Rx ta ea wa Ik Rk cmk In Rn AL AI AR rs RL I R) (hN : 200 ≤ N) (hn : n < 150) {p b w : Nat} (hp : p < P) (hb : b ≤ d) (hw : w < 16) : Told n d I R 1 (nI b) (nI p) (-1) (nI w) (-1) (f_X6_move N I R (nI p) (nI b) (nI w)) := by
  obtain ⟨A, X, ⟨d1, -⟩, -⟩ := h
  unfold f_X6_move f_X6_move_j23
  rw [ip1 A.P24 A.iP hp, ob1_some, if_neg one0, w15 hw, ob1_some, if_neg one0, if_neg one0, id1 X.dd d1 hb, ob1_some, if_neg one0, if_neg (n150 A.i2 hn)]
  unfold f_X6_move_j62
  rw [refused_0, ob2_mk, if_pos rfl]
  exact told_some (m_tell A d1 hN hn rfl (fun _ _ => rfl) _ _ _ _ _ _)
theorem m_naming (h : IVc N t n m P d g od ad Ix Rx ta ea wa Ik Rk cmk In Rn AL AI AR rs RL I R) (hN : 200 ≤ N) (hn : n < 150) {p b w : Nat} (hp : p < P) (hb : b ≤ d) (hw : w < 1000) : Told n d I R 2 (nI b) (nI p) (-1) (-1) (nI w) (f_X6_naming N I R (nI p) (nI b) (nI w)) := by
  obtain ⟨A, X, ⟨d1, -⟩, -⟩ := h
  unfold f_X6_naming f_X6_naming_j24
  rw [id1 X.dd d1 hb, ob1_some, if_neg one0, w999 hw, ob1_some, if_neg one0, ip1 A.P24 A.iP hp, ob1_some, if_neg one0, if_neg one0, if_neg (n150 A.i2 hn)]
  unfold f_X6_naming_j63
  rw [refused_0, ob2_mk, if_pos rfl]
  exact told_some (m_tell A d1 hN hn rfl (fun _ _ => rfl) _ _ _ _ _ _)
theorem m_death (h : IVc N t n m P d g od ad Ix Rx ta ea wa Ik Rk cmk In Rn AL AI AR rs RL I R) (hN : 200 ≤ N) (hn : n < 150) {p b : Nat} (hp : p < P) (hb : b ≤ d) : Told n d I R 5 (nI b) (nI p) (-1) (-1) (-1) (f_X6_death N I R (nI p) (nI b)) := by
  obtain ⟨A, X, ⟨d1, -⟩, -⟩ := h
  unfold f_X6_death
  rw [ip1 A.P24 A.iP hp, ob1_some, if_neg one0, id1 X.dd d1 hb, ob1_some, if_neg one0, if_neg (n150 A.i2 hn)]
  unfold f_X6_death_j40
  rw [refused_0, ob2_mk, if_pos rfl]
  exact told_some (m_tell A d1 hN hn rfl (fun _ _ => rfl) _ _ _ _ _ _)
theorem m_tie (h : IVc N t n m P d g od ad Ix Rx ta ea wa Ik Rk cmk In Rn AL AI AR rs RL I R) (hN : 200 ≤ N) (hn : n < 150) {k : Int32} (hk : k = 3 ∨ k = 4 ∨ k = 6) {p q b : Nat} (hp : p < P) (hq : q < P) (hpq : p ≠ q) (hb : b ≤ d) : Told n d I R k (nI b) (nI p) (nI q) (-1) (-1) (f_X6_tie N I R k (nI p) (nI q) (nI b)) := by
  obtain ⟨A, X, ⟨d1, -⟩, -⟩ := h
  have hP := A.P24
  have e1 : f_X6_tie N I R k (nI p) (nI q) (nI b) = f_X6_tie_j94 N I R k (nI p) (nI q) (nI b) 0 := by
    unfold f_X6_tie
    rw [ip1 A.P24 A.iP hp, ob1_some, if_neg one0, ip1 A.P24 A.iP hq, ob1_some, if_neg one0]
    have e2 : f_X6_tie_j39 N I R k (nI p) (nI q) (nI b) 1 = f_X6_tie_j94 N I R k (nI p) (nI q) (nI b) 0 := by
      unfold f_X6_tie_j39
      rw [id1 X.dd d1 hb, ob1_some, if_neg one0, if_neg (fun e => hpq ((n_eq (by omega) (by omega)).mp e))]
      unfold f_X6_tie_j58
      rw [if_neg one0, if_neg one0, if_neg (n150 A.i2 hn)]
    unfold f_X6_tie_j21
    rcases hk with rfl | rfl | rfl
    · rw [if_pos rfl, e2]
    · rw [if_neg (by decide), if_pos rfl, e2]
    · rw [if_neg (by decide), if_neg (by decide), if_pos rfl, e2]
  rw [e1]
  unfold f_X6_tie_j94
  rw [refused_0, ob2_mk, if_pos rfl]
  exact told_some (m_tell A d1 hN hn rfl (fun _ _ => rfl) _ _ _ _ _ _)
theorem m_join (h : IVc N t n m P d g od ad Ix Rx ta ea wa Ik Rk cmk In Rn AL AI AR rs RL I R) (hN : 200 ≤ N) (hn : n < 150) {p q : Nat} (hq : q < P) (hpq : p < q) : Told n d I R 7 (-1) (nI p) (nI q) (-1) (-1) (f_X6_join N I R (nI p) (nI q)) := by
  obtain ⟨A, X, ⟨d1, -⟩, -⟩ := h
  have hP := A.P24
  unfold f_X6_join f_X6_join_j21
  rw [ip1 A.P24 A.iP (show p < P by omega), ob1_some, if_neg one0, ip1 A.P24 A.iP hq, ob1_some, if_neg one0, if_neg one0, if_pos ((n_lt (by omega) (by omega)).mpr hpq), if_neg (n150 A.i2 hn)]
  unfold f_X6_join_j55
  rw [refused_0, ob2_mk, if_pos rfl]
  exact told_some (m_tell A d1 hN hn rfl (fun _ _ => rfl) _ _ _ _ _ _)
theorem m_strike (h : IVc N t n m P d g od ad Ix Rx ta ea wa Ik Rk cmk In Rn AL AI AR rs RL I R) (hN : 200 ≤ N) (hn : n < 150) {a : Nat} (ha : a < n) (h0 : R 0 a ≠ 8) (h7 : R 7 a = -1) : Told n d I (va_up R 7 (upd (R 7) a (nI n))) 8 (-1) (-1) (nI a) (-1) (-1) (f_X6_strike N I R (nI a)) := by
  obtain ⟨A, X, ⟨d1, -⟩, -⟩ := h
  unfold f_X6_strike
  rw [ia1 A.n150 A.i2 ha, ob1_some, if_neg one0, og_nI (show a < 150 by omega) (by omega), nI_tn (by omega), if_neg h0, og_nI (show a < 150 by omega) (by omega), if_pos h7, if_neg (n150 A.i2 hn)]
  unfold f_X6_strike_j57
  rw [refused_0, ob2_mk, if_pos rfl, og_nI (show a < 150 by omega) (by omega), ol_eq, nI_tn (by omega), show va_up I 0 0 2 = nI n from (up_ne (by omega)).trans A.i2]
  exact told_some (m_tell (R := R) A d1 hN hn (up_ne (by omega)) (fun c hc => up_ne hc) _ _ _ _ _ _)
theorem m_strike_no (h : IVc N t n m P d g od ad Ix Rx ta ea wa Ik Rk cmk In Rn AL AI AR rs RL I R) {a : Nat} (ha : a < n) (h0 : R 0 a = 8 ∨ R 7 a ≠ -1) : f_X6_strike N I R (nI a) = some (0, va_up I 0 2, R) := by
  obtain ⟨A, X, ⟨d1, -⟩, -⟩ := h
  have hn := A.n150
  have e : f_X6_strike_j57 N I R (nI a) 2 = some (0, va_up I 0 2, R) := by
    unfold f_X6_strike_j57
    rw [refused_2, ob2_mk, if_neg one0]
  unfold f_X6_strike
  rw [ia1 A.n150 A.i2 ha, ob1_some, if_neg one0, og_nI (show a < 150 by omega) (by omega), nI_tn (by omega)]
  by_cases h8 : R 0 a = 8
  · rw [if_pos h8, e]
  · rw [if_neg h8, og_nI (show a < 150 by omega) (by omega), if_neg (h0.resolve_left h8), e]
/-- a number that is given -/
def numv (g : Nat) : Nat := 10 * ser (g + 1) + chk (ser (g + 1))
theorem m_birth (h : IVc N t n m P d g od ad Ix Rx ta ea wa Ik Rk cmk In Rn AL AI AR rs RL I R) (hN : 200 ≤ N) (hn : n < 150) (hP : P < 24) (hg : g < 60) {b w v : Nat} {mo : Int32} (hb : b ≤ d) (hm : PN P mo) (hw : w < 16) (hv : v < 1000) : ∃ I' R', f_X6_birth N I R (nI b) mo (nI w) (nI v) = some (nI P, I', R') ∧ I' 0 = 0 ∧ I' 1 = I 1 ∧ I' 2 = nI (n + 1) ∧ I' 4 = nI (P + 1) ∧ I' 5 = nI (g + 1) ∧ I' 7 = I 7 ∧ (∀ c, c ≠ 8 → c ≠ 9 → c ≠ 10 → R' c = tR R n (nI d) 0 (nI b) (nI P) mo (nI w) (nI v) c) ∧ R' 9 = upd (R 9) g (nI (numv g)) ∧ R' 10 = upd (R 10) g (nI P) := by
  obtain ⟨A, X, ⟨d1, -⟩, -, ⟨g0, g5, g6, -⟩, -⟩ := h
  have e1 : f_X6_birth N I R (nI b) mo (nI w) (nI v) = f_X6_birth_j109 N I R (nI b) mo (nI w) (nI v) 0 := by
    have e2 : f_X6_birth_j13 N I R (nI b) mo (nI w) (nI v) = f_X6_birth_j109 N I R (nI b) mo (nI w) (nI v) 0 := by
      unfold f_X6_birth_j13
      rw [w15 hw, ob1_some, if_neg one0]
      unfold f_X6_birth_j28
      rw [id1 X.dd d1 hb, ob1_some, if_neg one0, w999 hv, ob1_some, if_neg one0]
      unfold f_X6_birth_j55
      rw [if_neg one0, if_neg one0, if_neg (n24 A.iP hP), if_neg (n150 A.i2 hn), if_neg (n60 g5 hg)]
    unfold f_X6_birth
    rcases hm with rfl | ⟨i, hi, rfl⟩
    · rw [if_pos rfl, e2]
    · rw [if_neg (nI_m1 (by omega)), ip1 A.P24 A.iP hi, ob1_some, if_neg one0, e2]
  obtain ⟨I1, R1, t1, t2, t3, t4, t5⟩ := m_tell A d1 hN hn rfl (fun _ _ => rfl) 0 (nI b) (nI P) mo (nI w) (nI v) (N := N)
  rw [e1]
  unfold f_X6_birth_j109
  rw [refused_0, ob2_mk, if_pos rfl, show va_up I 0 0 4 = nI P from (up_ne (by omega)).trans A.iP, t1, ob3_mk, t4 4 (by omega) (by omega) (by omega), A.iP, give_m (N := N) (g := g) (by omega) hg ((t4 5 (by omega) (by omega) (by omega)).trans g5) ((t4 6 (by omega) (by omega) (by omega)).trans g6), ob3_mk, ol_eq]
  have i4 : va_up (va_up I1 6 (nI (ser (g + 1)))) 5 (nI (g + 1)) 4 = nI P := by
    rw [up_ne (by omega), up_ne (by omega), t4 4 (by omega) (by omega) (by omega), A.iP]
  refine ⟨_, _, by rw [i4, up_same, nI_s1, nI_p1], ?_, ?_, ?_, up_same, ?_, ?_, ?_, ?_, ?_⟩
  · rw [up_ne (by omega), up_ne (by omega), up_ne (by omega), t2]
  · rw [up_ne (by omega), up_ne (by omega), up_ne (by omega), t4 1 (by omega) (by omega) (by omega)]
  · rw [up_ne (by omega), up_ne (by omega), up_ne (by omega), t3]
  · rw [up_ne (by omega), up_same]
  · rw [up_ne (by omega), up_ne (by omega), up_ne (by omega), t4 7 (by omega) (by omega) (by omega)]
  · intro c c8 c9 c10
    rw [up_ne c10, up_ne c9, t5 c c8]
  · rw [up_ne (by omega), up_same, t5 9 (by omega), tR_hi (by omega)]
    rfl
  · rw [up_same, t5 10 (by omega), tR_hi (by omega)]
theorem m_birth_no (h : IVc N t n m P d g od ad Ix Rx ta ea wa Ik Rk cmk In Rn AL AI AR rs RL I R) (hP : P = 24) {b w v : Nat} {mo : Int32} (hb : b ≤ d) (hm : PN P mo) (hw : w < 16) (hv : v < 1000) : f_X6_birth N I R (nI b) mo (nI w) (nI v) = some (0, va_up I 0 3, R) := by
  obtain ⟨A, X, ⟨d1, -⟩, -⟩ := h
  have e3 : f_X6_birth_j109 N I R (nI b) mo (nI w) (nI v) 3 = some (0, va_up I 0 3, R) := by
    unfold f_X6_birth_j109
    rw [refused_3, ob2_mk, if_neg one0]
  have e2 : f_X6_birth_j13 N I R (nI b) mo (nI w) (nI v) = some (0, va_up I 0 3, R) := by
    unfold f_X6_birth_j13
    rw [w15 hw, ob1_some, if_neg one0]
    unfold f_X6_birth_j28
    rw [id1 X.dd d1 hb, ob1_some, if_neg one0, w999 hv, ob1_some, if_neg one0]
    unfold f_X6_birth_j55
    rw [if_neg one0, if_neg one0, if_pos (by rw [A.iP, hP]; rfl), e3]
  unfold f_X6_birth
  rcases hm with rfl | ⟨i, hi, rfl⟩
  · rw [if_pos rfl, e2]
  · rw [if_neg (nI_m1 (by omega)), ip1 A.P24 A.iP hi, ob1_some, if_neg one0, e2]
theorem m_actOf (h : IVc N t n m P d g od ad Ix Rx ta ea wa Ik Rk cmk In Rn AL AI AR rs RL I R) {a : Nat} (ha : a < n) : f_X6_actOf R I (nI a) 0 = some (R 0 a, va_up I 0 0) ∧ f_X6_actOf R I (nI a) 1 = some (R 1 a, va_up I 0 0) ∧ f_X6_actOf R I (nI a) 2 = some (R 2 a, va_up I 0 0) ∧ f_X6_actOf R I (nI a) 3 = some (R 3 a, va_up I 0 0) ∧ f_X6_actOf R I (nI a) 4 = some (R 7 a, va_up I 0 0) := by
  obtain ⟨A, -⟩ := h
  have hn := A.n150
  unfold f_X6_actOf f_X6_actOf_j33
  rw [ia1 A.n150 A.i2 ha, ob1_some, if_neg one0]
  simp only [refused_0, ob2_mk, og_nI (show a < 150 by omega) (show 150 < 2147483648 by omega), nI_tn (show a < 2147483648 by omega)]
  refine ⟨rfl, rfl, rfl, rfl, rfl⟩
theorem m_number (h : IVc N t n m P d g od ad Ix Rx ta ea wa Ik Rk cmk In Rn AL AI AR rs RL I R) (hN : 200 ≤ N) {p j : Nat} (hp : p < P) (hj : j < g) (hx : R 10 j = nI p) (hl : ∀ i, j < i → i < g → R 10 i ≠ nI p) : f_X6_number N R I (nI p) = some (R 9 j, va_up I 0 0) := by
  obtain ⟨A, X, ⟨d1, -⟩, -, ⟨g0, g5, g6, -⟩, -⟩ := h
  unfold f_X6_number
  rw [ip1 A.P24 A.iP hp, ob1_some, if_neg one0]
  unfold f_X6_number_j14
  rw [refused_0, ob2_mk, if_pos rfl]
  exact num_m g0 ((up_ne (by omega)).trans g5) hj hx hl j 0 0 N (by omega) (by omega)
theorem last_p (h : IVc N t n m P d g od ad Ix Rx ta ea wa Ik Rk cmk In Rn AL AI AR rs RL I R) {p : Nat} (hp : p < P) : ∃ j, j < g ∧ R 10 j = nI p ∧ ∀ i, j < i → i < g → R 10 i ≠ nI p := by
  obtain ⟨A, X, D, K, NR, nb, -⟩ := h
  obtain ⟨j, hj, e⟩ := nb.2 p hp
  exact last_of (q := fun j => R 10 j = nI p) (fun j => inferInstance) g ⟨j, hj, e⟩
theorem num_at (h : IVc N t n m P d g od ad Ix Rx ta ea wa Ik Rk cmk In Rn AL AI AR rs RL I R) {j : Nat} (hj : j < g) : R 9 j = nI (numv j) := by
  obtain ⟨A, X, D, K, NR, nb, -⟩ := h
  exact nb.1 j hj
theorem ser_up : ∀ i, i < 60 → ∀ j, j < i → numv j < numv i := by decide +kernel
theorem ser_rng : ∀ j, j < 60 → 10010 ≤ numv j ∧ numv j ≤ 99999 ∧ f_X6_checkOf (nI (numv j) / 10) = some (nI (numv j) - nI (numv j) / 10 * 10) := by decide +kernel
theorem bear_at (hg : g ≤ 60) (h5 : I 5 = nI g) (hs : ∀ j, j < g → R 9 j = nI (numv j)) {j : Nat} (hj : j < g) : ∀ (c i : Nat) (y : Int32) (f : Nat), i + c = j → c + g + 1 < f → f_X6_bearer_l55 N R f I (nI (numv j)) y (nI i) = some (R 10 j, I)
  | 0, i, y, f, h, hf => by
    obtain ⟨f, rfl⟩ : ∃ z, f = z + 1 := ⟨f - 1, by omega⟩
    obtain rfl : i = j := by omega
    show f_X6_bearer_l55b N R (f_X6_bearer_l55 N R f) I (nI (numv i)) y (nI i) = _
    unfold f_X6_bearer_l55b
    rw [h5, if_neg (fun e => by have := (n_le (by omega) (by omega)).mp e; omega), og_nI (show i < 60 by omega) (by omega), nI_tn (by omega), if_pos (hs i hj), og_nI (show i < 60 by omega) (by omega), ol_eq, ol_eq, nI_s9]
    refine bear_m hg h5 (g - (i + 1)) (i + 1) _ f (by omega) (by omega) (fun z z1 z2 e => ?_)
    have r1 := ser_rng z (by omega)
    have r2 := ser_rng i (by omega)
    have := ser_up z (by omega) i (by omega)
    rw [hs z z2] at e
    have := (n_eq (by omega) (by omega)).mp e
    omega
  | c + 1, i, y, f, h, hf => by
    obtain ⟨f, rfl⟩ : ∃ z, f = z + 1 := ⟨f - 1, by omega⟩
    show f_X6_bearer_l55b N R (f_X6_bearer_l55 N R f) I (nI (numv j)) y (nI i) = _
    unfold f_X6_bearer_l55b
    have r1 := ser_rng j (by omega)
    have r2 := ser_rng i (by omega)
    have r3 := ser_up j (by omega) i (by omega)
    rw [h5, if_neg (fun e => by have := (n_le (by omega) (by omega)).mp e; omega), og_nI (show i < 60 by omega) (by omega), nI_tn (by omega), if_neg (fun e => by rw [hs i (by omega)] at e; have := (n_eq (by omega) (by omega)).mp e; omega), ol_eq, nI_s9]
    exact bear_at hg h5 hs hj c (i + 1) y f (by omega) (by omega)
theorem m_bearer (h : IVc N t n m P d g od ad Ix Rx ta ea wa Ik Rk cmk In Rn AL AI AR rs RL I R) (hN : 200 ≤ N) {j : Nat} (hj : j < g) : f_X6_bearer N R I (nI (numv j)) = some (R 10 j, va_up I 0 0) := by
  have hn := fun j hj => num_at h (j := j) hj
  obtain ⟨A, X, ⟨d1, -⟩, -, ⟨g0, g5, g6, -⟩, -⟩ := h
  obtain ⟨r1, r2, r3⟩ := ser_rng j (by omega)
  unfold f_X6_bearer
  have e : f_X6_within (nI (numv j)) 10010 99999 = some 1 := by
    unfold f_X6_within
    rw [if_neg (show ¬ nI (numv j) < (10010 : Int32) from fun e => by have := (n_lt (b := 10010) (by omega) (by omega)).mp e; omega), if_neg (show ¬ (99999 : Int32) < nI (numv j) from fun e => by have := (n_lt (a := 99999) (by omega) (by omega)).mp e; omega)]
  rw [e, ob1_some, if_neg one0, r3, ob1_some, if_pos rfl]
  unfold f_X6_bearer_j31 f_X6_bearer_j42
  rw [if_neg one0, refused_0, ob2_mk, if_pos rfl]
  exact bear_at g0 ((up_ne (by omega)).trans g5) hn hj j 0 _ N (by omega) (by omega)
theorem m_renumber (h : IVc N t n m P d g od ad Ix Rx ta ea wa Ik Rk cmk In Rn AL AI AR rs RL I R) (hN : 200 ≤ N) (hg : g < 60) {p : Nat} (hp : p < P) : ∃ I' R', f_X6_renumber N I R (nI p) = some (nI (numv g), I', R') ∧ I' 0 = 0 ∧ I' 5 = nI (g + 1) ∧ (∀ c, c ≠ 0 → c ≠ 5 → c ≠ 6 → I' c = I c) ∧ (∀ c, c ≠ 9 → c ≠ 10 → R' c = R c) ∧ R' 9 = upd (R 9) g (nI (numv g)) ∧ R' 10 = upd (R 10) g (nI p) := by
  obtain ⟨A, X, ⟨d1, -⟩, -, ⟨g0, g5, g6, -⟩, -⟩ := h
  unfold f_X6_renumber
  rw [ip1 A.P24 A.iP hp, ob1_some, if_neg one0, if_neg (n60 g5 hg)]
  unfold f_X6_renumber_j27
  rw [refused_0, ob2_mk, if_pos rfl, give_m (N := N) (g := g) (by omega) hg ((up_ne (by omega)).trans g5) ((up_ne (by omega)).trans g6), ob3_mk]
  refine ⟨_, _, rfl, ?_, up_same, fun c c0 c5 c6 => ?_, fun c c9 c10 => ?_, ?_, up_same⟩
  · rw [up_ne (by omega), up_ne (by omega), up_same]
  · rw [up_ne c5, up_ne c6, up_ne c0]
  · rw [up_ne c10, up_ne c9]
  · rw [up_ne (by omega), up_same]
    rfl
theorem m_pass (h : IVc N t n m P d g od ad Ix Rx ta ea wa Ik Rk cmk In Rn AL AI AR rs RL I R) {z : Nat} (h1 : 1 ≤ z) (hz : z ≤ 5000) (hd : d + z ≤ 30000) : ∃ I', f_X6_pass R I (nI z) = some (nI (d + z), I') ∧ I' 0 = 0 ∧ I' 1 = nI (d + z) ∧ (∀ c, c ≠ 0 → c ≠ 1 → I' c = I c) := by
  obtain ⟨A, X, ⟨d1, -⟩, -⟩ := h
  unfold f_X6_pass
  have e : f_X6_within (nI z) 1 5000 = some 1 := by
    unfold f_X6_within
    rw [if_neg (show ¬ nI z < (1 : Int32) from fun e => by have := (n_lt (b := 1) (by omega) (by omega)).mp e; omega), if_neg (show ¬ (5000 : Int32) < nI z from fun e => by have := (n_lt (a := 5000) (by omega) (by omega)).mp e; omega)]
  rw [e, ob1_some, if_neg one0, d1, nI_ad, if_pos (show nI (d + z) ≤ (30000 : Int32) from (n_le (b := 30000) (by omega) (by omega)).mpr hd)]
  unfold f_X6_pass_j33
  rw [refused_0, ob2_mk, if_pos rfl, ol_eq, up_same, up_ne (by omega), d1, nI_ad]
  refine ⟨_, rfl, ?_, up_same, fun c c0 c1 => ?_⟩
  · rw [up_ne (by omega), up_same]
  · rw [up_ne c1, up_ne c0]
theorem m_pass_no (h : IVc N t n m P d g od ad Ix Rx ta ea wa Ik Rk cmk In Rn AL AI AR rs RL I R) {z : Nat} (h1 : 1 ≤ z) (hz : z ≤ 5000) (hd : 30000 < d + z) : f_X6_pass R I (nI z) = some (0, va_up I 0 2) := by
  obtain ⟨A, X, ⟨d1, -⟩, -⟩ := h
  have hdd := X.dd
  unfold f_X6_pass
  have e : f_X6_within (nI z) 1 5000 = some 1 := by
    unfold f_X6_within
    rw [if_neg (show ¬ nI z < (1 : Int32) from fun e => by have := (n_lt (b := 1) (by omega) (by omega)).mp e; omega), if_neg (show ¬ (5000 : Int32) < nI z from fun e => by have := (n_lt (a := 5000) (by omega) (by omega)).mp e; omega)]
  rw [e, ob1_some, if_neg one0, d1, nI_ad, if_neg (show ¬ nI (d + z) ≤ (30000 : Int32) from fun e => by have := (n_le (b := 30000) (by omega) (by omega)).mp e; omega)]
  unfold f_X6_pass_j33
  rw [refused_2, ob2_mk, if_neg one0]
theorem m_bar (h : IVc N t n m P d g od ad Ix Rx ta ea wa Ik Rk cmk In Rn AL AI AR rs RL I R) {p : Nat} (hp : p < P) {x : Int32} : ∃ R', f_X6_bar I R (nI p) x = some (R 27 p, va_up I 0 0, R') ∧ (R 27 p = 0 ∨ R 27 p = 1) ∧ (∀ c, c ≠ 27 → R' c = R c) := by
  obtain ⟨A, X, ⟨d1, -⟩, -, -, -, ⟨-, -, ba⟩, -⟩ := h
  have hP := A.P24
  have hb := ba p (by omega)
  unfold f_X6_bar
  rw [ip1 A.P24 A.iP hp, ob1_some, if_neg one0]
  unfold f_X6_bar_j14
  rw [refused_0, ob2_mk, if_pos rfl, og_nI (show p < 24 by omega) (by omega), ol_eq, og_nI (show p < 24 by omega) (by omega), ol_eq, nI_tn (by omega)]
  refine ⟨va_up R 27 (upd (R 27) p (vp_nar .boolean x)), ?_, hb, fun c hc => up_ne hc⟩
  rcases hb with e | e
  · rw [e, oz_0]
  · rw [e, oz_1]
theorem m_looks (h : IVc N t n m P d g od ad Ix Rx ta ea wa Ik Rk cmk In Rn AL AI AR rs RL I R) {p : Nat} (hp : p < P) : f_X6_looks R I (nI p) = some (R 28 p, va_up I 0 0) := by
  obtain ⟨A, -⟩ := h
  have hP := A.P24
  unfold f_X6_looks
  rw [ip1 A.P24 A.iP hp, ob1_some, if_neg one0]
  unfold f_X6_looks_j14
  rw [refused_0, ob2_mk, if_pos rfl, og_nI (show p < 24 by omega) (by omega), nI_tn (by omega)]
end one
end PAn
