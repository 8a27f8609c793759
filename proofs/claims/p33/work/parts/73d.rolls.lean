/-! ===== PURE: what rolls owe, are sent and hold ===== -/
section PRd
def trg (Rl : RI) (d k off p : Nat) : Int32 := if Rl 1 p = 1 ∧ kindb k off (agv (Rl 7) d p) (Rl 2 p).toNatClampNeg = true then Rl 2 p else -1
section two
variable {N P d r k off : Nat} {Ia : OI} {R R1 Rl : RI}
theorem tid_m (hd : d ≤ 30000) (hI1 : Ia 1 = nI d) (hL : LF R1 Rl) (hR : ∀ c, c ≠ 24 → c ≠ 25 → c ≠ 26 → R c = R1 c) (hC : CL (nI d) Rl) (hr : r < 5) (hk : k < 4) (ek : R1 22 r = nI k) (ho : off < 4) (eo : R1 23 r = nI off) {p : Nat} (hp : p < 24) :
    (R 24 (24 * r + p) = trg Rl d k off p ∧ f_X6_tidings Ia R (nI r) (nI p) = some 0) ∨ (R 24 (24 * r + p) ≠ trg Rl d k off p ∧ ∃ h x, h < 16 ∧ 1 ≤ x ∧ x ≤ 3 ∧ f_X6_tidings Ia R (nI r) (nI p) = some (nI (1000 * p + 10 * h + x)) ∧ (x ≠ 2 → R 13 p = nI h) ∧ (if x = 2 then -1 else nI h) = trg Rl d k off p) := by
  have hix : (24 : Int32) * nI r + nI p = nI (24 * r + p) := by rw [show (24 : Int32) = nI 24 from rfl, nI_mul, nI_ad]
  have e13 : R 13 p = Rl 2 p := by rw [hR 13 (by omega) (by omega) (by omega)]; exact (hL.hm p hp).symm
  have hm := kind_m (Ia := Ia) (R := R) hd hI1 hL hR hC hp hr hk (by rw [hR 22 (by omega) (by omega) (by omega)]; exact ek) ho (by rw [hR 23 (by omega) (by omega) (by omega)]; exact eo)
  have m1 : ∀ (h x : Nat), ((1000 : Int32) * nI p + 10 * nI h) + nI x = nI (1000 * p + 10 * h + x) := fun h x => by
    rw [show (1000 : Int32) = nI 1000 from rfl, show (10 : Int32) = nI 10 from rfl, nI_mul, nI_mul, nI_ad, nI_ad]
  have m2 : (1000 : Int32) * nI p + 2 = nI (1000 * p + 10 * 0 + 2) := by
    rw [show (1000 : Int32) = nI 1000 from rfl, show (2 : Int32) = nI 2 from rfl, nI_mul, nI_ad]
  unfold f_X6_tidings
  rw [hix, og_nI (by omega) (by omega), nI_tn (by omega), ol_eq, hm, ob1_ite]
  generalize R 24 (24 * r + p) = had
  unfold trg
  by_cases hB : Rl 1 p = 1 ∧ kindb k off (agv (Rl 7) d p) (Rl 2 p).toNatClampNeg = true
  · obtain ⟨h, hh, eh⟩ := hC.hl p hp hB.1
    rw [if_pos hB, if_neg one0, if_pos hB, og_nI hp (by omega), og_nI hp (by omega), nI_tn (bd4 hp), e13, eh]
    by_cases e : had = nI h
    · rw [if_pos e]; exact Or.inl ⟨e, rfl⟩
    · rw [if_neg e]
      by_cases e2 : had = -1
      · rw [if_pos e2]
        exact Or.inr ⟨e, h, 1, hh, by omega, by omega, congrArg some (m1 h 1), fun _ => rfl, by rw [if_neg (by omega)]⟩
      · rw [if_neg e2]
        exact Or.inr ⟨e, h, 3, hh, by omega, by omega, congrArg some (m1 h 3), fun _ => rfl, by rw [if_neg (by omega)]⟩
  · rw [if_neg hB, if_pos rfl, if_neg hB]
    by_cases e : had = -1
    · rw [if_pos e]; exact Or.inl ⟨e, rfl⟩
    · rw [if_neg e, m2]
      exact Or.inr ⟨e, 0, 2, by omega, by omega, by omega, rfl, fun z => absurd rfl z, by rw [if_pos rfl]⟩
abbrev dueq (Rl : RI) (R : RI) (d k off r p : Nat) : Bool := decide (¬ R 24 (24 * r + p) = trg Rl d k off p)
theorem owes_m (hP : P ≤ 24) (hI4 : Ia 4 = nI P) (hd : d ≤ 30000) (hI1 : Ia 1 = nI d) (hL : LF R1 Rl) (hC : CL (nI d) Rl) (hr : r < 5) (hk : k < 4) (ek : R1 22 r = nI k) (ho : off < 4) (eo : R1 23 r = nI off) : ∀ (c p S f : Nat), p + c = P → c < f → f_X6_send_l17 N f Ia R1 (nI r) 0 (nI S) (nI p) = some (nI (S + cnt (dueq Rl R1 d k off r) p c), Ia, R1)
  | c, p, S, 0, _, hf => absurd hf (by omega)
  | 0, p, S, f + 1, hp, hf => by
    show f_X6_send_l17b N (f_X6_send_l17 N f) Ia R1 (nI r) 0 (nI S) (nI p) = _
    unfold f_X6_send_l17b
    rw [hI4, if_pos ((n_le (by omega) (by omega)).mpr (by omega))]
    rfl
  | c + 1, p, S, f + 1, hp, hf => by
    show f_X6_send_l17b N (f_X6_send_l17 N f) Ia R1 (nI r) 0 (nI S) (nI p) = some (nI (S + ((if dueq Rl R1 d k off r p = true then 1 else 0) + cnt (dueq Rl R1 d k off r) (p + 1) c)), Ia, R1)
    unfold f_X6_send_l17b
    rw [hI4, if_neg (fun e => by have := (n_le (by omega) (by omega)).mp e; omega)]
    rcases tid_m (R := R1) hd hI1 hL (fun _ _ _ _ => rfl) hC hr hk ek ho eo (show p < 24 by omega) with ⟨e1, e2⟩ | ⟨e1, h, x, h16, x1, x3, e2, -, -⟩
    · rw [e2, ob1_some, if_pos rfl, sent_0, owes_m hP hI4 hd hI1 hL hC hr hk ek ho eo c (p + 1) S f (by omega) (by omega), if_neg (fun z => (of_decide_eq_true z) e1), Nat.zero_add]
    · have hz := (v_ne (show p < 24 by omega) h16 x1 x3).2
      rw [e2, ob1_some, if_neg hz]
      unfold f_X6_send_j46
      rw [ol_eq, if_neg hz, if_pos rfl, ol_eq, nI_s1, nI_s9, owes_m hP hI4 hd hI1 hL hC hr hk ek ho eo c (p + 1) (S + 1) f (by omega) (by omega), if_pos (decide_eq_true e1), Nat.add_assoc]
theorem deliver_m (hP : P ≤ 24) (hd : d ≤ 30000) (hL : LF R1 Rl) (hC : CL (nI d) Rl) (hr : r < 5) (hk : k < 4) (ek : R1 22 r = nI k) (ho : off < 4) (eo : R1 23 r = nI off) : ∀ (c p S M : Nat) (R : RI) (Ia : OI) (f : Nat), p + c = P → c < f → M + c ≤ 16384 → Ia 8 = nI M → Ia 4 = nI P → Ia 1 = nI d → (∀ c, c ≠ 24 → c ≠ 25 → c ≠ 26 → R c = R1 c) →
    ∃ Ia' R', f_X6_send_l17 N f Ia R (nI r) 1 (nI S) (nI p) = some (nI (S + cnt (dueq Rl R d k off r) p c), Ia', R') ∧ (∀ c, c ≠ 8 → Ia' c = Ia c) ∧ (∀ c, c ≠ 24 → c ≠ 25 → c ≠ 26 → R' c = R1 c) ∧ (∀ j, p ≤ j → j < P → R' 24 (24 * r + j) = trg Rl d k off j) ∧ (∀ i, i < 24 * r + p ∨ 24 * r + P ≤ i → R' 24 i = R 24 i)
  | c, p, S, M, R, Ia, 0, _, hf, _, _, _, _, _ => absurd hf (by omega)
  | 0, p, S, M, R, Ia, f + 1, hp, hf, hM, h8, hI4, hI1, hR => by
    refine ⟨Ia, R, ?_, fun _ _ => rfl, hR, fun j z1 z2 => by omega, fun _ _ => rfl⟩
    show f_X6_send_l17b N (f_X6_send_l17 N f) Ia R (nI r) 1 (nI S) (nI p) = _
    unfold f_X6_send_l17b
    rw [hI4, if_pos ((n_le (by omega) (by omega)).mpr (by omega))]
    rfl
  | c + 1, p, S, M, R, Ia, f + 1, hp, hf, hM, h8, hI4, hI1, hR => by
    have hp24 : p < 24 := by omega
    have st : f_X6_send_l17 N (f + 1) Ia R (nI r) 1 (nI S) (nI p) = ob1 (f_X6_tidings Ia R (nI r) (nI p)) (fun r2 => if r2 = 0 then (f_X6_send_j46 N (f_X6_send_l17 N f) Ia R (nI r) 1 (nI p) r2 0 (nI S)) else (f_X6_send_j46 N (f_X6_send_l17 N f) Ia R (nI r) 1 (nI p) r2 1 (nI S))) := by
      show f_X6_send_l17b N (f_X6_send_l17 N f) Ia R (nI r) 1 (nI S) (nI p) = _
      unfold f_X6_send_l17b
      rw [hI4, if_neg (fun e => by have := (n_le (by omega) (by omega)).mp e; omega)]
    rw [st]
    rcases tid_m (R := R) hd hI1 hL hR hC hr hk ek ho eo hp24 with ⟨e1, e2⟩ | ⟨e1, h, x, h16, x1, x3, e2, e3, e4⟩
    · obtain ⟨Ia', R', a1, a2, a3, a4, a5⟩ := deliver_m hP hd hL hC hr hk ek ho eo c (p + 1) S M R Ia f (by omega) (by omega) (by omega) h8 hI4 hI1 hR
      refine ⟨Ia', R', ?_, a2, a3, fun j z1 z2 => ?_, fun i hi => a5 i (by omega)⟩
      · rw [e2, ob1_some, if_pos rfl, sent_0, a1]
        show _ = some (nI (S + ((if dueq Rl R d k off r p = true then 1 else 0) + cnt (dueq Rl R d k off r) (p + 1) c)), Ia', R')
        rw [if_neg (fun z => (of_decide_eq_true z) e1), Nat.zero_add]
      · by_cases ej : j = p
        · rw [ej, a5 (24 * r + p) (by omega)]; exact e1
        · exact a4 j (by omega) z2
    · have hz := (v_ne hp24 h16 x1 x3).2
      have hs := sent_m (N := N) (Ia := Ia) (R := R) (p := p) (M := M) (r := r) (S := S) hp24 hr (show M < 16384 by omega) h8 h16 x1 x3 e3 (k17 := f_X6_send_l17 N f)
      rw [e4] at hs
      obtain ⟨Ia', R', a1, a2, a3, a4, a5⟩ := deliver_m hP hd hL hC hr hk ek ho eo c (p + 1) (S + 1) (M + 1) (sentR R r p M (nI (1000 * p + 10 * h + x)) (trg Rl d k off p)) (va_up Ia 8 (nI (M + 1))) f (by omega) (by omega) (by omega) up_same ((up_ne (by omega)).trans hI4) ((up_ne (by omega)).trans hI1) (fun c c1 c2 c3 => by
        unfold sentR
        rw [up_ne c1, up_ne c2, up_ne c3]
        exact hR c c1 c2 c3)
      have s24 : ∀ i, sentR R r p M (nI (1000 * p + 10 * h + x)) (trg Rl d k off p) 24 i = if i = 24 * r + p then trg Rl d k off p else R 24 i := fun i => by
        unfold sentR
        rw [up_same, upd_at]
      refine ⟨Ia', R', ?_, fun c hc => (a2 c hc).trans (up_ne hc), a3, fun j z1 z2 => ?_, fun i hi => ?_⟩
      · rw [e2, ob1_some, if_neg hz, hs, a1]
        show _ = some (nI (S + ((if dueq Rl R d k off r p = true then 1 else 0) + cnt (dueq Rl R d k off r) (p + 1) c)), Ia', R')
        rw [if_pos (decide_eq_true e1), Nat.add_assoc]
        congr 4
        refine congrArg (1 + ·) (cnt_eq c (p + 1) (fun i z1 z2 => ?_))
        unfold dueq
        rw [s24, if_neg (by omega)]
      · by_cases ej : j = p
        · rw [ej, a5 (24 * r + p) (by omega), s24, if_pos rfl]
        · exact a4 j (by omega) z2
      · rw [a5 i (by omega), s24, if_neg (by omega)]
end two
section one
variable {N t n m P d g : Nat} {od ad : Nat → Nat} {Ix : OI} {Rx : RI} {ta : Int32} {ea : Option Nat} {wa : OO} {Ik : OI} {Rk : RI} {cmk : Option Nat} {In : OI} {Rn : RI} {AL : List Nat} {AI : Nat → OI} {AR : Nat → OO} {rs : OO} {RL : List RLT} {I : OI} {R : RI}
theorem ir1 {z r : Nat} (hz : z ≤ 5) (h7 : I 7 = nI z) (hr : r < z) : f_X6_isRoll I R (nI r) = some 1 := by
  unfold f_X6_isRoll
  rw [h7]
  rcases first_m (x := nI r) (P := z) (by omega) with ⟨q, hq, e, h⟩ | ⟨h, -⟩
  · rw [h, ob1_some, oz_1]
  · rcases h with h | h
    · exact absurd h (nI_nn (by omega))
    · have := (n_le (by omega) (by omega)).mp h; omega
theorem ir0 {z : Nat} {x : Int32} (hz : z ≤ 5) (h7 : I 7 = nI z) (hx : x < 0 ∨ nI z ≤ x) : f_X6_isRoll I R x = some 0 := by
  unfold f_X6_isRoll
  rw [h7]
  rcases first_m (x := x) (P := z) (by omega) with ⟨q, hq, rfl, -⟩ | ⟨-, h⟩
  · rcases hx with h | h
    · exact absurd h (nI_nn (by omega))
    · have := (n_le (by omega) (by omega)).mp h; omega
  · rw [h, ob1_some, oz_0]
theorem m_owes (h : IVc N t n m P d g od ad Ix Rx ta ea wa Ik Rk cmk In Rn AL AI AR rs RL I R) (hN : 200 ≤ N) {Rl : RI} {lo : Nat → Nat} (L : LAND N P I R d d Rl lo) {z r k off : Nat} (hz : z ≤ 5) (h7 : I 7 = nI z) (hr : r < z) (hk : k < 4) (ek : R 22 r = nI k) (ho : off < 4) (eo : R 23 r = nI off) : ∃ R', f_X6_owes N I R (nI r) = some (nI (cnt (dueq Rl R d k off r) 0 P), va_up I 0 0, R') := by
  obtain ⟨A, X, ⟨d1, -⟩, -⟩ := h
  obtain ⟨R1, l1, l2, l3, l4, l5, l6, l7, l8⟩ := L
  have hP := A.P24
  have e24 := l6 24 (by omega)
  refine ⟨R1, ?_⟩
  unfold f_X6_owes
  rw [ir1 hz h7 hr, ob1_some, if_neg one0]
  unfold f_X6_owes_j14
  rw [refused_0, ob2_mk, if_pos rfl]
  unfold f_X6_send
  have o := owes_m (N := N) (P := P) (Ia := va_up I 0 0) (R1 := R1) hP ((up_ne (by omega)).trans A.iP) X.dd ((up_ne (by omega)).trans d1) l2 l3 (show r < 5 by omega) hk (by rw [l6 22 (by omega)]; exact ek) ho (by rw [l6 23 (by omega)]; exact eo) P 0 0 N (by omega) (by omega)
  rw [show va_up I 0 0 1 = nI d from (up_ne (by omega)).trans d1, l1, ob1_some, show f_X6_send_l17 N N (va_up I 0 0) R1 (nI r) 0 0 0 = _ from o, ob3_mk, Nat.zero_add]
  congr 3
  refine cnt_eq P 0 (fun i _ _ => ?_)
  unfold dueq
  rw [e24]
theorem m_deliver (h : IVc N t n m P d g od ad Ix Rx ta ea wa Ik Rk cmk In Rn AL AI AR rs RL I R) (hN : 200 ≤ N) (ht : t ≤ 511) {Rl : RI} {lo : Nat → Nat} (L : LAND N P I R d d Rl lo) {z r k off : Nat} (hz : z ≤ 5) (h7 : I 7 = nI z) (hr : r < z) (hk : k < 4) (ek : R 22 r = nI k) (ho : off < 4) (eo : R 23 r = nI off) : ∃ I' R', f_X6_deliver N I R (nI r) = some (nI (cnt (dueq Rl R d k off r) 0 P), I', R') ∧ I' 0 = 0 ∧ (∀ c, c ≠ 0 → c ≠ 8 → I' c = I c) ∧ (∀ c, ¬ (11 ≤ c ∧ c ≤ 19) → c ≠ 24 → c ≠ 25 → c ≠ 26 → R' c = R c) ∧ (∀ j, j < P → R' 24 (24 * r + j) = trg Rl d k off j) := by
  obtain ⟨A, X, ⟨d1, -⟩, -, -, -, -, ⟨M, hM, h8, -⟩⟩ := h
  obtain ⟨R1, l1, l2, l3, l4, l5, l6, l7, l8⟩ := L
  have hP := A.P24
  have e24 := l6 24 (by omega)
  obtain ⟨Ia', R', a1, a2, a3, a4, a5⟩ := deliver_m (N := N) (P := P) (R1 := R1) hP X.dd l2 l3 (show r < 5 by omega) hk (by rw [l6 22 (by omega)]; exact ek) ho (by rw [l6 23 (by omega)]; exact eo) P 0 0 M R1 (va_up I 0 0) N (by omega) (by omega) (by omega) ((up_ne (by omega)).trans h8) ((up_ne (by omega)).trans A.iP) ((up_ne (by omega)).trans d1) (fun _ _ _ _ => rfl)
  refine ⟨Ia', R', ?_, (a2 0 (by omega)).trans up_same, fun c c0 c8 => (a2 c c8).trans (up_ne c0), fun c c1 c2 c3 c4 => (a3 c c2 c3 c4).trans (l6 c c1), fun j hj => a4 j (Nat.zero_le _) hj⟩
  unfold f_X6_deliver
  rw [ir1 hz h7 hr, ob1_some, if_neg one0]
  unfold f_X6_deliver_j14
  rw [refused_0, ob2_mk, if_pos rfl]
  unfold f_X6_send
  rw [show va_up I 0 0 1 = nI d from (up_ne (by omega)).trans d1, l1, ob1_some, show f_X6_send_l17 N N (va_up I 0 0) R1 (nI r) 1 0 0 = _ from a1, ob3_mk, Nat.zero_add]
  congr 3
  refine cnt_eq P 0 (fun i _ _ => ?_)
  unfold dueq
  rw [e24]
theorem m_holds (h : IVc N t n m P d g od ad Ix Rx ta ea wa Ik Rk cmk In Rn AL AI AR rs RL I R) {z r p : Nat} (hz : z ≤ 5) (h7 : I 7 = nI z) (hr : r < z) (hp : p < P) : f_X6_holds R I (nI r) (nI p) = some (R 24 (24 * r + p), va_up I 0 0) ∧ f_X6_holdsAnew R I (nI r) (nI p) = some (R 24 (24 * r + p), va_up I 0 0) := by
  obtain ⟨A, -⟩ := h
  have hP := A.P24
  have e : f_X6_holds R I (nI r) (nI p) = some (R 24 (24 * r + p), va_up I 0 0) := by
    unfold f_X6_holds
    rw [ir1 hz h7 hr, ob1_some, if_neg one0, ip1 hP A.iP hp, ob1_some, if_neg one0]
    unfold f_X6_holds_j21 f_X6_holds_j32
    rw [if_neg one0, refused_0, ob2_mk, if_pos rfl, show (24 : Int32) = nI 24 from rfl, nI_mul, nI_ad, og_nI (by omega) (by omega), nI_tn (by omega)]
  refine ⟨e, ?_⟩
  unfold f_X6_holdsAnew
  rw [e, ob2_mk]
theorem m_roll {z k o : Nat} (hz : z < 5) (h7 : I 7 = nI z) (hk : k < 4) (ho : o < 4) : ∃ I' R', f_X6_roll I R (nI k) (nI o) = some (nI z, I', R') ∧ I' 0 = 0 ∧ I' 7 = nI (z + 1) ∧ (∀ c, c ≠ 0 → c ≠ 7 → I' c = I c) ∧ R' 22 = upd (R 22) z (nI k) ∧ R' 23 = upd (R 23) z (nI o) ∧ (∀ c, c ≠ 22 → c ≠ 23 → R' c = R c) := by
  have i7 : va_up I 0 0 7 = nI z := (up_ne (by omega)).trans h7
  unfold f_X6_roll
  rw [w3 ho, ob1_some, if_neg one0, w3 hk, ob1_some, if_neg one0, if_neg (fun e => by rw [h7] at e; have := (n_eq (b := 5) (by omega) (by omega)).mp e; omega)]
  unfold f_X6_roll_j40
  rw [refused_0, ob2_mk, if_pos rfl, i7, og_nI hz (by omega), ol_eq, og_nI hz (by omega), ol_eq, ol_eq, up_same, nI_s1, nI_p1, nI_tn (by omega)]
  refine ⟨_, _, rfl, ?_, up_same, fun c c0 c7 => ?_, ?_, ?_, fun c c1 c2 => ?_⟩
  · rw [up_ne (by omega), up_same]
  · rw [up_ne c7, up_ne c0]
  · rw [up_ne (by omega), up_same]
  · rw [up_same, up_ne (by omega)]
  · rw [up_ne c2, up_ne c1]
end one
end PRd
