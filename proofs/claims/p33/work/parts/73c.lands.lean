/-! ===== PURE: the land of a day as known on a day, and what is told of it ===== -/
section PLd
def tv (Rk : RI) (s : Nat) (lo : Nat → Nat) (p : Nat) : Nat → Int32
  | 0 => Rk 1 p
  | 1 => Rk 2 p
  | 2 => Rk 3 p
  | 3 => Rk 4 p
  | 4 => Rk 5 p
  | 5 => if Rk 1 p = 1 then nI (agv (Rk 7) s p) else -1
  | _ => if Rk 1 p = 1 then nI (lo p) else -1
def LAND (N P : Nat) (I : OI) (R : RI) (s k : Nat) (Rk : RI) (lo : Nat → Nat) : Prop := ∃ R1, f_X6_goThrough N (va_up I 0 0) R (nI s) (nI k) = some R1 ∧ LF R1 Rk ∧ CL (nI s) Rk ∧ NL Rk ∧ (∀ z, P ≤ z → z < 24 → R1 12 z = 0) ∧ SameQ R R1 ∧ LB (edg Rk s) lo ∧ CE (edg Rk s) lo
section one
variable {N t n m P d g : Nat} {od ad : Nat → Nat} {Ix : OI} {Rx : RI} {ta : Int32} {ea : Option Nat} {wa : OO} {Ik : OI} {Rk : RI} {cmk : Option Nat} {In : OI} {Rn : RI} {AL : List Nat} {AI : Nat → OI} {AR : Nat → OO} {rs : OO} {RL : List RLT} {I : OI} {R : RI}
theorem land_at (h : IVc N t n m P d g od ad Ix Rx ta ea wa Ik Rk cmk In Rn AL AI AR rs RL I R) (Z : NX n R) (hN : 200 ≤ N) {s : Nat} (hs : s ≤ 30000) (k : Nat) : ∃ Rl lo, LAND N P I R s k Rl lo ∧ ∀ i o, i < n → o < 24 → R 0 i = 7 → kn R (nI k) i → R 4 i = nI o → Rl 1 o = 3 := by
  obtain ⟨A, X, D, -⟩ := h
  have A4 := A_up0 A 0
  obtain ⟨R1, Rl, cm1, f1, f2, f3, f4, f5, f6⟩ := find_all A4 X hN (fun _ => 0) (fun _ _ => 0) none (nI s) (nI k)
  obtain ⟨g1, g2⟩ := find_nl A4 Z hN _ _ _ _ _ f2
  obtain ⟨R', lo, -, b2, b3⟩ := houses_c (N := N) (I := fun _ => nI s) (cm := none) hN hs rfl f6 (fun j hj => by rw [f3.pr j hj]; exact f3.prn j hj) (fun j hj => by rw [f3.mo j hj]; exact f3.mon j hj)
  exact ⟨Rl, lo, ⟨R1, f1, f3, f6, g1, f5, f4, b2.2.2, b3⟩, g2⟩
/-- the same acts, the same land -/
theorem LAND.move (h : IVc N t n m P d g od ad Ix Rx ta ea wa Ik Rk cmk In Rn AL AI AR rs RL I R) (hN : 200 ≤ N) {s k : Nat} {Rl : RI} {lo : Nat → Nat} (L : LAND N P I R s k Rl lo) {I2 : OI} {R2 : RI} (i2 : I2 2 = I 2) (i3 : I2 3 = I 3) (i4 : I2 4 = I 4) (hR : ∀ c, c < 9 → R2 c = R c) : LAND N P I2 R2 s k Rl lo := by
  obtain ⟨A, X, D, -⟩ := h
  obtain ⟨R1, l1, l2, l3, l4, l5, l6, l7, l8⟩ := L
  have A4 := A_up0 A 0
  have B : AC n m P od ad I2 R2 AL AI AR ta ea wa := ac_sq9 A i2 i3 i4 hR
  have B4 := A_up0 B 0
  obtain ⟨R1', Ra, cm1, f1, f2, f3, -, -, -⟩ := find_all A4 X hN (fun _ => 0) (fun _ _ => 0) none (nI s) (nI k)
  obtain ⟨R2', Rb, cm2, g1, g2, g3, g4, g5, -⟩ := find_all B4 (X.sq hR) hN (fun _ => 0) (fun _ _ => 0) none (nI s) (nI k)
  rw [l1] at f1
  obtain rfl := Option.some.inj f1
  rw [f2] at g2
  obtain ⟨-, e, -⟩ := some3 g2
  subst e
  exact ⟨R2', g1, g3.of (f3.eq l2), l3, l4, g5, g4, l7, l8⟩
theorem settle_m (hN : 700 ≤ N) (hP : P ≤ 24) {I4 : OI} (hI : I4 4 = nI P) {s : Nat} (hs : s ≤ 30000) {R1 Rl : RI} {lo : Nat → Nat} (hL : LF R1 Rl) (hC : CL (nI s) Rl) (hO : ∀ z, P ≤ z → z < 24 → R1 12 z = 0) (h1 : LB (edg Rl s) lo) (h2 : CE (edg Rl s) lo) : ∃ R', f_X6_settle N I4 R1 (nI s) = some R' ∧ (∀ c, c ≠ 20 → R' c = R1 c) ∧ ∀ p, p < P → R' 20 p = if Rl 1 p = 1 then nI (lo p) else -1 := by
  obtain ⟨R', Rk', a1, a2, a3, a4, a5, -⟩ := house_both (Ik := fun _ => nI s) (cm := none) hN hP hI hL hC hs hO rfl
  obtain ⟨Rk'', lo', b1, b2, b3⟩ := houses_c (N := N) (I := fun _ => nI s) (cm := none) (show 200 ≤ N by omega) hs rfl hC (fun j hj => by rw [hL.pr j hj]; exact hL.prn j hj) (fun j hj => by rw [hL.mo j hj]; exact hL.mon j hj)
  rw [a2] at b1
  obtain rfl := Option.some.inj b1
  refine ⟨R', a1, a3, fun p hp => ?_⟩
  rw [a5 p hp, b2.2.1 p (by omega), lb_one b2.2.2 b3 h1 h2 (show p < 24 by omega)]
theorem tells_m (hN : 700 ≤ N) (hP : P ≤ 24) {I4 : OI} (hI : I4 4 = nI P) {s : Nat} (hs : s ≤ 30000) {R1 Rl : RI} {lo : Nat → Nat} (hL : LF R1 Rl) (hC : CL (nI s) Rl) (hO : ∀ z, P ≤ z → z < 24 → R1 12 z = 0) (h1 : LB (edg Rl s) lo) (h2 : CE (edg Rl s) lo) {p w : Nat} (hp : p < P) (hw : w < 7) : ∃ R', f_X6_tells N I4 R1 (nI p) (nI w) (nI s) = some (tv Rl s lo p w, R') := by
  have hp24 : p < 24 := by omega
  have h24 : (24 : Nat) < 2147483648 := by omega
  unfold f_X6_tells
  simp only [og_nI hp24 h24, nI_tn (bd4 hp24)]
  match w, hw with
  | 0, _ => exact ⟨R1, by rw [if_neg (by decide), if_pos (by decide), ← hL.st p hp24]; rfl⟩
  | 1, _ => exact ⟨R1, by rw [if_neg (by decide), if_neg (by decide), if_pos (by decide), ← hL.hm p hp24]; rfl⟩
  | 2, _ => exact ⟨R1, by rw [if_neg (by decide), if_neg (by decide), if_neg (by decide), ← hL.nm p hp24]; rfl⟩
  | 3, _ => exact ⟨R1, by rw [if_pos (by decide), if_neg (by decide), if_pos (by decide), ← hL.pr p hp24]; rfl⟩
  | 4, _ => exact ⟨R1, by rw [if_pos (by decide), if_neg (by decide), if_neg (by decide), if_pos (by decide), ← hL.mo p hp24]; rfl⟩
  | 5, _ => exact ⟨R1, by rw [if_pos (by decide), if_neg (by decide), if_neg (by decide), if_neg (by decide), age_m hs hL hC hp24, ob1_some]; rfl⟩
  | 6, _ =>
    obtain ⟨R', q1, -, q3⟩ := settle_m hN hP hI hs hL hC hO h1 h2
    exact ⟨R', by rw [if_pos (by decide), if_pos (by decide), q1, ob1_some, q3 p hp]; rfl⟩
theorem m_asOf (h : IVc N t n m P d g od ad Ix Rx ta ea wa Ik Rk cmk In Rn AL AI AR rs RL I R) (hN : 700 ≤ N) {s k : Nat} {Rl : RI} {lo : Nat → Nat} (L : LAND N P I R s k Rl lo) {p w : Nat} (hp : p < P) (hw : w < 7) (hs : s ≤ d) (hk : k ≤ d) : ∃ R', f_X6_asOf N I R (nI p) (nI w) (nI s) (nI k) = some (tv Rl s lo p w, va_up I 0 0, R') := by
  obtain ⟨A, X, ⟨d1, -⟩, -⟩ := h
  obtain ⟨R1, l1, l2, l3, l4, l5, l6, l7, l8⟩ := L
  have hd := X.dd
  obtain ⟨R', e⟩ := tells_m hN A.P24 (I4 := va_up I 0 0) ((up_ne (by omega)).trans A.iP) (show s ≤ 30000 by omega) l2 l3 l5 l7 l8 hp hw
  refine ⟨R', ?_⟩
  unfold f_X6_asOf
  rw [ip1 A.P24 A.iP hp, ob1_some, if_neg one0, w6 hw, ob1_some, if_neg one0, id1 hd d1 hs, ob1_some, if_neg one0, id1 hd d1 hk, ob1_some, if_neg one0]
  unfold f_X6_asOf_j45
  rw [refused_0, ob2_mk, if_pos rfl, l1, ob1_some, e, ob2_mk]
theorem m_now (h : IVc N t n m P d g od ad Ix Rx ta ea wa Ik Rk cmk In Rn AL AI AR rs RL I R) (hN : 700 ≤ N) {Rl : RI} {lo : Nat → Nat} (L : LAND N P I R d d Rl lo) {p w : Nat} (hp : p < P) (hw : w < 7) : ∃ R', f_X6_now N I R (nI p) (nI w) = some (tv Rl d lo p w, va_up I 0 0, R') := by
  obtain ⟨R', e⟩ := m_asOf h hN L hp hw (Nat.le_refl _) (Nat.le_refl _)
  obtain ⟨A, X, ⟨d1, -⟩, -⟩ := h
  refine ⟨R', ?_⟩
  unfold f_X6_now
  rw [d1, e, ob3_mk]
theorem m_households (h : IVc N t n m P d g od ad Ix Rx ta ea wa Ik Rk cmk In Rn AL AI AR rs RL I R) (hN : 700 ≤ N) {s k : Nat} {Rl : RI} {lo : Nat → Nat} (L : LAND N P I R s k Rl lo) {w : Nat} (hw : w < 16) (hs : s ≤ d) (hk : k ≤ d) : ∃ R', f_X6_households N I R (nI w) (nI s) (nI k) = some (nI (cnt (fun p => decide (tv Rl s lo p 1 = nI w ∧ tv Rl s lo p 6 = nI p)) 0 P), va_up I 0 0, R') := by
  obtain ⟨A, X, ⟨d1, -⟩, -⟩ := h
  obtain ⟨R1, l1, l2, l3, l4, l5, l6, l7, l8⟩ := L
  have hd := X.dd
  have hP := A.P24
  have i4 : va_up I 0 0 4 = nI P := (up_ne (by omega)).trans A.iP
  obtain ⟨R', q1, q2, q3⟩ := settle_m hN A.P24 (I4 := va_up I 0 0) i4 (show s ≤ 30000 by omega) l2 l3 l5 l7 l8
  refine ⟨R', ?_⟩
  unfold f_X6_households
  rw [w15 hw, ob1_some, if_neg one0, id1 hd d1 hs, ob1_some, if_neg one0, id1 hd d1 hk, ob1_some, if_neg one0]
  unfold f_X6_households_j36
  rw [refused_0, ob2_mk, if_pos rfl, l1, ob1_some, q1, ob1_some]
  have hc := count_m (N := N) (R := R') (w := w) hP i4 P 0 0 N (by omega) (by omega)
  have he : cnt (lowm R' w) 0 P = cnt (fun p => decide (tv Rl s lo p 1 = nI w ∧ tv Rl s lo p 6 = nI p)) 0 P := by
    refine cnt_eq P 0 (fun i _ hi => ?_)
    show decide (R' 13 i = nI w ∧ R' 20 i = nI i) = decide (Rl 2 i = nI w ∧ (if Rl 1 i = 1 then nI (lo i) else -1) = nI i)
    rw [q2 13 (by omega), q3 i (by omega), ← l2.hm i (by omega)]
  rw [he, Nat.zero_add] at hc
  exact hc
theorem m_money (h : IVc N t n m P d g od ad Ix Rx ta ea wa Ik Rk cmk In Rn AL AI AR rs RL I R) (hN : 700 ≤ N) {s k : Nat} {Rl : RI} {lo : Nat → Nat} (L : LAND N P I R s k Rl lo) {o : Nat} (ho : o < 4) (hs : s ≤ d) (hk : k ≤ d) : ∃ R', f_X6_money N I R (nI o) (nI s) 1 (nI k) = some (nI (cnt (fun p => decide (¬ tv Rl s lo p 1 = -1 ∧ tv Rl s lo p 1 / 4 = nI o)) 0 P), va_up I 0 0, R') := by
  obtain ⟨A, X, ⟨d1, -⟩, -⟩ := h
  obtain ⟨R1, l1, l2, l3, l4, l5, l6, l7, l8⟩ := L
  have hd := X.dd
  have hP := A.P24
  have i4 : va_up I 0 0 4 = nI P := (up_ne (by omega)).trans A.iP
  refine ⟨R1, ?_⟩
  unfold f_X6_money
  rw [if_neg (nI_nn (by omega)), show f_X6_within 1 1 60 = some 1 from by decide, ob1_some, if_neg one0, d1, if_neg (fun e => by have := (lt_money (v := 1) hd (by omega) (by omega)).mp e; omega), id1 hd d1 hk, ob1_some, if_neg one0]
  unfold f_X6_money_j40
  rw [w3 ho, ob1_some, if_neg one0, if_neg one0]
  unfold f_X6_money_j66
  rw [refused_0, ob2_mk, if_pos rfl]
  obtain ⟨N1, rfl⟩ : ∃ z, N = z + 2 := ⟨N - 2, by omega⟩
  show f_X6_money_l80b (N1 + 2) (f_X6_money_l80 (N1 + 2) (N1 + 1)) (va_up I 0 0) R (nI o) (nI s) 1 (nI k) 0 (nI s) = _
  unfold f_X6_money_l80b
  rw [nI_s1, if_neg (fun e => by have := (n_le (by omega) (by omega)).mp e; omega), l1, ob1_some]
  have hu := under_m (N := N1 + 2) (R := R1) (o := o) (x2 := nI s) (x3 := 1) (x4 := nI k) (s := s) hP i4 (k80 := f_X6_money_l80 (N1 + 2) (N1 + 1)) P 0 0 (N1 + 2) (by omega) (by omega)
  have he : cnt (offm R1 o) 0 P = cnt (fun p => decide (¬ tv Rl s lo p 1 = -1 ∧ tv Rl s lo p 1 / 4 = nI o)) 0 P := by
    refine cnt_eq P 0 (fun i _ hi => ?_)
    show decide (¬ R1 13 i = -1 ∧ R1 13 i / 4 = nI o) = decide (¬ Rl 2 i = -1 ∧ Rl 2 i / 4 = nI o)
    rw [← l2.hm i (by omega)]
  rw [he, Nat.zero_add] at hu
  rw [show f_X6_money_l99 (N1 + 2) (f_X6_money_l80 (N1 + 2) (N1 + 1)) (N1 + 2) (va_up I 0 0) R1 (nI o) (nI s) 1 (nI k) 0 (nI s) 0 = _ from hu]
  show f_X6_money_l80b (N1 + 2) (f_X6_money_l80 (N1 + 2) N1) (va_up I 0 0) R1 (nI o) (nI s) 1 (nI k) _ (nI (s + 1)) = _
  unfold f_X6_money_l80b
  rw [nI_s1, if_pos (Int32.le_refl _)]
theorem cmp_0 {R0 R1 : RI} (hN : 200 ≤ N) (hP : P ≤ 24) (hI : I 4 = nI P) (h21 : ∀ p w, p < P → w < 5 → R1 21 (5 * p + w) = R0 (12 + w) p) (hF : ∀ p, p < P → Five R0 R1 p 0) {s : Int32} : ∀ (c p : Nat) (f : Nat), p + c = P → c < f → f_X6_changed_l110 N f I R1 s (nI 0) (nI p) = some (nI 0, I, R1)
  | c, p, 0, _, hf => absurd hf (by omega)
  | 0, p, f + 1, hp, hf => by
    show f_X6_changed_l110b N (f_X6_changed_l110 N f) I R1 s (nI 0) (nI p) = _
    unfold f_X6_changed_l110b
    rw [hI, if_pos ((n_le (by omega) (by omega)).mpr (by omega))]
  | c + 1, p, f + 1, hp, hf => by
    have hle : ¬ nI P ≤ nI p := fun e => by have := (n_le (by omega) (by omega)).mp e; omega
    have m1 := cmp_w (N := N) (I := I) (s := s) (S := 0) (R0 := R0) (R1 := R1) (show p < 24 by omega) (fun w hw => h21 p w (by omega) hw) (k110 := f_X6_changed_l110 N f) 5 0 1 N rfl (Or.inr rfl) (by omega)
    have r2 := cmp_0 hN hP hI h21 hF (s := s) c (p + 1) f (by omega) (by omega)
    rw [if_pos ⟨rfl, hF p (by omega)⟩] at m1
    rw [← r2]
    refine Eq.trans ?_ m1
    show f_X6_changed_l110b N (f_X6_changed_l110 N f) I R1 s (nI 0) (nI p) = _
    unfold f_X6_changed_l110b
    rw [hI, if_neg hle]
    rfl
theorem m_changed (h : IVc N t n m P d g od ad Ix Rx ta ea wa Ik Rk cmk In Rn AL AI AR rs RL I R) (hN : 700 ≤ N) {s k : Nat} (hs : s ≤ d) (hk : k ≤ d) : ∃ R', f_X6_changed N I R (nI s) (nI k) (nI k) = some (0, va_up I 0 0, R') := by
  obtain ⟨A, X, ⟨d1, -⟩, -⟩ := h
  have hP := A.P24
  have hd := X.dd
  have A4 := A_up0 A 0
  obtain ⟨R1, Rq1, cm1, f1, f2, f3, f4, f5, f6⟩ := find_all A4 X (show 200 ≤ N by omega) (fun _ => 0) (fun _ _ => 0) none (nI s) (nI k)
  obtain ⟨R2, s1, s2⟩ := save_p (N := N) (s := nI s) (l := nI k) (R0 := R1) hP A4.iP (by omega) P 0 R1 N (by omega) ⟨fun _ _ => rfl, fun p' w' h1 h2 => by omega⟩ (by omega)
  have hq2 : ∀ c, ¬ (11 ≤ c ∧ c ≤ 21) → R2 c = R c := fun c hc => (s2.1 c (by omega)).trans (f4 c (by omega))
  have A5 : AC n m P od ad (va_up I 0 0) R2 AL AI AR ta ea wa := ac_sq9 A4 rfl rfl rfl (fun c hc => hq2 c (by omega))
  obtain ⟨R3, Rc1, cm3, q1, q2, q3, q4, q5, q6⟩ := find_all A5 (X.sq (fun c hc => hq2 c (by omega))) (show 200 ≤ N by omega) (fun _ => 0) (fun _ _ => 0) none (nI s) (nI k)
  rw [f2] at q2
  obtain ⟨-, e, -⟩ := some3 q2
  subst e
  have hF : ∀ p, p < P → Five R1 R3 p 0 := fun p hp w _ hw => by
    have hp24 : p < 24 := by omega
    match w, hw with
    | 0, _ => exact (f3.st p hp24).symm.trans (q3.st p hp24)
    | 1, _ => exact (f3.hm p hp24).symm.trans (q3.hm p hp24)
    | 2, _ => exact (f3.nm p hp24).symm.trans (q3.nm p hp24)
    | 3, _ => exact (f3.pr p hp24).symm.trans (q3.pr p hp24)
    | 4, _ => exact (f3.mo p hp24).symm.trans (q3.mo p hp24)
  have r := cmp_0 (N := N) (I := va_up I 0 0) (R0 := R1) (R1 := R3) (s := nI s) (by omega) hP A4.iP (fun p w hp hw => by rw [q4 21 (by omega)]; exact s2.2 p w hw (Or.inl hp)) hF P 0 N (by omega) (by omega)
  refine ⟨R3, ?_⟩
  unfold f_X6_changed
  rw [id1 hd d1 hs, ob1_some, if_neg one0, id1 hd d1 hk, ob1_some, if_neg one0, ob1_some, if_neg one0]
  unfold f_X6_changed_j30
  rw [refused_0, ob2_mk, if_pos rfl, f1, ob1_some]
  have s1' : f_X6_changed_l47 N N (va_up I 0 0) R1 (nI s) (nI k) 0 = _ := s1
  rw [s1', q1, ob1_some]
  exact r
theorem nobody {Rl : RI} (hL : LF R Rl) {q : Nat} (hq : q < 24) (h3 : Rl 1 q = 3) : f_X6_isSomebody I R (nI q) = some 0 := by
  rw [body_m hL hq, if_neg]
  rw [h3]
  exact fun e => by rcases e with e | e <;> exact absurd e (by decide)
theorem m_likeness (h : IVc N t n m P d g od ad Ix Rx ta ea wa Ik Rk cmk In Rn AL AI AR rs RL I R) {Rl : RI} {lo : Nat → Nat} (L : LAND N P I R d d Rl lo) {p q : Nat} (hp : p < P) (hq : q < P) (hpq : p ≠ q) (h3 : Rl 1 q = 3) : ∃ R', f_X6_likeness N I R (nI p) (nI q) = some (0, va_up I 0 0, R') := by
  obtain ⟨A, X, ⟨d1, -⟩, -⟩ := h
  obtain ⟨R1, l1, l2, l3, l4, l5, l6, l7, l8⟩ := L
  have hP := A.P24
  refine ⟨R1, ?_⟩
  unfold f_X6_likeness
  rw [ip1 hP A.iP hp, ob1_some, if_neg one0, ip1 hP A.iP hq, ob1_some, if_neg one0]
  unfold f_X6_likeness_j21
  rw [if_neg one0, if_neg (fun e => hpq ((n_eq (by omega) (by omega)).mp e))]
  unfold f_X6_likeness_j41
  rw [refused_0, ob2_mk, if_pos rfl, show va_up I 0 0 1 = nI d from (up_ne (by omega)).trans d1, l1, ob1_some]
  unfold f_X6_like
  rw [body_m l2 (show p < 24 by omega), ob1_some, nobody l2 (show q < 24 by omega) h3, ob1_some, if_pos (show (0 : Int32) = 0 from rfl)]
  by_cases e : Rl 1 p = 1 ∨ Rl 1 p = 2
  · rw [if_pos e, if_neg one0, ob1_some]
  · rw [if_neg e, if_pos rfl, ob1_some]
theorem m_origin (h : IVc N t n m P d g od ad Ix Rx ta ea wa Ik Rk cmk In Rn AL AI AR rs RL I R) (hN : 24 ≤ N) {Rl : RI} {lo : Nat → Nat} (L : LAND N P I R d d Rl lo) {q : Nat} (hq : q < P) (h3 : Rl 1 q = 3) : ∃ R', f_X6_origin N I R (nI q) (-1) = some (-1, va_up I 0 0, R') := by
  obtain ⟨A, X, ⟨d1, -⟩, -⟩ := h
  obtain ⟨R1, l1, l2, l3, l4, l5, l6, l7, l8⟩ := L
  have hP := A.P24
  refine ⟨R1, ?_⟩
  unfold f_X6_origin
  rw [ip1 hP A.iP hq, ob1_some, if_neg one0, if_pos rfl]
  unfold f_X6_origin_j27
  rw [refused_0, ob2_mk, if_pos rfl, show va_up I 0 0 1 = nI d from (up_ne (by omega)).trans d1, l1, ob1_some, leads_m1 hN, ob1_some, if_pos rfl]
  unfold f_X6_origin_j78
  rw [nobody l2 (show q < 24 by omega) h3, ob1_some, if_pos rfl]
theorem m_look (h : IVc N t n m P d g od ad Ix Rx ta ea wa Ik Rk cmk In Rn AL AI AR rs RL I R) (hN : 200 ≤ N) {Rl : RI} {lo : Nat → Nat} (L : LAND N P I R d d Rl lo) {u p : Nat} (hu : u < 4) (hp : p < P) : ∃ v R', f_X6_look N I R (nI u) (nI p) = some (v, va_up I 0 0, R') ∧ (v = -2 ∨ v = Rl 2 p) ∧ R' 28 p = R 28 p + 1 ∧ (∀ c, ¬ (11 ≤ c ∧ c ≤ 21) → c ≠ 28 → R' c = R c) := by
  have h9 := h
  obtain ⟨A, X, ⟨d1, -⟩, -⟩ := h
  have hP := A.P24
  have hp24 : p < 24 := by omega
  have L2 := L.move h9 hN (I2 := I) (R2 := va_up R 28 (upd (R 28) p (R 28 p + 1))) rfl rfl rfl (fun c hc => up_ne (by omega))
  obtain ⟨R1, l1, l2, l3, l4, l5, l6, l7, l8⟩ := L2
  unfold f_X6_look
  rw [ip1 hP A.iP hp, ob1_some, if_neg one0, w3 hu, ob1_some, if_neg one0]
  unfold f_X6_look_j27
  rw [refused_0, ob2_mk, if_pos rfl, og_nI hp24 (by omega), og_nI hp24 (by omega), ol_eq, show va_up I 0 0 1 = nI d from (up_ne (by omega)).trans d1, nI_tn (bd4 hp24), l1, ob1_some, og_nI hp24 (by omega), og_nI hp24 (by omega), ← l2.hm p hp24]
  have r28 : R1 28 p = R 28 p + 1 := by rw [l6 28 (by omega), up_same, upd_same]
  have rc : ∀ c, ¬ (11 ≤ c ∧ c ≤ 21) → c ≠ 28 → R1 c = R c := fun c c1 c2 => by rw [l6 c (by omega), up_ne c2]
  by_cases e : R1 27 p = 0
  · rw [if_pos e]
    exact ⟨_, R1, rfl, Or.inr rfl, r28, rc⟩
  · rw [if_neg e]
    by_cases e2 : nI u = 0
    · rw [if_pos e2]
      exact ⟨_, R1, rfl, Or.inr rfl, r28, rc⟩
    · rw [if_neg e2]
      exact ⟨_, R1, rfl, Or.inl rfl, r28, rc⟩
end one
end PLd
