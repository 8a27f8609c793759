/-! ===== PURE: changed ===== -/
section PCh
section two
variable {N P : Nat} {I : OI} {cmq cmc : Option Nat} {Iq Ic : OI} {Rq Rc : RI}
theorem tells_w {R : RI} (s : Int32) {p w : Nat} (hp : p < 24) (hw : w < 5) : f_X6_tells N I R (nI p) (nI w) s = some (R (12 + w) p, R) := by
  unfold f_X6_tells
  simp only [og_nI hp (show 24 < 2147483648 by omega), nI_tn (bd4 hp)]
  match w, hw with
  | 0, _ => rw [if_neg (by decide), if_pos (by decide)]
  | 1, _ => rw [if_neg (by decide), if_neg (by decide), if_pos (by decide)]
  | 2, _ => rw [if_neg (by decide), if_neg (by decide), if_neg (by decide)]
  | 3, _ => rw [if_pos (by decide), if_neg (by decide), if_pos (by decide)]
  | 4, _ => rw [if_pos (by decide), if_neg (by decide), if_neg (by decide), if_pos (by decide)]
/-- what was kept of the first p persons, and w things of the next -/
abbrev KP (R0 R : RI) (p w : Nat) : Prop := (∀ c, c ≠ 21 → R c = R0 c) ∧ (∀ p' w', w' < 5 → (p' < p ∨ (p' = p ∧ w' < w)) → R 21 (5 * p' + w') = R0 (12 + w') p')
theorem save_w {R0 : RI} {s l : Int32} {p : Nat} (hp : p < 24) {k47 : OI → RI → Int32 → Int32 → Int32 → Option (Int32 × OI × RI)} : ∀ (c w : Nat) (R : RI) (f : Nat), w + c = 5 → KP R0 R p w → c < f → ∃ R', f_X6_changed_l59 N k47 f I R s l (nI p) (nI w) = k47 I R' s l (nI (p + 1)) ∧ KP R0 R' (p + 1) 0
  | c, w, R, 0, _, _, hf => absurd hf (by omega)
  | 0, w, R, f + 1, hw, h, hf => by
    obtain rfl : w = 5 := by omega
    refine ⟨R, ?_, h.1, fun p' w' h1 h2 => h.2 p' w' h1 (by omega)⟩
    show f_X6_changed_l59b N k47 (f_X6_changed_l59 N k47 f) I R s l (nI p) (nI 5) = _
    unfold f_X6_changed_l59b
    rw [if_pos (by decide), ol_eq, nI_s9]
  | c + 1, w, R, f + 1, hw, h, hf => by
    have hw5 : w < 5 := by omega
    have e5 : (5 : Int32) * nI p + nI w = nI (5 * p + w) := by rw [show (5 : Int32) = nI 5 from rfl, nI_mul, nI_ad]
    have e : f_X6_changed_l59 N k47 (f + 1) I R s l (nI p) (nI w) = f_X6_changed_l59 N k47 f I (va_up R 21 (upd (R 21) (5 * p + w) (R (12 + w) p))) s l (nI p) (nI (w + 1)) := by
      show f_X6_changed_l59b N k47 (f_X6_changed_l59 N k47 f) I R s l (nI p) (nI w) = _
      unfold f_X6_changed_l59b
      rw [if_neg (fun e => by have := (n_le (a := 5) (by omega) (by omega)).mp e; omega), tells_w s hp hw5, ob2_mk, e5, og_nI (by omega) (by omega), nI_tn (by omega), ol_eq, ol_eq, nI_s9]
    rw [e]
    refine save_w hp c (w + 1) _ f (by omega) ⟨fun c hc => by rw [up_ne hc]; exact h.1 c hc, fun p' w' h1 h2 => ?_⟩ (by omega)
    rw [up_same, upd_at]
    by_cases z : 5 * p' + w' = 5 * p + w
    · have z1 : p' = p := by omega
      have z2 : w' = w := by omega
      rw [if_pos z, z1, z2, h.1 (12 + w) (by omega)]
    · rw [if_neg z]
      exact h.2 p' w' h1 (by omega)
theorem save_p {R0 : RI} (hP : P ≤ 24) (hI : I 4 = nI P) (hN : 200 ≤ N) {s l : Int32} : ∀ (c p : Nat) (R : RI) (f : Nat), p + c = P → KP R0 R p 0 → c < f → ∃ R', f_X6_changed_l47 N f I R s l (nI p) = ob1 (f_X6_goThrough N I R' s l) (fun R5 => f_X6_changed_l110 N N I R5 s 0 0) ∧ KP R0 R' P 0
  | c, p, R, 0, _, _, hf => absurd hf (by omega)
  | 0, p, R, f + 1, hp, h, hf => by
    obtain rfl : p = P := by omega
    refine ⟨R, ?_, h⟩
    show f_X6_changed_l47b N (f_X6_changed_l47 N f) I R s l (nI p) = _
    unfold f_X6_changed_l47b
    rw [hI, if_pos ((n_le (by omega) (by omega)).mpr (Nat.le_refl _))]
  | c + 1, p, R, f + 1, hp, h, hf => by
    obtain ⟨R1, h1, h2⟩ := save_w (N := N) (I := I) (s := s) (l := l) (show p < 24 by omega) (k47 := f_X6_changed_l47 N f) 5 0 R N rfl h (by omega)
    obtain ⟨R', h3, h4⟩ := save_p hP hI hN c (p + 1) R1 f (by omega) h2 (by omega)
    refine ⟨R', ?_, h4⟩
    rw [← h3, ← h1]
    show f_X6_changed_l47b N (f_X6_changed_l47 N f) I R s l (nI p) = _
    unfold f_X6_changed_l47b
    rw [hI, if_neg (fun e => by have := (n_le (by omega) (by omega)).mp e; omega)]
    rfl
/-- all five the same -/
abbrev Five (R0 R1 : RI) (p w : Nat) : Prop := ∀ w', w ≤ w' → w' < 5 → R0 (12 + w') p = R1 (12 + w') p
theorem cmp_w {R0 R1 : RI} {s : Int32} {S p : Nat} (hp : p < 24) (h21 : ∀ w, w < 5 → R1 21 (5 * p + w) = R0 (12 + w) p) {k110 : OI → RI → Int32 → Int32 → Int32 → Option (Int32 × OI × RI)} : ∀ (c w : Nat) (x : Int32) (f : Nat), w + c = 5 → (x = 0 ∨ x = 1) → c < f → f_X6_changed_l125 N k110 f I R1 s (nI S) (nI p) x (nI w) = k110 I R1 s (nI (S + @ite Nat (x = 1 ∧ Five R0 R1 p w) (Classical.propDecidable _) 0 1)) (nI (p + 1))
  | c, w, x, 0, _, _, hf => absurd hf (by omega)
  | 0, w, x, f + 1, hw, hx, hf => by
    obtain rfl : w = 5 := by omega
    have hF : Five R0 R1 p 5 := fun w' h1 h2 => by omega
    show f_X6_changed_l125b N k110 (f_X6_changed_l125 N k110 f) I R1 s (nI S) (nI p) x (nI 5) = _
    unfold f_X6_changed_l125b
    rw [if_pos (by decide)]
    simp only [ol_eq, nI_s9, nI_s1, Int32.add_zero]
    rcases hx with hx | hx
    · rw [if_pos hx, if_neg (fun h => by rw [hx] at h; exact absurd h.1 (by decide))]
    · rw [if_neg (by rw [hx]; exact one0), if_pos ⟨hx, hF⟩]
      rfl
  | c + 1, w, x, f + 1, hw, hx, hf => by
    have hw5 : w < 5 := by omega
    have e5 : (5 : Int32) * nI p + nI w = nI (5 * p + w) := by rw [show (5 : Int32) = nI 5 from rfl, nI_mul, nI_ad]
    show f_X6_changed_l125b N k110 (f_X6_changed_l125 N k110 f) I R1 s (nI S) (nI p) x (nI w) = _
    unfold f_X6_changed_l125b
    rw [if_neg (fun e => by have := (n_le (a := 5) (by omega) (by omega)).mp e; omega)]
    simp only [ol_eq, nI_s9]
    have r0 := cmp_w hp h21 (k110 := k110) (s := s) (S := S) c (w + 1) 0 f (by omega) (Or.inl rfl) (by omega)
    have r1 := cmp_w hp h21 (k110 := k110) (s := s) (S := S) c (w + 1) 1 f (by omega) (Or.inr rfl) (by omega)
    rw [if_neg (fun h => absurd h.1 (by decide))] at r0
    rcases hx with hx | hx
    · rw [if_pos hx, r0, if_neg (fun h => by rw [hx] at h; exact absurd h.1 (by decide))]
    · rw [if_neg (by rw [hx]; exact one0), e5, og_nI (by omega) (by omega), nI_tn (by omega), tells_w s hp hw5, ob2_mk, h21 w hw5]
      by_cases e : R0 (12 + w) p = R1 (12 + w) p
      · rw [if_pos e, r1]
        by_cases hF : Five R0 R1 p (w + 1)
        · rw [if_pos ⟨rfl, hF⟩, if_pos ⟨hx, fun w' z1 z2 => by
            by_cases z : w' = w
            · rw [z]; exact e
            · exact hF w' (by omega) z2⟩]
        · rw [if_neg (fun h => hF h.2), if_neg (fun h => hF (fun w' z1 z2 => h.2 w' (by omega) z2))]
      · rw [if_neg e, r0, if_neg (fun h => e (h.2 w (Nat.le_refl _) hw5))]
theorem same_c {R0 R1 : RI} (hL0 : LF R0 Rq) (hL1 : LF R1 Rc) {p : Nat} (hp : p < 24) : f_X2_isSameIn Iq Rq cmq Ic Rc cmc (nI p) = some (@ite Int32 (Five R0 R1 p 0) (Classical.propDecidable _) 1 0) := by
  unfold f_X2_isSameIn
  simp only [atv_nI hp (show 24 < 2147483648 by omega), hL0.st p hp, hL0.hm p hp, hL0.nm p hp, hL0.pr p hp, hL0.mo p hp, hL1.st p hp, hL1.hm p hp, hL1.nm p hp, hL1.pr p hp, hL1.mo p hp]
  by_cases h0 : R0 12 p = R1 12 p
  · rw [if_pos h0]
    by_cases h1 : R0 13 p = R1 13 p
    · rw [if_pos h1]
      by_cases h2 : R0 14 p = R1 14 p
      · rw [if_pos h2]
        by_cases h3 : R0 15 p = R1 15 p
        · rw [if_pos h3]
          by_cases h4 : R0 16 p = R1 16 p
          · rw [if_pos h4, if_pos]
            intro w _ hw
            match w, hw with
            | 0, _ => exact h0
            | 1, _ => exact h1
            | 2, _ => exact h2
            | 3, _ => exact h3
            | 4, _ => exact h4
          · rw [if_neg h4, if_neg (fun h => h4 (h 4 (by omega) (by omega)))]
        · rw [if_neg h3, if_neg (fun h => h3 (h 3 (by omega) (by omega)))]
      · rw [if_neg h2, if_neg (fun h => h2 (h 2 (by omega) (by omega)))]
    · rw [if_neg h1, if_neg (fun h => h1 (h 1 (by omega) (by omega)))]
  · rw [if_neg h0, if_neg (fun h => h0 (h 0 (by omega) (by omega)))]
theorem cmp_p {R0 R1 : RI} (hN : 200 ≤ N) (hP : P ≤ 24) (hI : I 4 = nI P) (hL0 : LF R0 Rq) (hL1 : LF R1 Rc) (h21 : ∀ p w, p < P → w < 5 → R1 21 (5 * p + w) = R0 (12 + w) p) {s : Int32} {AL : List Nat} {Ix : OI} {Rx : RI} {ta : Int32} {ea : Option Nat} {wa : OO} {AI : Nat → OI} {AR : Nat → OO} (hx : Ix 1 = nI P) : ∀ (c p S : Nat) (f f' : Nat), p + c = P → c < f → c < f' → ∃ S', f_X5_changed_l47 N AL Ix Rx ta ea wa AI AR f Iq Rq cmq Ic Rc cmc (nI S) (nI p) = some (0, nI S', Iq, Rq, cmq, Ic, Rc, cmc) ∧ f_X6_changed_l110 N f' I R1 s (nI S) (nI p) = some (nI S', I, R1)
  | c, p, S, 0, f', _, hf, _ => absurd hf (by omega)
  | c, p, S, f, 0, _, _, hf => absurd hf (by omega)
  | 0, p, S, f + 1, f' + 1, hp, hf, hf' => by
    have hle : nI P ≤ nI p := (n_le (by omega) (by omega)).mpr (by omega)
    refine ⟨S, ?_, ?_⟩
    · show f_X5_changed_l47b N AL Ix Rx ta ea wa AI AR (f_X5_changed_l47 N AL Ix Rx ta ea wa AI AR f) Iq Rq cmq Ic Rc cmc (nI S) (nI p) = _
      unfold f_X5_changed_l47b
      rw [hx, if_pos hle]
    · show f_X6_changed_l110b N (f_X6_changed_l110 N f') I R1 s (nI S) (nI p) = _
      unfold f_X6_changed_l110b
      rw [hI, if_pos hle]
  | c + 1, p, S, f + 1, f' + 1, hp, hf, hf' => by
    have hle : ¬ nI P ≤ nI p := fun e => by have := (n_le (by omega) (by omega)).mp e; omega
    have hp24 : p < 24 := by omega
    have m1 := cmp_w (N := N) (I := I) (s := s) (S := S) hp24 (fun w hw => h21 p w (by omega) hw) (k110 := f_X6_changed_l110 N f') 5 0 1 N rfl (Or.inr rfl) (by omega)
    obtain ⟨S', r1, r2⟩ := cmp_p hN hP hI hL0 hL1 h21 (s := s) (AL := AL) (Rx := Rx) (ta := ta) (ea := ea) (wa := wa) (AI := AI) (AR := AR) hx c (p + 1) (S + @ite Nat ((1 : Int32) = 1 ∧ Five R0 R1 p 0) (Classical.propDecidable _) 0 1) f f' (by omega) (by omega) (by omega)
    refine ⟨S', ?_, ?_⟩
    · rw [← r1]
      show f_X5_changed_l47b N AL Ix Rx ta ea wa AI AR (f_X5_changed_l47 N AL Ix Rx ta ea wa AI AR f) Iq Rq cmq Ic Rc cmc (nI S) (nI p) = _
      unfold f_X5_changed_l47b
      rw [hx, if_neg hle, same_c hL0 hL1 hp24, ob1_some]
      simp only [ol_eq, nI_s9]
      by_cases hF : Five R0 R1 p 0
      · rw [if_pos hF, if_neg one0, if_pos ⟨rfl, hF⟩]
        rfl
      · rw [if_neg hF, if_pos rfl, if_neg (fun h => hF h.2)]
    · rw [← r2, ← m1]
      show f_X6_changed_l110b N (f_X6_changed_l110 N f') I R1 s (nI S) (nI p) = _
      unfold f_X6_changed_l110b
      rw [hI, if_neg hle]
      rfl
end two
section sims
variable {N t n m P d g : Nat} {od ad : Nat → Nat} {Ix : OI} {Rx : RI} {ta : Int32} {ea : Option Nat} {wa : OO} {Ik : OI} {Rk : RI} {cmk : Option Nat} {In : OI} {Rn : RI} {AL : List Nat} {AI : Nat → OI} {AR : Nat → OO} {rs : OO} {RL : List RLT} {I : OI} {R : RI}
theorem sim_changed (hN : 700 ≤ N) (h : IVc N t n m P d g od ad Ix Rx ta ea wa Ik Rk cmk In Rn AL AI AR rs RL I R) (Iq : OI) (Rq : RI) (cmq : Option Nat) (Ic : OI) (Rc : RI) (cmc : Option Nat) (x1 x2 x3 : Int32) :
    ∃ out outM, f_X5_changed N AL Ix Rx ta ea wa AI AR Iq Rq cmq Ic Rc cmc x1 x2 x3 = some out ∧ f_X6_changed N I R x1 x2 x3 = some outM ∧ CRel e2 out.1 (outM.2.1 0) ∧ (out.1 = 0 → out.2.1 = outM.1) ∧ IV N (t + 1) Ix Rx ta ea wa Ik Rk cmk In Rn AL AI AR rs RL outM.2.1 outM.2.2 := by
  have h9 := h
  obtain ⟨A, X, ⟨d1, d2, d3, d4, d5⟩, -⟩ := h
  have hP := A.P24
  have hdd := X.dd
  have bad : ∃ out outM, (some (2, (0 : Int32), Iq, Rq, cmq, Ic, Rc, cmc) : Option (Nat × Int32 × OI × RI × Option Nat × OI × RI × Option Nat)) = some out ∧ f_X6_changed_j30 N I R x1 x2 x3 1 = some outM ∧ CRel e2 out.1 (outM.2.1 0) ∧ (out.1 = 0 → out.2.1 = outM.1) ∧ IV N (t + 1) Ix Rx ta ea wa Ik Rk cmk In Rn AL AI AR rs RL outM.2.1 outM.2.2 := by
    refine ⟨_, (0, va_up I 0 1, R), rfl, ?_, ?_, n0e (by omega), askI h9 1⟩
    · unfold f_X6_changed_j30
      rw [refused_1, ob2_mk, if_neg one0]
    · show CRel e2 2 (va_up I 0 1 0)
      rw [up0]
      exact cE (b := 1) (by decide)
  unfold f_X5_changed f_X6_changed
  rcases day_c (R := R) (Rx := Rx) hdd d1 d2 x1 with ⟨s, hs, rfl, e1, e2⟩ | ⟨-, e1, e2⟩
  · rw [e1, e2, ob1_some, if_neg one0, obc_0]
    rcases day_c (R := R) (Rx := Rx) hdd d1 d2 x2 with ⟨k, hk, rfl, g1, g2⟩ | ⟨-, g1, g2⟩
    · rw [g1, g2, ob1_some, if_neg one0, obc_0]
      rcases day_c (R := R) (Rx := Rx) hdd d1 d2 x3 with ⟨l, hl, rfl, j1, j2⟩ | ⟨-, j1, j2⟩
      · rw [j1, j2, ob1_some, if_neg one0, obc_0]
        have A4 := A_up0 A 0
        obtain ⟨R1, Rq1, cm1, f1, f2, f3, f4, f5, f6⟩ := find_all A4 X (show 200 ≤ N by omega) Iq Rq cmq (nI s) (nI k)
        obtain ⟨R2, s1, s2⟩ := save_p (N := N) (s := nI s) (l := nI l) (R0 := R1) hP A4.iP (by omega) P 0 R1 N (by omega) ⟨fun _ _ => rfl, fun p' w' h1 h2 => by omega⟩ (by omega)
        have hq2 : ∀ c, ¬ (11 ≤ c ∧ c ≤ 21) → R2 c = R c := fun c hc => (s2.1 c (by omega)).trans (f4 c (by omega))
        have A5 : AC n m P od ad (va_up I 0 0) R2 AL AI AR ta ea wa := ac_sq9 A4 rfl rfl rfl (fun c hc => hq2 c (by omega))
        obtain ⟨R3, Rc1, cm3, q1, q2, q3, q4, q5, q6⟩ := find_all A5 (X.sq (fun c hc => hq2 c (by omega))) (show 200 ≤ N by omega) Ic Rc cmc (nI s) (nI l)
        obtain ⟨S', r1, r2⟩ := cmp_p (N := N) (I := va_up I 0 0) (cmq := cm1) (cmc := cm3) (Iq := va_up (va_up (va_up Iq 1 (nI k)) 0 0) 0 (nI s)) (Ic := va_up (va_up (va_up Ic 1 (nI l)) 0 0) 0 (nI s)) (s := nI s) (AL := AL) (Rx := Rx) (ta := ta) (ea := ea) (wa := wa) (AI := AI) (AR := AR) (by omega) hP A4.iP f3 q3 (fun p w hp hw => by rw [q4 21 (by omega)]; exact s2.2 p w hw (Or.inl hp)) d3 P 0 0 N N (by omega) (by omega) (by omega)
        refine ⟨(0, nI S', va_up (va_up (va_up Iq 1 (nI k)) 0 0) 0 (nI s), Rq1, cm1, va_up (va_up (va_up Ic 1 (nI l)) 0 0) 0 (nI s), Rc1, cm3), (nI S', va_up I 0 0, R3), ?_, ?_, c0, fun _ => rfl, IV.ask h9 (fun c hc => up_ne hc) (fun c hc => (q4 c (by omega)).trans (hq2 c hc)) LEq.rf⟩
        · rw [f2, ob3_mk, q2, ob3_mk]
          exact r1
        · unfold f_X6_changed_j30
          rw [refused_0, ob2_mk, if_pos rfl, f1, ob1_some]
          have s1' : f_X6_changed_l47 N N (va_up I 0 0) R1 (nI s) (nI l) 0 = _ := s1
          rw [s1', q1, ob1_some]
          exact r2
      · rw [j1, j2, ob1_some, if_pos rfl, obc_2]
        exact bad
    · rw [g1, g2, ob1_some, if_pos rfl, obc_2]
      exact bad
  · rw [e1, e2, ob1_some, if_pos rfl, obc_2]
    exact bad
end sims
end PCh
