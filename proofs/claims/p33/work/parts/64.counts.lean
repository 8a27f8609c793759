/-! ===== PURE: counting; households, money ===== -/
section PCo
def cnt (q : Nat → Bool) : Nat → Nat → Nat
  | _, 0 => 0
  | j, c + 1 => (if q j = true then 1 else 0) + cnt q (j + 1) c
theorem cnt_add (q : Nat → Bool) : ∀ (a j b : Nat), cnt q j (a + b) = cnt q j a + cnt q (j + a) b
  | 0, j, b => by rw [Nat.zero_add, Nat.add_zero]; show _ = 0 + _; rw [Nat.zero_add]
  | a + 1, j, b => by
    rw [show a + 1 + b = (a + b) + 1 by omega]
    show (if q j = true then 1 else 0) + cnt q (j + 1) (a + b) = (if q j = true then 1 else 0) + cnt q (j + 1) a + cnt q (j + (a + 1)) b
    rw [cnt_add q a (j + 1) b, show j + 1 + a = j + (a + 1) by omega, Nat.add_assoc]
theorem cnt_eq {q q' : Nat → Bool} : ∀ (c j : Nat), (∀ i, j ≤ i → i < j + c → q i = q' i) → cnt q j c = cnt q' j c
  | 0, _, _ => rfl
  | c + 1, j, h => by
    show (if q j = true then 1 else 0) + cnt q (j + 1) c = (if q' j = true then 1 else 0) + cnt q' (j + 1) c
    rw [h j (Nat.le_refl _) (by omega), cnt_eq c (j + 1) (fun i h1 h2 => h i (by omega) (by omega))]
theorem cnt_none {q : Nat → Bool} : ∀ (c j : Nat), (∀ i, j ≤ i → i < j + c → q i = false) → cnt q j c = 0
  | 0, _, _ => rfl
  | c + 1, j, h => by
    show (if q j = true then 1 else 0) + cnt q (j + 1) c = 0
    rw [h j (Nat.le_refl _) (by omega), cnt_none c (j + 1) (fun i h1 h2 => h i (by omega) (by omega)), if_neg (by decide)]
theorem cnt_le (q : Nat → Bool) : ∀ (c j : Nat), cnt q j c ≤ c
  | 0, _ => Nat.le_refl 0
  | c + 1, j => by
    show (if q j = true then 1 else 0) + cnt q (j + 1) c ≤ c + 1
    have := cnt_le q c (j + 1)
    split <;> omega
theorem cnt_24 {q q' : Nat → Bool} {P : Nat} (hP : P ≤ 24) (h : ∀ i, i < P → q i = q' i) (hn : ∀ i, P ≤ i → i < 24 → q i = false) : cnt q 0 24 = cnt q' 0 P := by
  have e := cnt_add q P 0 (24 - P)
  rw [show P + (24 - P) = 24 by omega, cnt_none (24 - P) (0 + P) (fun i h1 h2 => hn i (by omega) (by omega)), Nat.add_zero] at e
  rw [e]
  exact cnt_eq P 0 (fun i _ h2 => h i (by omega))
abbrev lowq (Rk : RI) (w p : Nat) : Bool := decide (Rk 1 p = 1 ∧ Rk 2 p = nI w ∧ Rk 9 p = nI p)
abbrev lowm (R : RI) (w p : Nat) : Bool := decide (R 13 p = nI w ∧ R 20 p = nI p)
abbrev offq (Rk : RI) (o p : Nat) : Bool := decide (Rk 1 p = 1 ∧ Rk 2 p / 4 = nI o)
abbrev offm (R : RI) (o p : Nat) : Bool := decide (¬ R 13 p = -1 ∧ R 13 p / 4 = nI o)
section two
variable {N P s : Nat} {I Ik : OI} {R Rk : RI} {cm : Option Nat}
theorem count_c {w : Nat} : ∀ (c j x : Nat) (f : Nat), j + c = 24 → c < f → f_X2_countHouseholds_l8 N Ik cm f Rk (nI w) (nI x) (nI j) = some (nI (x + cnt (lowq Rk w) j c), Rk)
  | c, j, x, 0, _, hf => absurd hf (by omega)
  | 0, j, x, f + 1, hj, hf => by
    obtain rfl : j = 24 := by omega
    show f_X2_countHouseholds_l8b N Ik cm (f_X2_countHouseholds_l8 N Ik cm f) Rk (nI w) (nI x) (nI 24) = _
    unfold f_X2_countHouseholds_l8b
    rw [if_pos (by decide)]
    rfl
  | c + 1, j, x, f + 1, hj, hf => by
    have hj24 : j < 24 := by omega
    show f_X2_countHouseholds_l8b N Ik cm (f_X2_countHouseholds_l8 N Ik cm f) Rk (nI w) (nI x) (nI j) = some (nI (x + ((if lowq Rk w j = true then 1 else 0) + cnt (lowq Rk w) (j + 1) c)), Rk)
    unfold f_X2_countHouseholds_l8b
    rw [if_neg (by rw [show (24 : Int32) = nI 24 from rfl, n_le (by omega) (by omega)]; omega), isLiving_at, ob1_ite, atv_nI hj24 (by omega)]
    simp only [og_nI hj24 (show 24 < 2147483648 by omega), nI_tn (bd4 hj24), ol_eq, nI_s9]
    have r1 := count_c (w := w) c (j + 1) x f (by omega) (by omega)
    have r2 := count_c (w := w) c (j + 1) (x + 1) f (by omega) (by omega)
    by_cases h1 : Rk 1 j = 1
    · by_cases h2 : Rk 2 j = nI w
      · by_cases h3 : Rk 9 j = nI j
        · rw [if_pos h1, if_neg one0, if_pos h2, if_pos h3, r2, if_pos (decide_eq_true ⟨h1, h2, h3⟩), Nat.add_assoc]
        · rw [if_pos h1, if_neg one0, if_pos h2, if_neg h3, r1, if_neg (fun e => h3 (of_decide_eq_true e).2.2), Nat.zero_add]
      · rw [if_pos h1, if_neg one0, if_neg h2, r1, if_neg (fun e => h2 (of_decide_eq_true e).2.1), Nat.zero_add]
    · rw [if_neg h1, if_pos trivial, r1, if_neg (fun e => h1 (of_decide_eq_true e).1), Nat.zero_add]
theorem count_m {w : Nat} (hP : P ≤ 24) (hI : I 4 = nI P) : ∀ (c j x : Nat) (f : Nat), j + c = P → c < f → f_X6_households_l61 N f I R (nI w) (nI x) (nI j) = some (nI (x + cnt (lowm R w) j c), I, R)
  | c, j, x, 0, _, hf => absurd hf (by omega)
  | 0, j, x, f + 1, hj, hf => by
    show f_X6_households_l61b N (f_X6_households_l61 N f) I R (nI w) (nI x) (nI j) = _
    unfold f_X6_households_l61b
    rw [hI, if_pos ((n_le (by omega) (by omega)).mpr (by omega))]
    rfl
  | c + 1, j, x, f + 1, hj, hf => by
    have hj24 : j < 24 := by omega
    show f_X6_households_l61b N (f_X6_households_l61 N f) I R (nI w) (nI x) (nI j) = some (nI (x + ((if lowm R w j = true then 1 else 0) + cnt (lowm R w) (j + 1) c)), I, R)
    unfold f_X6_households_l61b
    rw [hI, if_neg (fun e => by have := (n_le (by omega) (by omega)).mp e; omega)]
    simp only [og_nI hj24 (show 24 < 2147483648 by omega), nI_tn (bd4 hj24), ol_eq, nI_s9, nI_s1, Int32.add_zero]
    have r1 := count_m (w := w) hP hI c (j + 1) x f (by omega) (by omega)
    have r2 := count_m (w := w) hP hI c (j + 1) (x + 1) f (by omega) (by omega)
    by_cases h2 : R 13 j = nI w
    · by_cases h3 : R 20 j = nI j
      · rw [if_pos h2, if_pos h3, r2, if_pos (decide_eq_true ⟨h2, h3⟩), Nat.add_assoc]
      · rw [if_pos h2, if_neg h3, r1, if_neg (fun e => h3 (of_decide_eq_true e).2), Nat.zero_add]
    · rw [if_neg h2, r1, if_neg (fun e => h2 (of_decide_eq_true e).1), Nat.zero_add]
theorem under_c {s' : Int32} (hC : CL s' Rk) {o : Nat} (ho : o < 4) : ∀ (c j x : Nat) (f : Nat), j + c = 24 → c < f → f_X2_countLivingUnder_l4 N Ik Rk cm f (nI o) (nI x) (nI j) = some (nI (x + cnt (offq Rk o) j c))
  | c, j, x, 0, _, hf => absurd hf (by omega)
  | 0, j, x, f + 1, hj, hf => by
    obtain rfl : j = 24 := by omega
    show f_X2_countLivingUnder_l4b N Ik Rk cm (f_X2_countLivingUnder_l4 N Ik Rk cm f) (nI o) (nI x) (nI 24) = _
    unfold f_X2_countLivingUnder_l4b
    rw [if_pos (by decide)]
    rfl
  | c + 1, j, x, f + 1, hj, hf => by
    have hj24 : j < 24 := by omega
    show f_X2_countLivingUnder_l4b N Ik Rk cm (f_X2_countLivingUnder_l4 N Ik Rk cm f) (nI o) (nI x) (nI j) = some (nI (x + ((if offq Rk o j = true then 1 else 0) + cnt (offq Rk o) (j + 1) c)))
    unfold f_X2_countLivingUnder_l4b
    rw [if_neg (by rw [show (24 : Int32) = nI 24 from rfl, n_le (by omega) (by omega)]; omega), isLiving_at, ob1_ite, atv_nI hj24 (by omega)]
    simp only [og_nI hj24 (show 24 < 2147483648 by omega), nI_tn (bd4 hj24), ol_eq, nI_s9]
    have r1 := under_c hC ho c (j + 1) x f (by omega) (by omega)
    have r2 := under_c hC ho c (j + 1) (x + 1) f (by omega) (by omega)
    by_cases h1 : Rk 1 j = 1
    · obtain ⟨h, hh, eh⟩ := hC.hl j hj24 h1
      have e4 : Rk 2 j / 4 = nI (h / 4) := by rw [eh]; exact nI_div (b := 4) (by omega) (by omega)
      rw [if_pos h1, if_neg one0, eh, office_nI hh, ob1_some]
      by_cases h2 : nI (h / 4) = nI o
      · rw [if_pos h2, r2, if_pos (decide_eq_true ⟨h1, e4.trans h2⟩), Nat.add_assoc]
      · rw [if_neg h2, r1, if_neg (fun e => h2 (e4.symm.trans (of_decide_eq_true e).2)), Nat.zero_add]
    · rw [if_neg h1, if_pos trivial, r1, if_neg (fun e => h1 (of_decide_eq_true e).1), Nat.zero_add]
theorem under_m {o : Nat} (hP : P ≤ 24) (hI : I 4 = nI P) {k80 : OI → RI → Int32 → Int32 → Int32 → Int32 → Int32 → Int32 → Option (Int32 × OI × RI)} {x2 x3 x4 : Int32} {s : Nat} : ∀ (c j x : Nat) (f : Nat), j + c = P → c < f → f_X6_money_l99 N k80 f I R (nI o) x2 x3 x4 (nI x) (nI s) (nI j) = k80 I R (nI o) x2 x3 x4 (nI (x + cnt (offm R o) j c)) (nI (s + 1))
  | c, j, x, 0, _, hf => absurd hf (by omega)
  | 0, j, x, f + 1, hj, hf => by
    show f_X6_money_l99b N k80 (f_X6_money_l99 N k80 f) I R (nI o) x2 x3 x4 (nI x) (nI s) (nI j) = _
    unfold f_X6_money_l99b
    rw [hI, if_pos ((n_le (by omega) (by omega)).mpr (by omega)), ol_eq, nI_s9]
    rfl
  | c + 1, j, x, f + 1, hj, hf => by
    have hj24 : j < 24 := by omega
    show f_X6_money_l99b N k80 (f_X6_money_l99 N k80 f) I R (nI o) x2 x3 x4 (nI x) (nI s) (nI j) = k80 I R (nI o) x2 x3 x4 (nI (x + ((if offm R o j = true then 1 else 0) + cnt (offm R o) (j + 1) c))) (nI (s + 1))
    unfold f_X6_money_l99b
    rw [hI, if_neg (fun e => by have := (n_le (by omega) (by omega)).mp e; omega)]
    simp only [og_nI hj24 (show 24 < 2147483648 by omega), nI_tn (bd4 hj24), ol_eq, nI_s9, nI_s1, Int32.add_zero]
    have r1 := under_m (o := o) hP hI (k80 := k80) (x2 := x2) (x3 := x3) (x4 := x4) (s := s) c (j + 1) x f (by omega) (by omega)
    have r2 := under_m (o := o) hP hI (k80 := k80) (x2 := x2) (x3 := x3) (x4 := x4) (s := s) c (j + 1) (x + 1) f (by omega) (by omega)
    by_cases h1 : R 13 j = -1
    · rw [if_pos h1, r1, if_neg (fun e => (of_decide_eq_true e).1 h1), Nat.zero_add]
    · rw [if_neg h1]
      by_cases h2 : R 13 j / 4 = nI o
      · rw [if_pos h2, r2, if_pos (decide_eq_true ⟨h1, h2⟩), Nat.add_assoc]
      · rw [if_neg h2, r1, if_neg (fun e => h2 (of_decide_eq_true e).2), Nat.zero_add]
theorem off_eq (hL : LF R Rk) {s' : Int32} (hC : CL s' Rk) (hP : P ≤ 24) (hO : ∀ z, P ≤ z → z < 24 → R 12 z = 0) {o : Nat} : cnt (offq Rk o) 0 24 = cnt (offm R o) 0 P := by
  refine cnt_24 hP (fun i hi => ?_) (fun i h1 h2 => ?_)
  · have hi24 : i < 24 := by omega
    have e2 := hL.hm i hi24
    unfold offq offm
    rw [← e2]
    congr 1
    refine propext ⟨fun h => ⟨?_, h.2⟩, fun h => ⟨?_, h.2⟩⟩
    · obtain ⟨h', hh, e⟩ := hC.hl i hi24 h.1
      rw [e]; exact nI_m1 (by omega)
    · by_cases hl : Rk 1 i = 1
      · exact hl
      · exact absurd (hC.hn i hi24 hl) h.1
  · unfold offq
    refine decide_eq_false fun h => ?_
    have := edg_P (q := i) hL hO h2 h.1
    omega
end two
section sims
variable {N t n m P d g : Nat} {od ad : Nat → Nat} {Ix : OI} {Rx : RI} {ta : Int32} {ea : Option Nat} {wa : OO} {Ik : OI} {Rk : RI} {cmk : Option Nat} {In : OI} {Rn : RI} {AL : List Nat} {AI : Nat → OI} {AR : Nat → OO} {rs : OO} {RL : List RLT} {I : OI} {R : RI}
theorem sim_households (hN : 700 ≤ N) (h : IVc N t n m P d g od ad Ix Rx ta ea wa Ik Rk cmk In Rn AL AI AR rs RL I R) (Iq : OI) (Rq : RI) (cmq : Option Nat) (x1 x2 x3 : Int32) :
    ∃ out outM, f_X5_households N AL Ix Rx ta ea wa AI AR Iq Rq cmq x1 x2 x3 = some out ∧ f_X6_households N I R x1 x2 x3 = some outM ∧ CRel e12 out.1 (outM.2.1 0) ∧ (out.1 = 0 → out.2.1 = outM.1) ∧ IV N (t + 1) Ix Rx ta ea wa Ik Rk cmk In Rn AL AI AR rs RL outM.2.1 outM.2.2 := by
  have h9 := h
  obtain ⟨A, X, ⟨d1, d2, d3, d4, d5⟩, -⟩ := h
  have hP := A.P24
  have hdd := X.dd
  have bad : ∀ (y : Int32) (k b : Nat), y = nI b → (k, b) ∈ e12 → k ≠ 0 → f_X6_refused R I y = some (1, va_up I 0 y) → ∃ out outM, (some (k, (0 : Int32), Iq, Rq, cmq) : Option (Nat × Int32 × OI × RI × Option Nat)) = some out ∧ f_X6_households_j36 N I R x1 x2 x3 y = some outM ∧ CRel e12 out.1 (outM.2.1 0) ∧ (out.1 = 0 → out.2.1 = outM.1) ∧ IV N (t + 1) Ix Rx ta ea wa Ik Rk cmk In Rn AL AI AR rs RL outM.2.1 outM.2.2 := by
    intro y k b hy hkb hk hr
    refine ⟨_, (0, va_up I 0 y, R), rfl, ?_, ?_, n0e hk, askI h9 y⟩
    · unfold f_X6_households_j36
      rw [hr, ob2_mk, if_neg one0]
    · show CRel e12 k (va_up I 0 y 0)
      rw [up0, hy]
      exact cE hkb
  unfold f_X5_households f_X6_households
  rcases dwell_c x1 with ⟨w, hw, rfl, a1, a2⟩ | ⟨a1, a2⟩
  · rw [a1, a2, ob1_some, if_neg one0, obc_0]
    rcases day_c (R := R) (Rx := Rx) hdd d1 d2 x2 with ⟨s, hs, rfl, e1, e2⟩ | ⟨-, e1, e2⟩
    · rw [e1, e2, ob1_some, if_neg one0, obc_0]
      rcases day_c (R := R) (Rx := Rx) hdd d1 d2 x3 with ⟨k, hk, rfl, g1, g2⟩ | ⟨-, g1, g2⟩
      · rw [g1, g2, ob1_some, if_neg one0, obc_0]
        have A4 := A_up0 A 0
        obtain ⟨R1, Rq1, cm1, f1, f2, f3, f4, f5, f6⟩ := find_all A4 X (show 200 ≤ N by omega) Iq Rq cmq (nI s) (nI k)
        obtain ⟨R', Rk', q1, q2, q3, q4, q5, q6⟩ := house_both (cm := cm1) hN hP A4.iP f3 f6 (by omega) f5 (Ik := va_up (va_up (va_up Iq 1 (nI k)) 0 0) 0 (nI s)) up_same
        have eqc : cnt (lowq Rk' w) 0 24 = cnt (lowm R' w) 0 P := by
          refine cnt_24 hP (fun i hi => ?_) (fun i z1 z2 => ?_)
          · have hi24 : i < 24 := by omega
            unfold lowq lowm
            rw [q4 1 (by omega), q4 2 (by omega), q3 13 (by omega), ← f3.hm i hi24, q5 i hi]
            congr 1
            by_cases hl : Rq1 1 i = 1
            · rw [if_pos hl]
              exact propext ⟨fun z => z.2, fun z => ⟨hl, z⟩⟩
            · rw [if_neg hl, f6.hn i hi24 hl]
              exact propext ⟨fun z => absurd z.1 hl, fun z => absurd z.1.symm (nI_m1 (by omega))⟩
          · unfold lowq
            refine decide_eq_false fun z => ?_
            rw [q4 1 (by omega)] at z
            have := edg_P (q := i) f3 f5 z2 z.1
            omega
        refine ⟨(0, nI (0 + cnt (lowq Rk' w) 0 24), va_up (va_up (va_up Iq 1 (nI k)) 0 0) 0 (nI s), Rk', cm1), (nI (0 + cnt (lowm R' w) 0 P), va_up I 0 0, R'), ?_, ?_, c0, fun _ => by rw [eqc], ?_⟩
        · rw [f2, ob3_mk]
          unfold f_X2_countHouseholds
          rw [q2, ob1_some]
          rw [show (0 : Int32) = nI 0 from rfl, count_c 24 0 0 N rfl (by omega), ob2_mk]
        · unfold f_X6_households_j36
          rw [refused_0, ob2_mk, if_pos rfl, f1, ob1_some, q1, ob1_some]
          exact count_m hP A4.iP P 0 0 N (by omega) (by omega)
        · exact IV.ask h9 (fun c hc => up_ne hc) (fun c hc => (q3 c (by omega)).trans (f4 c (by omega))) LEq.rf
      · rw [g1, g2, ob1_some, if_pos rfl, obc_2]
        exact bad 2 2 2 rfl (by decide) (by omega) refused_2
    · rw [e1, e2, ob1_some, if_pos rfl, obc_2]
      exact bad 2 2 2 rfl (by decide) (by omega) refused_2
  · rw [a1, a2, ob1_some, if_pos rfl, obc_1]
    exact bad 1 1 1 rfl (by decide) (by omega) refused_1
/-- a day of a row of days -/
theorem money_day (A : AC n m P od ad I R AL AI AR ta ea wa) (X : AX n d R) (hN : 700 ≤ N) {Rb : RI} {k : Int32} {Iq0 : OI} {Rq0 : RI} {cm0 : Option Nat} (hb : f_X2_begin N AL ta ea wa AI AR Iq0 Rq0 cm0 k = some (va_up (va_up Iq0 1 k) 0 0, Rb, ea)) {j : Nat} {Iq : OI} (hk : Iq 1 = k) {s : Int32} (hj : j ≤ m) (hs : ∀ i, i < j → R 2 (od i) ≤ s) :
    ∃ R1 j' Rq', f_X6_goThrough N I R s k = some R1 ∧ f_X2_goOn N AL AI AR Iq (run AI (segA R od ad k 0 j) Rb) (nth m od ad j) s = some (va_up Iq 0 s, Rq', nth m od ad j') ∧ Rq' = run AI (segA R od ad k 0 j') Rb ∧ j' ≤ m ∧ (∀ i, i < j' → R 2 (od i) ≤ s) ∧ LF R1 Rq' ∧ SameQ R R1 ∧ (∀ z, P ≤ z → z < 24 → R1 12 z = 0) ∧ CL s Rq' := by
  have hn := A.n150
  have hm := A.mn
  obtain ⟨R1, Rq', cm', f1, f2, f3, f4, f5, f6⟩ := find_all A X (show 200 ≤ N by omega) Iq0 Rq0 cm0 s k
  obtain ⟨Rb', c, g1, g2, g3, g4, g5, -⟩ := find_run A (show 200 ≤ N by omega) Iq0 Rq0 cm0 s k
  rw [hb] at g1
  obtain ⟨-, g1, -⟩ := some3 g1
  subst g1
  rw [f2] at g5
  obtain ⟨-, g5, -⟩ := some3 g5
  obtain ⟨c', h1, h2, h3⟩ := cut_at R od m s (m - j) j (by omega)
  have ec : j + c' = c := by
    rcases Nat.lt_trichotomy (j + c') c with e | e | e
    · exact absurd (g3 _ e) (h3 (by omega))
    · exact e
    · refine absurd ?_ (g4 (by omega))
      by_cases z : c < j
      · exact hs c z
      · exact h2 c (by omega) e
  have hr := run_goes A (N := N) (Ik := va_up Iq 0 s) (cm := nth m od ad j) (s := s) (k := k) (by rw [up_ne (by omega)]; exact hk) c' j (run AI (segA R od ad k 0 j) Rb) N h1 (fun i z1 z2 => h2 i z1 z2) h3 (by omega)
  refine ⟨R1, c, Rq', f1, ?_, g5, g2, g3, f3, f4, f5, f6⟩
  unfold f_X2_goOn
  rw [ol_eq, hr, g5, ← ec, segA_add R od ad k j 0 c', run_app, Nat.zero_add]
theorem money_l (A0 : AC n m P od ad I R AL AI AR ta ea wa) (X : AX n d R) (hN : 700 ≤ N) {Rb : RI} {k : Int32} {Iq0 : OI} {Rq0 : RI} {cm0 : Option Nat} (hb : f_X2_begin N AL ta ea wa AI AR Iq0 Rq0 cm0 k = some (va_up (va_up Iq0 1 k) 0 0, Rb, ea)) {o b v : Nat} (ho : o < 4) (hv : v ≤ 60) (hbd : b ≤ 30000) : ∀ (c i S j : Nat) (Iq : OI) (Ra : RI) (f f' : Nat), i + c = v → c < f → c < f' → Iq 1 = k → j ≤ m → (∀ z, z < j → R 2 (od z) ≤ nI (b + i)) → SameQ R Ra →
    ∃ S' Iq' Rq' cm' Ra', f_X5_money_l50 N AL Ix Rx ta ea wa AI AR f Iq (run AI (segA R od ad k 0 j) Rb) (nth m od ad j) (nI o) (nI b) (nI v) (nI S) (nI i) = some (0, nI S', Iq', Rq', cm') ∧ f_X6_money_l80 N f' I Ra (nI o) (nI b) (nI v) k (nI S) (nI (b + i)) = some (nI S', I, Ra') ∧ SameQ R Ra'
  | c, i, S, j, Iq, Ra, 0, f', _, hf, _, _, _, _, _ => absurd hf (by omega)
  | c, i, S, j, Iq, Ra, f, 0, _, _, hf, _, _, _, _ => absurd hf (by omega)
  | 0, i, S, j, Iq, Ra, f + 1, f' + 1, hi, hf, hf', hk, hj, hs, hq => by
    refine ⟨S, Iq, run AI (segA R od ad k 0 j) Rb, nth m od ad j, Ra, ?_, ?_, hq⟩
    · show f_X5_money_l50b N AL Ix Rx ta ea wa AI AR (f_X5_money_l50 N AL Ix Rx ta ea wa AI AR f) Iq _ _ (nI o) (nI b) (nI v) (nI S) (nI i) = _
      unfold f_X5_money_l50b
      rw [if_pos ((n_le (by omega) (by omega)).mpr (by omega))]
    · show f_X6_money_l80b N (f_X6_money_l80 N f') I Ra (nI o) (nI b) (nI v) k (nI S) (nI (b + i)) = _
      unfold f_X6_money_l80b
      rw [nI_ad, if_pos ((n_le (by omega) (by omega)).mpr (by omega))]
  | c + 1, i, S, j, Iq, Ra, f + 1, f' + 1, hi, hf, hf', hk, hj, hs, hq => by
    have hP := A0.P24
    have A1 := A0.sq hq
    have X1 : AX n d Ra := X.sq (fun c hc => hq c (by omega))
    have hsg : ∀ a c, segA Ra od ad k a c = segA R od ad k a c := fun a c => segA_c c a (fun i _ _ => ⟨kn_sq hq, rfl⟩)
    have e2 : Ra 2 = R 2 := hq 2 (by omega)
    obtain ⟨R1, j', Rq', m1, m2, m3, m4, m5, m6, m7, m8, m9⟩ := money_day A1 X1 hN hb hk (s := nI (b + i)) hj (fun z hz => by rw [e2]; exact hs z hz)
    rw [hsg] at m2 m3
    have ec := off_eq (o := o) m6 m9 hP m8
    have hq1 : SameQ R R1 := fun c hc => (m7 c hc).trans (hq c hc)
    rw [e2] at m5
    obtain ⟨S', Iq', Rq2, cm', Ra', r1, r2, r3⟩ := money_l A0 X hN hb ho hv hbd c (i + 1) (S + cnt (offq Rq' o) 0 24) j' (va_up Iq 0 (nI (b + i))) R1 f f' (by omega) (by omega) (by omega) ((up_ne (by omega)).trans hk) m4 (fun z hz => Int32.le_trans (m5 z hz) ((n_le (by omega) (by omega)).mpr (by omega))) hq1
    refine ⟨S', Iq', Rq2, cm', Ra', ?_, ?_, r3⟩
    · rw [← r1]
      show f_X5_money_l50b N AL Ix Rx ta ea wa AI AR (f_X5_money_l50 N AL Ix Rx ta ea wa AI AR f) Iq _ _ (nI o) (nI b) (nI v) (nI S) (nI i) = _
      unfold f_X5_money_l50b
      rw [if_neg (fun e => by have := (n_le (by omega) (by omega)).mp e; omega), nI_ad, m2, ob3_mk]
      unfold f_X2_countLivingUnder
      have := under_c (N := N) (Ik := va_up Iq 0 (nI (b + i))) (cm := nth m od ad j') m9 ho 24 0 0 N rfl (by omega)
      rw [show (0 : Int32) = nI 0 from rfl, this, ob1_some, ol_eq, ol_eq, nI_s9, nI_ad, Nat.zero_add, m3]
    · rw [← r2]
      show f_X6_money_l80b N (f_X6_money_l80 N f') I Ra (nI o) (nI b) (nI v) k (nI S) (nI (b + i)) = _
      unfold f_X6_money_l80b
      rw [nI_ad, if_neg (fun e => by have := (n_le (by omega) (by omega)).mp e; omega), m1, ob1_some]
      rw [show (0 : Int32) = nI 0 from rfl, under_m hP A0.iP P 0 S N (by omega) (by omega), ec, show b + i + 1 = b + (i + 1) by omega]
theorem lt_money {d v b : Nat} (hd : d ≤ 30000) (hv : v ≤ 60) (hb : b ≤ 100000) : (nI d - nI v) + 1 < nI b ↔ d + 1 < b + v := by
  rw [Int32.lt_iff_toInt_lt, Int32.toInt_add, sub_ti (by omega) (by omega), n_ti (by omega)]
  have e1 : (1 : Int32).toInt = 1 := by decide
  rw [e1, Int.bmod_eq_of_le (by omega) (by omega)]
  omega
theorem sim_money (hN : 700 ≤ N) (h : IVc N t n m P d g od ad Ix Rx ta ea wa Ik Rk cmk In Rn AL AI AR rs RL I R) (Iq : OI) (Rq : RI) (cmq : Option Nat) (x1 x2 x3 x4 : Int32) :
    ∃ out outM, f_X5_money N AL Ix Rx ta ea wa AI AR Iq Rq cmq x1 x2 x3 x4 = some out ∧ f_X6_money N I R x1 x2 x3 x4 = some outM ∧ CRel e12 out.1 (outM.2.1 0) ∧ (out.1 = 0 → out.2.1 = outM.1) ∧ IV N (t + 1) Ix Rx ta ea wa Ik Rk cmk In Rn AL AI AR rs RL outM.2.1 outM.2.2 := by
  have h9 := h
  obtain ⟨A, X, ⟨d1, d2, d3, d4, d5⟩, -⟩ := h
  have hP := A.P24
  have hdd := X.dd
  have bad : ∀ (y : Int32) (k b : Nat), y = nI b → (k, b) ∈ e12 → k ≠ 0 → f_X6_refused R I y = some (1, va_up I 0 y) → ∃ out outM, (some (k, (0 : Int32), Iq, Rq, cmq) : Option (Nat × Int32 × OI × RI × Option Nat)) = some out ∧ f_X6_money_j66 N I R x1 x2 x3 x4 y = some outM ∧ CRel e12 out.1 (outM.2.1 0) ∧ (out.1 = 0 → out.2.1 = outM.1) ∧ IV N (t + 1) Ix Rx ta ea wa Ik Rk cmk In Rn AL AI AR rs RL outM.2.1 outM.2.2 := by
    intro y k b hy hkb hk hr
    refine ⟨_, (0, va_up I 0 y, R), rfl, ?_, ?_, n0e hk, askI h9 y⟩
    · unfold f_X6_money_j66
      rw [hr, ob2_mk, if_neg one0]
    · show CRel e12 k (va_up I 0 y 0)
      rw [up0, hy]
      exact cE hkb
  have hoff := office_c x1
  have h40 : ∀ y : Int32, (f_X6_within x1 0 3 = some 0 → f_X6_money_j40 N I R x1 x2 x3 x4 y = f_X6_money_j66 N I R x1 x2 x3 x4 1) ∧ (f_X6_within x1 0 3 = some 1 → y = 0 → f_X6_money_j40 N I R x1 x2 x3 x4 y = f_X6_money_j66 N I R x1 x2 x3 x4 2) ∧ (f_X6_within x1 0 3 = some 1 → y = 1 → f_X6_money_j40 N I R x1 x2 x3 x4 y = f_X6_money_j66 N I R x1 x2 x3 x4 0) := fun y => by
    unfold f_X6_money_j40
    refine ⟨fun e => ?_, fun e e2 => ?_, fun e e2 => ?_⟩
    · rw [e, ob1_some, if_pos rfl]
    · rw [e, ob1_some, if_neg one0, if_pos e2]
    · rw [e, ob1_some, if_neg one0, if_neg (by rw [e2]; exact one0)]
  have hm : ∃ y : Int32, f_X6_money N I R x1 x2 x3 x4 = f_X6_money_j40 N I R x1 x2 x3 x4 y ∧ ((y = 0 ∧ (f_X5_requireDay Ix Rx x2 = some 2 ∨ (f_X5_requireDay Ix Rx x2 = some 0 ∧ (f_X5_requireWithin x3 1 60 = some 2 ∨ (f_X5_requireWithin x3 1 60 = some 0 ∧ (f_X5_requireDay Ix Rx (x2 + x3 - 1) = some 2 ∨ (f_X5_requireDay Ix Rx (x2 + x3 - 1) = some 0 ∧ f_X5_requireDay Ix Rx x4 = some 2))))))) ∨ (y = 1 ∧ f_X5_requireDay Ix Rx x2 = some 0 ∧ f_X5_requireWithin x3 1 60 = some 0 ∧ f_X5_requireDay Ix Rx (x2 + x3 - 1) = some 0 ∧ f_X5_requireDay Ix Rx x4 = some 0 ∧ ∃ b v k, x2 = nI b ∧ x3 = nI v ∧ x4 = nI k ∧ b ≤ d ∧ v ≤ 60)) := by
    unfold f_X6_money
    rcases day_c (R := R) (Rx := Rx) hdd d1 d2 x2 with ⟨b, hb, rfl, e1, e2⟩ | ⟨e0, e1, e2⟩
    · rw [if_neg (nI_nn (by omega))]
      rcases within_c (a := 1) (b := 60) (by omega) (by omega) x3 with ⟨v, hv1, hv, rfl, b1, b2⟩ | ⟨b1, b2⟩
      · have b1' : f_X6_within (nI v) 1 60 = some 1 := b1
        have b2' : f_X5_requireWithin (nI v) 1 60 = some 0 := b2
        have ebv : nI b + nI v - 1 = nI (b + v - 1) := by
          rw [nI_ad]
          obtain ⟨z, hz⟩ : ∃ z, b + v = z + 1 := ⟨b + v - 1, by omega⟩
          rw [hz, nI_p1, Nat.add_sub_cancel]
        rw [b1', ob1_some, if_neg one0, d1, ebv]
        by_cases hl : d + 1 < b + v
        · refine ⟨0, by rw [if_pos ((lt_money hdd hv (by omega)).mpr hl)], Or.inl ⟨rfl, Or.inr ⟨e2, Or.inr ⟨b2', Or.inl ?_⟩⟩⟩⟩
          rcases day_c (R := R) (Rx := Rx) hdd d1 d2 (nI (b + v - 1)) with ⟨z, hz, ez, g1, g2⟩ | ⟨-, g1, g2⟩
          · have := (n_eq (by omega) (by omega)).mp ez
            omega
          · exact g2
        · have g2 : f_X5_requireDay Ix Rx (nI (b + v - 1)) = some 0 := by
            rcases day_c (R := R) (Rx := Rx) hdd d1 d2 (nI (b + v - 1)) with ⟨z, hz, ez, g1, g2⟩ | ⟨g0, g1, g2⟩
            · exact g2
            · rcases g0 with g0 | g0
              · exact absurd g0 (nI_nn (by omega))
              · have := (n_lt (by omega) (by omega)).mp g0
                omega
          rw [if_neg (fun e => hl ((lt_money hdd hv (by omega)).mp e))]
          rcases day_c (R := R) (Rx := Rx) hdd d1 d2 x4 with ⟨k, hk, rfl, q1, q2⟩ | ⟨-, q1, q2⟩
          · rw [q1, ob1_some, if_neg one0]
            exact ⟨1, rfl, Or.inr ⟨rfl, e2, b2', g2, q2, b, v, k, rfl, rfl, rfl, hb, hv⟩⟩
          · rw [q1, ob1_some, if_pos rfl]
            exact ⟨0, rfl, Or.inl ⟨rfl, Or.inr ⟨e2, Or.inr ⟨b2', Or.inr ⟨g2, q2⟩⟩⟩⟩⟩
      · rw [show f_X6_within x3 1 60 = some 0 from b1, ob1_some, if_pos rfl]
        exact ⟨0, rfl, Or.inl ⟨rfl, Or.inr ⟨e2, Or.inl b2⟩⟩⟩
    · refine ⟨0, ?_, Or.inl ⟨rfl, Or.inl e2⟩⟩
      by_cases z : x2 < 0
      · rw [if_pos z]
      · rw [if_neg z]
        rcases within_c (a := 1) (b := 60) (by omega) (by omega) x3 with ⟨v, hv1, hv, rfl, b1, b2⟩ | ⟨b1, b2⟩
        · rw [show f_X6_within (nI v) 1 60 = some 1 from b1, ob1_some, if_neg one0, if_pos]
          rcases e0 with e0 | e0
          · exact absurd e0 z
          · rw [Int32.lt_iff_toInt_lt, n_ti (by omega)] at e0
            rw [d1, Int32.lt_iff_toInt_lt, Int32.toInt_add, sub_ti (by omega) (by omega)]
            have e1 : (1 : Int32).toInt = 1 := by decide
            rw [e1, Int.bmod_eq_of_le (by omega) (by omega)]
            omega
        · rw [show f_X6_within x3 1 60 = some 0 from b1, ob1_some, if_pos rfl]
  obtain ⟨y, hm1, hm2⟩ := hm
  rw [hm1]
  unfold f_X5_money
  rcases hoff with ⟨o, ho, rfl, a1, a2⟩ | ⟨a1, a2⟩
  · rw [a2, obc_0]
    rcases hm2 with ⟨y0, hr⟩ | ⟨y1, r1, r2, r3, r4, b, v, k, rfl, rfl, rfl, hb, hv⟩
    · rw [(h40 y).2.1 a1 y0]
      have fin := bad 2 2 2 rfl (by decide) (by omega) refused_2
      rcases hr with r | ⟨r1, r⟩
      · rw [r, obc_2]; exact fin
      · rw [r1, obc_0]
        rcases r with r | ⟨r2, r⟩
        · rw [r, obc_2]; exact fin
        · rw [r2, obc_0]
          rcases r with r | ⟨r3, r⟩
          · rw [r, obc_2]; exact fin
          · rw [r3, obc_0, r, obc_2]; exact fin
    · rw [(h40 y).2.2 a1 y1, r1, obc_0, r2, obc_0, r3, obc_0, r4, obc_0]
      obtain ⟨Rb, hbg, hcl⟩ := begin_cl A (show 200 ≤ N by omega) Iq Rq cmq (nI k)
      have A4 := A_up0 A 0
      obtain ⟨S', Iq', Rq', cm', Ra', z1, z2, z3⟩ := money_l (Ix := Ix) (Rx := Rx) A4 X hN hbg ho hv (by omega) (b := b) v 0 0 0 (va_up (va_up Iq 1 (nI k)) 0 0) R N N (by omega) (by omega) (by omega) (by rw [up_ne (by omega), up_same]) (Nat.zero_le _) (fun z hz => absurd hz (Nat.not_lt_zero z)) SameQ.rf
      refine ⟨(0, nI S', Iq', Rq', cm'), (nI S', va_up I 0 0, Ra'), ?_, ?_, c0, fun _ => rfl, IV.ask h9 (fun c hc => up_ne hc) (fun c hc => z3 c (by omega)) LEq.rf⟩
      · rw [← hd_nth A] at z1
        rw [hbg, ob3_mk]
        exact z1
      · unfold f_X6_money_j66
        rw [refused_0, ob2_mk, if_pos rfl]
        exact z2
  · rw [a2, obc_1, (h40 y).1 a1]
    exact bad 1 1 1 rfl (by decide) (by omega) refused_1
end sims
end PCo
