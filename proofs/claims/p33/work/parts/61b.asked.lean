/-! ===== PURE: asOf, now ===== -/
section PAs2
section sims
variable {N t n m P d g : Nat} {od ad : Nat → Nat} {Ix : OI} {Rx : RI} {ta : Int32} {ea : Option Nat} {wa : OO} {Ik : OI} {Rk : RI} {cmk : Option Nat} {In : OI} {Rn : RI} {AL : List Nat} {AI : Nat → OI} {AR : Nat → OO} {rs : OO} {RL : List RLT} {I : OI} {R : RI}
theorem sim_asOf (hN : 700 ≤ N) (h : IVc N t n m P d g od ad Ix Rx ta ea wa Ik Rk cmk In Rn AL AI AR rs RL I R) (Iq : OI) (Rq : RI) (cmq : Option Nat) (x1 x2 x3 x4 : Int32) :
    ∃ out outM, f_X5_asOf N AL Ix Rx ta ea wa AI AR Iq Rq cmq x1 x2 x3 x4 = some out ∧ f_X6_asOf N I R x1 x2 x3 x4 = some outM ∧ CRel e12 out.1 (outM.2.1 0) ∧ (out.1 = 0 → out.2.1 = outM.1) ∧ IV N (t + 1) Ix Rx ta ea wa Ik Rk cmk In Rn AL AI AR rs RL outM.2.1 outM.2.2 := by
  have h9 := h
  obtain ⟨A, X, ⟨d1, d2, d3, d4, d5⟩, -⟩ := h
  have hP := A.P24
  have hdd := X.dd
  have bad : ∀ (y : Int32) (k b : Nat), y = nI b → (k, b) ∈ e12 → k ≠ 0 → f_X6_refused R I y = some (1, va_up I 0 y) → ∃ out outM, (some (k, (0 : Int32), Iq, Rq, cmq) : Option (Nat × Int32 × OI × RI × Option Nat)) = some out ∧ f_X6_asOf_j45 N I R x1 x2 x3 x4 y = some outM ∧ CRel e12 out.1 (outM.2.1 0) ∧ (out.1 = 0 → out.2.1 = outM.1) ∧ IV N (t + 1) Ix Rx ta ea wa Ik Rk cmk In Rn AL AI AR rs RL outM.2.1 outM.2.2 := by
    intro y k b hy hkb hk hr
    refine ⟨_, (0, va_up I 0 y, R), rfl, ?_, ?_, n0e hk, askI h9 y⟩
    · unfold f_X6_asOf_j45
      rw [hr, ob2_mk, if_neg one0]
    · show CRel e12 k (va_up I 0 y 0)
      rw [up0, hy]
      exact cE hkb
  unfold f_X5_asOf f_X6_asOf
  rcases person_c (R := R) (Rx := Rx) hP A.iP d3 x1 with ⟨p, hp, rfl, a1, a2⟩ | ⟨-, a1, a2⟩
  · rw [a1, a2, ob1_some, if_neg one0, obc_0]
    rcases within_c (a := 0) (b := 6) (by omega) (by omega) x2 with ⟨w, -, hw, rfl, b1, b2⟩ | ⟨b1, b2⟩
    · rw [show f_X6_within (nI w) 0 6 = some 1 from b1, show f_X5_requireWithin (nI w) 0 6 = some 0 from b2, ob1_some, if_neg one0, obc_0]
      rcases day_c (R := R) (Rx := Rx) hdd d1 d2 x3 with ⟨s, hs, rfl, e1, e2⟩ | ⟨-, e1, e2⟩
      · rw [e1, e2, ob1_some, if_neg one0, obc_0]
        rcases day_c (R := R) (Rx := Rx) hdd d1 d2 x4 with ⟨k, hk, rfl, g1, g2⟩ | ⟨-, g1, g2⟩
        · rw [g1, g2, ob1_some, if_neg one0, obc_0]
          have A4 := A_up0 A 0
          obtain ⟨R1, Rq1, cm1, f1, f2, f3, f4, f5, f6⟩ := find_all A4 X (show 200 ≤ N by omega) Iq Rq cmq (nI s) (nI k)
          obtain ⟨v, R', Rk', q1, q2, q3, q4⟩ := tells_both (Ik := va_up (va_up (va_up Iq 1 (nI k)) 0 0) 0 (nI s)) (cm := cm1) (P := P) hN hP A4.iP f3 f6 (by omega) f5 up_same hp hw
          refine ⟨(0, v, va_up (va_up (va_up Iq 1 (nI k)) 0 0) 0 (nI s), Rk', cm1), (v, va_up I 0 0, R'), ?_, ?_, c0, fun _ => rfl, ?_⟩
          · rw [f2, ob3_mk, q2, ob2_mk]
          · unfold f_X6_asOf_j45
            rw [refused_0, ob2_mk, if_pos rfl, f1, ob1_some, q1, ob2_mk]
          · exact IV.ask h9 (fun c hc => up_ne hc) (fun c hc => (q3 c (by omega)).trans (f4 c (by omega))) LEq.rf
        · rw [g1, g2, ob1_some, if_pos rfl, obc_2]
          exact bad 2 2 2 rfl (by decide) (by omega) refused_2
      · rw [e1, e2, ob1_some, if_pos rfl, obc_2]
        exact bad 2 2 2 rfl (by decide) (by omega) refused_2
    · rw [show f_X6_within x2 0 6 = some 0 from b1, show f_X5_requireWithin x2 0 6 = some 2 from b2, ob1_some, if_pos rfl, obc_2]
      exact bad 2 2 2 rfl (by decide) (by omega) refused_2
  · rw [a1, a2, ob1_some, if_pos rfl, obc_1]
    exact bad 1 1 1 rfl (by decide) (by omega) refused_1
theorem sim_now (hN : 700 ≤ N) (h : IVc N t n m P d g od ad Ix Rx ta ea wa Ik Rk cmk In Rn AL AI AR rs RL I R) (x1 x2 : Int32) :
    ∃ out outM, f_X5_now N Ix Rx Ik cmk Rk x1 x2 = some out ∧ f_X6_now N I R x1 x2 = some outM ∧ CRel e12 out.1 (outM.2.1 0) ∧ (out.1 = 0 → out.2.1 = outM.1) ∧ IV N (t + 1) Ix Rx ta ea wa Ik out.2.2 cmk In Rn AL AI AR rs RL outM.2.1 outM.2.2 := by
  have h9 := h
  obtain ⟨A, X, ⟨d1, d2, d3, d4, d5⟩, K, -⟩ := h
  have hP := A.P24
  have hdd := X.dd
  have bad : ∀ (y : Int32) (k b : Nat), y = nI b → (k, b) ∈ e12 → k ≠ 0 → f_X6_refused R I y = some (1, va_up I 0 y) → ∃ out outM, (some (k, (0 : Int32), Rk) : Option (Nat × Int32 × RI)) = some out ∧ ob3 (f_X6_asOf_j45 N I R x1 x2 (I 1) (I 1) y) (fun r1 I2 R3 => some (r1, I2, R3)) = some outM ∧ CRel e12 out.1 (outM.2.1 0) ∧ (out.1 = 0 → out.2.1 = outM.1) ∧ IV N (t + 1) Ix Rx ta ea wa Ik out.2.2 cmk In Rn AL AI AR rs RL outM.2.1 outM.2.2 := by
    intro y k b hy hkb hk hr
    refine ⟨_, (0, va_up I 0 y, R), rfl, ?_, ?_, n0e hk, askI h9 y⟩
    · unfold f_X6_asOf_j45
      rw [hr, ob2_mk, if_neg one0]
      rfl
    · show CRel e12 k (va_up I 0 y 0)
      rw [up0, hy]
      exact cE hkb
  unfold f_X5_now f_X6_now f_X6_asOf
  rcases person_c (R := R) (Rx := Rx) hP A.iP d3 x1 with ⟨p, hp, rfl, a1, a2⟩ | ⟨-, a1, a2⟩
  · rw [a1, a2, ob1_some, if_neg one0, obc_0]
    rcases within_c (a := 0) (b := 6) (by omega) (by omega) x2 with ⟨w, -, hw, rfl, b1, b2⟩ | ⟨b1, b2⟩
    · rw [show f_X6_within (nI w) 0 6 = some 1 from b1, show f_X5_requireWithin (nI w) 0 6 = some 0 from b2, ob1_some, if_neg one0, obc_0]
      have hday : f_X6_isDay I R (I 1) = some 1 := by
        rw [d1]
        rcases day_c (R := R) (Rx := Rx) hdd d1 d2 (nI d) with ⟨s, hs, -, e1, -⟩ | ⟨e, -, -⟩
        · exact e1
        · rcases e with e | e
          · exact absurd e (nI_nn (by omega))
          · exact absurd e (Int32.not_lt.mpr (Int32.le_refl _))
      rw [hday, ob1_some, if_neg one0, ob1_some, if_neg one0]
      have A4 := A_up0 A 0
      obtain ⟨R1, f1, f3, f4, f5, f6⟩ := kept_all A4 X (show 200 ≤ N by omega) K
      obtain ⟨v, R', Rk', q1, q2, q3, q4⟩ := tells_both (Ik := Ik) (cm := cmk) (P := P) hN hP A4.iP f3 f6 hdd f5 d4 hp hw
      refine ⟨(0, v, Rk'), (v, va_up I 0 0, R'), ?_, ?_, c0, fun _ => rfl, ?_⟩
      · rw [q2, ob2_mk]
      · unfold f_X6_asOf_j45
        rw [refused_0, ob2_mk, if_pos rfl, d1, f1, ob1_some, q1, ob2_mk, ob3_mk]
      · exact IV.ask h9 (fun c hc => up_ne hc) (fun c hc => (q3 c (by omega)).trans (f4 c (by omega))) (LEq.nine q4)
    · rw [show f_X6_within x2 0 6 = some 0 from b1, show f_X5_requireWithin x2 0 6 = some 2 from b2, ob1_some, if_pos rfl, obc_2]
      exact bad 2 2 2 rfl (by decide) (by omega) refused_2
  · rw [a1, a2, ob1_some, if_pos rfl, obc_1]
    exact bad 1 1 1 rfl (by decide) (by omega) refused_1
end sims
end PAs2
