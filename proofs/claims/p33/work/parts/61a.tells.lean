/-! ===== PURE: asOf, now, households ===== -/
section PAs
section two
variable {N P s : Nat} {I Ik : OI} {R Rk : RI} {cm : Option Nat}
theorem tells_both (hN : 700 ≤ N) (hP : P ≤ 24) (hI : I 4 = nI P) (hL : LF R Rk) (hC : CL (nI s) Rk) (hs : s ≤ 30000) (hO : ∀ z, P ≤ z → z < 24 → R 12 z = 0) (hk : Ik 0 = nI s) {p w : Nat} (hp : p < P) (hw : w ≤ 6) :
    ∃ v R' Rk', f_X6_tells N I R (nI p) (nI w) (nI s) = some (v, R') ∧ f_X2_tellOf N Ik cm Rk (nI p) (nI w) = some (v, Rk') ∧ (∀ c, c ≠ 20 → R' c = R c) ∧ (∀ c, c ≠ 9 → Rk' c = Rk c) := by
  have hp24 : p < 24 := by omega
  have h24 : (24 : Nat) < 2147483648 := by omega
  unfold f_X6_tells f_X2_tellOf
  simp only [og_nI hp24 h24, nI_tn (bd4 hp24), atv_nI hp24 h24]
  match w, hw with
  | 0, _ =>
    refine ⟨R 12 p, R, Rk, ?_, ?_, fun _ _ => rfl, fun _ _ => rfl⟩
    · rw [if_neg (by decide), if_pos (by decide)]
    · rw [if_pos (by decide), hL.st p hp24]
  | 1, _ =>
    refine ⟨R 13 p, R, Rk, ?_, ?_, fun _ _ => rfl, fun _ _ => rfl⟩
    · rw [if_neg (by decide), if_neg (by decide), if_pos (by decide)]
    · rw [if_neg (by decide), if_pos (by decide), hL.hm p hp24]
  | 2, _ =>
    refine ⟨R 14 p, R, Rk, ?_, ?_, fun _ _ => rfl, fun _ _ => rfl⟩
    · rw [if_neg (by decide), if_neg (by decide), if_neg (by decide)]
    · rw [if_neg (by decide), if_neg (by decide), if_pos (by decide), hL.nm p hp24]
  | 3, _ =>
    refine ⟨R 15 p, R, Rk, ?_, ?_, fun _ _ => rfl, fun _ _ => rfl⟩
    · rw [if_pos (by decide), if_neg (by decide), if_pos (by decide)]
    · rw [if_neg (by decide), if_neg (by decide), if_neg (by decide), if_pos (by decide), hL.pr p hp24]
  | 4, _ =>
    refine ⟨R 16 p, R, Rk, ?_, ?_, fun _ _ => rfl, fun _ _ => rfl⟩
    · rw [if_pos (by decide), if_neg (by decide), if_neg (by decide), if_pos (by decide)]
    · rw [if_neg (by decide), if_neg (by decide), if_neg (by decide), if_neg (by decide), if_pos (by decide), hL.mo p hp24]
  | 5, _ =>
    refine ⟨(if Rk 1 p = 1 then nI (agv (Rk 7) s p) else -1), R, Rk, ?_, ?_, fun _ _ => rfl, fun _ _ => rfl⟩
    · rw [if_pos (by decide), if_neg (by decide), if_neg (by decide), if_neg (by decide), age_m hs hL hC hp24, ob1_some]
    · rw [if_neg (by decide), if_neg (by decide), if_neg (by decide), if_neg (by decide), if_neg (by decide), if_pos (by decide), age_c hs hk hC hp24, ob1_some]
  | 6, _ =>
    obtain ⟨R', Rk', h1, h2, h3, h4, h5, -⟩ := house_both (cm := cm) hN hP hI hL hC hs hO hk
    rw [if_pos (by decide), if_pos (by decide), h1, ob1_some, if_neg (by decide), if_neg (by decide), if_neg (by decide), if_neg (by decide), if_neg (by decide), if_neg (by decide)]
    unfold f_X2_lowestOfHousehold
    rw [isLiving_at, ob1_ite, atv_nI hp24 h24, h5 p hp, h2, ob1_some, atv_nI hp24 h24]
    by_cases hl : Rk 1 p = 1
    · rw [if_pos hl, if_pos hl, if_neg one0, ob2_mk]
      exact ⟨_, R', Rk', rfl, rfl, h3, h4⟩
    · rw [if_neg hl, if_neg hl, if_pos rfl, ob2_mk]
      exact ⟨_, R', Rk, rfl, rfl, h3, fun _ _ => rfl⟩
end two
section sims
variable {N t n m P d g : Nat} {od ad : Nat → Nat} {Ix : OI} {Rx : RI} {ta : Int32} {ea : Option Nat} {wa : OO} {Ik : OI} {Rk : RI} {cmk : Option Nat} {In : OI} {Rn : RI} {AL : List Nat} {AI : Nat → OI} {AR : Nat → OO} {rs : OO} {RL : List RLT} {I : OI} {R : RI}
theorem askI (h : IVc N t n m P d g od ad Ix Rx ta ea wa Ik Rk cmk In Rn AL AI AR rs RL I R) (y : Int32) : IV N (t + 1) Ix Rx ta ea wa Ik Rk cmk In Rn AL AI AR rs RL (va_up I 0 y) R := IV.ask h (fun c hc => up_ne hc) (fun _ _ => rfl) LEq.rf
theorem up0 {y : Int32} : va_up I 0 y 0 = y := up_same
theorem A_up0 (A : AC n m P od ad I R AL AI AR ta ea wa) (y : Int32) : AC n m P od ad (va_up I 0 y) R AL AI AR ta ea wa := ac_sq9 A (up_ne (by omega)) (up_ne (by omega)) (up_ne (by omega)) (fun _ _ => rfl)
theorem c0 {L : List (Nat × Nat)} : CRel L 0 0 := Or.inl ⟨rfl, rfl⟩
theorem cE {L : List (Nat × Nat)} {a b : Nat} (h : (a, b) ∈ L) : CRel L a (nI b) := Or.inr ⟨a, b, h, rfl, rfl⟩
theorem n0e {a : Nat} {x y : Int32} (h : a ≠ 0) : a = 0 → x = y := fun e => absurd e h
end sims
end PAs
