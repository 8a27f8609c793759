/-! ===== longs and ints of small numbers ===== -/
section LG
theorem li (x : Int32) : x.toInt64.toInt32 = x := Int32.toInt32_toInt64 x
theorem nz {b : Nat} (h : 0 < b) (hb : b < 2147483648) : ¬ nI b = 0 := fun e => by have := (n_eq (b := 0) hb (by omega)).mp e; omega
theorem nl_ti {a : Nat} (ha : a < 2147483648) : (nI a).toInt64.toInt = (a : Int) := by rw [Int32.toInt_toInt64, n_ti ha]
theorem m1_ti : (-1 : Int32).toInt64.toInt = -1 := by decide
theorem m1_i : (-1 : Int32).toInt = -1 := by decide
theorem nl_add {a b : Nat} (h : a + b < 2147483648) : (nI a).toInt64 + (nI b).toInt64 = (nI (a + b)).toInt64 := by
  rw [← Int64.toInt_inj, Int64.toInt_add, nl_ti (by omega), nl_ti (by omega), nl_ti h, Int.bmod_eq_of_le (by omega) (by omega)]
  omega
theorem nl_div {a b : Nat} (ha : a < 2147483648) (hb : b < 2147483648) (h0 : 0 < b) : (nI a).toInt64 / (nI b).toInt64 = (nI (a / b)).toInt64 := by
  have h1 : a / b ≤ a := Nat.div_le_self a b
  rw [← Int64.toInt_inj, Int64.toInt_div, nl_ti ha, nl_ti hb, nl_ti (by omega)]
  rw [show ((a : Int).tdiv (b : Int)) = ((a / b : Nat) : Int) by
    rw [Int.ofNat_tdiv]]
  have key : ∀ c : Nat, c ≤ a → Int.bmod (c : Int) (2 ^ 64) = (c : Int) := fun c hc => Int.bmod_eq_of_le (by omega) (by omega)
  exact key (a / b) h1
theorem l_inj {x y : Int32} (h : x.toInt64 = y.toInt64) : x = y := by rw [← li x, ← li y, h]
theorem lc_ne {x y : Int32} (h : x ≠ y) : ¬ lg_cmp x.toInt64 y.toInt64 = 0 := fun e => h (l_inj ((lg_cmp_eq _ _).mp e))
theorem lc_nn {a : Nat} (ha : a < 2147483648) : ¬ lg_cmp (nI a).toInt64 (nI 0).toInt64 < 0 := fun e => by
  have := (lg_cmp_lt _ _).mp e
  rw [Int64.lt_iff_toInt_lt, nl_ti ha, nl_ti (by omega)] at this
  omega
theorem lc_le {a b : Nat} (ha : a < 2147483648) (hb : b < 2147483648) (h : a ≤ b) : ¬ 0 < lg_cmp (nI a).toInt64 (nI b).toInt64 := fun e => by
  have := (lg_cmp_gt _ _).mp e
  rw [Int64.lt_iff_toInt_lt, nl_ti ha, nl_ti hb] at this
  omega
theorem lc_m {x : Int32} {b : Nat} (hb : b < 2147483648) (h : x.toInt < (b : Int)) : ¬ 0 ≤ lg_cmp x.toInt64 (nI b).toInt64 := fun e => by
  have := (lg_cmp_ge _ _).mp e
  rw [Int64.le_iff_toInt_le, nl_ti hb, Int32.toInt_toInt64] at this
  omega
theorem lc_lt {a b : Nat} (ha : a < 2147483648) (hb : b < 2147483648) (h : a < b) : (nI a).toInt64 < (nI b).toInt64 := by
  rw [Int64.lt_iff_toInt_lt, nl_ti ha, nl_ti hb]
  omega
end LG
/-! ===== a person of a land ===== -/
section PPh
section one
variable {N P ss kk : Nat} {I : OI} {R : RI} {Rl : RI} {lo : Nat → Nat}
theorem LAND.lt (L : LAND N P I R ss kk Rl lo) {i : Nat} (hi : i < 24) (h : Rl 1 i = 1 ∨ Rl 1 i = 2) : i < P := by
  obtain ⟨R1, l1, l2, l3, l4, l5, l6, l7, l8⟩ := L
  by_cases e : i < P
  · exact e
  · have h0 := l5 i (by omega) hi
    rw [← l2.st i hi] at h0
    rw [h0] at h
    rcases h with h | h <;> exact absurd h (by decide)
theorem LAND.mo (L : LAND N P I R ss kk Rl lo) (hP : P ≤ 24) {q : Nat} (hq : q < P) : Rl 5 q ≠ nI q ∧ (Rl 5 q).toInt < (P : Int) := by
  have L0 := L
  obtain ⟨R1, l1, l2, l3, l4, l5, l6, l7, l8⟩ := L
  refine ⟨(l4.ns q (by omega)).1, ?_⟩
  have h := l2.mon q (by omega)
  rw [← l2.mo q (by omega)] at h
  rcases h with h | ⟨i, hi, h⟩
  · rw [h]
    have : (-1 : Int32).toInt = -1 := by decide
    omega
  · have := L0.lt hi (l4.mb q i (by omega) hi h)
    rw [h, n_ti (by omega)]
    omega
theorem LAND.cases (L : LAND N P I R ss kk Rl lo) (hP : P ≤ 24) (hs : ss ≤ 30000) {q : Nat} (hq : q < P) :
    ((tv Rl ss lo q 0 = nI 0 ∨ tv Rl ss lo q 0 = nI 3) ∧ tv Rl ss lo q 1 = -1 ∧ tv Rl ss lo q 2 = -1 ∧ tv Rl ss lo q 3 = -1 ∧ tv Rl ss lo q 4 = -1 ∧ tv Rl ss lo q 5 = -1 ∧ tv Rl ss lo q 6 = -1) ∨
    (tv Rl ss lo q 0 = nI 2 ∧ tv Rl ss lo q 1 = -1 ∧ (∃ x, x < 1000 ∧ tv Rl ss lo q 2 = nI x) ∧ tv Rl ss lo q 3 = -1 ∧ tv Rl ss lo q 5 = -1 ∧ tv Rl ss lo q 6 = -1) ∨
    (tv Rl ss lo q 0 = nI 1 ∧ (∃ h x a o, h < 16 ∧ tv Rl ss lo q 1 = nI h ∧ x < 1000 ∧ tv Rl ss lo q 2 = nI x ∧ a < 100 ∧ tv Rl ss lo q 5 = nI a ∧ o ≤ q ∧ tv Rl ss lo q 6 = nI o ∧ tv Rl ss lo o 1 = nI h ∧ tv Rl ss lo o 6 = nI o) ∧ (tv Rl ss lo q 3 = -1 ∨ ∃ y, y < P ∧ y ≠ q ∧ tv Rl ss lo q 3 = nI y ∧ tv Rl ss lo y 3 = nI q ∧ tv Rl ss lo y 0 = nI 1)) := by
  have L0 := L
  obtain ⟨R1, l1, l2, l3, l4, l5, l6, l7, l8⟩ := L
  have hq24 : q < 24 := by omega
  have no : ∀ v : Int32, Rl 1 q = v → v ≠ 1 → tv Rl ss lo q 1 = -1 ∧ tv Rl ss lo q 3 = -1 ∧ tv Rl ss lo q 5 = -1 ∧ tv Rl ss lo q 6 = -1 := fun v hv h1 => by
    have h1' : Rl 1 q ≠ 1 := by rw [hv]; exact h1
    refine ⟨l3.hn q hq24 h1', l4.pl q hq24 h1', ?_, ?_⟩
    · show (if Rl 1 q = 1 then nI (agv (Rl 7) ss q) else -1) = -1
      rw [if_neg h1']
    · show (if Rl 1 q = 1 then nI (lo q) else -1) = -1
      rw [if_neg h1']
  have hst := l2.stn q hq24
  rw [← l2.st q hq24] at hst
  have un : ∀ v : Int32, Rl 1 q = v → v ≠ 1 → v ≠ 2 → tv Rl ss lo q 2 = -1 ∧ tv Rl ss lo q 4 = -1 := fun v hv h1 h2 => by
    have h := l4.no q hq24 (by rw [hv]; exact fun e => e.elim h1 h2)
    exact h
  rcases hst with e | e | e | e
  · obtain ⟨a1, a3, a5, a6⟩ := no 0 e (by decide)
    obtain ⟨a2, a4⟩ := un 0 e (by decide) (by decide)
    exact Or.inl ⟨Or.inl e, a1, a2, a3, a4, a5, a6⟩
  · right; right
    refine ⟨e, ?_, ?_⟩
    · obtain ⟨h, hh, eh⟩ := l3.hl q hq24 e
      obtain ⟨x, hx, ex⟩ := l4.nm q hq24 (Or.inl e)
      have hle := l7.1 q hq24
      have f1 : (if Rl 1 (lo q) = 1 then (1 : Nat) else 0) = (if Rl 1 q = 1 then 1 else 0) := l7.2 (fun x => if Rl 1 x = 1 then 1 else 0) (fun i j hi hj he => by
        show (if Rl 1 i = 1 then 1 else 0) = (if Rl 1 j = 1 then 1 else 0)
        rw [if_pos he.1.1, if_pos he.1.2.1]) q hq24
      have f2 : (Rl 2 (lo q)).toNatClampNeg = (Rl 2 q).toNatClampNeg := l7.2 (fun x => (Rl 2 x).toNatClampNeg) (fun i j hi hj he => by
        show (Rl 2 i).toNatClampNeg = (Rl 2 j).toNatClampNeg
        rw [he.1.2.2]) q hq24
      have f3 : lo (lo q) = lo q := l7.2 lo (fun i j hi hj he => l8 i j hi hj he) q hq24
      rw [if_pos e] at f1
      have g1 : Rl 1 (lo q) = 1 := by
        by_cases z : Rl 1 (lo q) = 1
        · exact z
        · rw [if_neg z] at f1; exact absurd f1 (by omega)
      obtain ⟨h', hh', eh'⟩ := l3.hl (lo q) (by omega) g1
      rw [eh, eh', nI_tn (by omega), nI_tn (by omega)] at f2
      subst f2
      refine ⟨h', x, agv (Rl 7) ss q, lo q, hh', eh, hx, ex, agv_lt hs, ?_, hle, ?_, eh', ?_⟩
      · show (if Rl 1 q = 1 then nI (agv (Rl 7) ss q) else -1) = _
        rw [if_pos e]
      · show (if Rl 1 q = 1 then nI (lo q) else -1) = _
        rw [if_pos e]
      · show (if Rl 1 (lo q) = 1 then nI (lo (lo q)) else -1) = _
        rw [if_pos g1, f3]
    · have h := l2.prn q hq24
      rw [← l2.pr q hq24] at h
      rcases h with h | ⟨y, hy, h⟩
      · exact Or.inl h
      · have hy3 := l3.sy q y hq24 hy h
        have hy1 : Rl 1 y = 1 := by
          by_cases z : Rl 1 y = 1
          · exact z
          · have := l4.pl y hy z
            rw [hy3] at this
            exact absurd this (nI_m1 (by omega))
        refine Or.inr ⟨y, L0.lt hy (Or.inl hy1), fun z => ?_, h, hy3, hy1⟩
        subst z
        exact (l4.ns y hy).2 h
  · obtain ⟨a1, a3, a5, a6⟩ := no 2 e (by decide)
    exact Or.inr (Or.inl ⟨e, a1, l4.nm q hq24 (Or.inr e), a3, a5, a6⟩)
  · obtain ⟨a1, a3, a5, a6⟩ := no 3 e (by decide)
    obtain ⟨a2, a4⟩ := un 3 e (by decide) (by decide)
    exact Or.inl ⟨Or.inr e, a1, a2, a3, a4, a5, a6⟩
end one
end PPh
