/-! ===== PURE: pass, day, origin, likeness, doubleOf ===== -/
section PSm
section two
variable {N P s : Nat} {I Ik : OI} {R Rk : RI} {cm : Option Nat}
theorem sub_ti {a b : Nat} (ha : a < 1000000) (hb : b < 1000000) : (nI a - nI b).toInt = (a : Int) - (b : Int) := by
  rw [Int32.toInt_sub, n_ti (by omega), n_ti (by omega)]
  exact Int.bmod_eq_of_le (by omega) (by omega)
theorem abs_nI {a b : Nat} (ha : a < 1000000) (hb : b < 1000000) : (if 0 ≤ (nI a - nI b) then (nI a - nI b) else 0 - (nI a - nI b)) = nI (if a ≤ b then b - a else a - b) := by
  have h0 : (0 : Int32).toInt = 0 := by decide
  by_cases h : b ≤ a
  · rw [if_pos (by rw [Int32.le_iff_toInt_le, sub_ti ha hb, h0]; omega), nI_sb h]
    congr 1
    split <;> omega
  · rw [if_neg (by rw [Int32.le_iff_toInt_le, sub_ti ha hb, h0]; omega), if_pos (by omega), ← Int32.toInt_inj, Int32.toInt_sub, sub_ti ha hb, h0, n_ti (by omega)]
    rw [Int.bmod_eq_of_le (by omega) (by omega)]
    omega
theorem body_c {p : Nat} (hp : p < 24) : f_X2_isBorn Ik Rk cm (nI p) = some (if Rk 1 p = 1 ∨ Rk 1 p = 2 then 1 else 0) := by
  unfold f_X2_isBorn
  rw [ol_eq, atv_nI hp (by omega)]
  by_cases h1 : Rk 1 p = 1
  · rw [if_pos h1, if_pos (Or.inl h1)]
  · by_cases h2 : Rk 1 p = 2
    · rw [if_neg h1, if_pos h2, if_pos (Or.inr h2)]
    · rw [if_neg h1, if_neg h2, if_neg (fun h => h.elim h1 h2)]
theorem body_m (hL : LF R Rk) {p : Nat} (hp : p < 24) : f_X6_isSomebody I R (nI p) = some (if Rk 1 p = 1 ∨ Rk 1 p = 2 then 1 else 0) := by
  unfold f_X6_isSomebody
  rw [og_nI hp (by omega), og_nI hp (by omega), nI_tn (bd4 hp), ← hL.st p hp]
  by_cases h1 : Rk 1 p = 1
  · rw [if_pos h1, if_pos (Or.inl h1)]
  · by_cases h2 : Rk 1 p = 2
    · rw [if_neg h1, if_pos h2, if_pos (Or.inr h2)]
    · rw [if_neg h1, if_neg h2, if_neg (fun h => h.elim h1 h2)]
/-- the points for one dwelling and one name -/
def likev (Rk : RI) (p q : Nat) (x : Int32) : Int32 := (x + (if Rk 3 p = Rk 3 q then 3 else 0)) + (if Rk 1 p = 1 ∧ Rk 1 q = 1 ∧ Rk 2 p = Rk 2 q then 2 else 0)
theorem like_c {p q : Nat} (hp : p < 24) (hq : q < 24) (x : Int32) : f_X2_countLikeness_j63 Ik Rk cm (nI p) (nI q) x = some (likev Rk p q x) := by
  have j85 : ∀ x, f_X2_countLikeness_j85 Ik Rk cm (nI p) (nI q) x = some (x + (if Rk 1 p = 1 ∧ Rk 1 q = 1 ∧ Rk 2 p = Rk 2 q then 2 else 0)) := fun x => by
    unfold f_X2_countLikeness_j85
    rw [areIn_at, ob1_ite]
    unfold lvg
    rw [atv_nI hp (by omega), atv_nI hq (by omega), atv_nI hp (by omega), atv_nI hq (by omega)]
    by_cases h : Rk 1 p = 1 ∧ Rk 1 q = 1 ∧ Rk 2 p = Rk 2 q
    · rw [if_pos h, if_neg one0, if_pos h]
      rfl
    · rw [if_neg h, if_pos rfl, if_neg h, Int32.add_zero]
  unfold f_X2_countLikeness_j63 likev
  rw [j85, atv_nI hp (by omega), atv_nI hq (by omega)]
  by_cases h : Rk 3 p = Rk 3 q
  · rw [if_pos h, if_pos h, ol_eq, j85]
    rfl
  · rw [if_neg h, if_neg h, Int32.add_zero]
theorem like_m (hL : LF R Rk) {s' : Int32} (hC : CL s' Rk) {p q : Nat} (hp : p < 24) (hq : q < 24) (x : Int32) : f_X6_like_j82 I R (nI p) (nI q) x = some (likev Rk p q x) := by
  have j106 : ∀ x y, f_X6_like_j106 I R (nI p) (nI q) x y = some ((y + x) + (if Rk 1 p = 1 ∧ Rk 1 q = 1 ∧ Rk 2 p = Rk 2 q then 2 else 0)) := fun x y => by
    unfold f_X6_like_j106
    rw [og_nI hp (by omega), og_nI hp (by omega), og_nI hq (by omega), nI_tn (bd4 hp), nI_tn (bd4 hq), ← hL.hm p hp, ← hL.hm q hq]
    by_cases h1 : Rk 1 p = 1
    · obtain ⟨h, hh, e⟩ := hC.hl p hp h1
      rw [if_neg (by rw [e]; exact nI_m1 (by omega))]
      by_cases h2 : Rk 2 p = Rk 2 q
      · have h3 : Rk 1 q = 1 := by
          by_cases h3 : Rk 1 q = 1
          · exact h3
          · rw [hC.hn q hq h3, e] at h2
            exact absurd h2 (nI_m1 (by omega))
        rw [if_pos h2, if_pos ⟨h1, h3, h2⟩]
      · rw [if_neg h2, if_neg (fun h => h2 h.2.2)]
    · rw [if_pos (hC.hn p hp h1), if_neg (fun h => h1 h.1)]
  unfold f_X6_like_j82 likev
  rw [og_nI hp (by omega), og_nI hq (by omega), nI_tn (bd4 hp), nI_tn (bd4 hq), ← hL.nm p hp, ← hL.nm q hq, j106, j106]
  by_cases h : Rk 3 p = Rk 3 q
  · rw [if_pos h, if_pos h]
  · rw [if_neg h, if_neg h]
theorem like_both (hL : LF R Rk) {s' : Int32} (hC : CL s' Rk) {p q : Nat} (hp : p < 24) (hq : q < 24) : ∃ v, f_X2_countLikeness Ik Rk cm (nI p) (nI q) = some v ∧ f_X6_like I R (nI p) (nI q) = some v := by
  unfold f_X2_countLikeness f_X6_like
  rw [body_c hp, body_m hL hp, body_c hq, body_m hL hq, ob1_ite, ob1_ite, ob1_ite, ob1_ite]
  by_cases h1 : Rk 1 p = 1 ∨ Rk 1 p = 2
  · by_cases h2 : Rk 1 q = 1 ∨ Rk 1 q = 2
    · rw [if_pos h1, if_pos h1, if_pos h2, if_pos h2, if_neg one0, if_neg one0, if_neg one0, if_neg one0]
      obtain ⟨a, ha, ea, -⟩ := hC.bn p hp h1
      obtain ⟨b, hb, eb, -⟩ := hC.bn q hq h2
      have e1 : (if R 17 p ≤ R 17 q then (R 17 q - R 17 p) else (R 17 p - R 17 q)) = nI (if a ≤ b then b - a else a - b) := by
        rw [← hL.bd p hp, ← hL.bd q hq, ea, eb]
        by_cases h : a ≤ b
        · rw [if_pos ((n_le (by omega) (by omega)).mpr h), if_pos h, nI_sb h]
        · rw [if_neg (fun e => h ((n_le (by omega) (by omega)).mp e)), if_neg h, nI_sb (by omega)]
      simp only [og_nI hp (show 24 < 2147483648 by omega), og_nI hq (show 24 < 2147483648 by omega), nI_tn (bd4 hp), nI_tn (bd4 hq), atv_nI hp (show 24 < 2147483648 by omega), atv_nI hq (show 24 < 2147483648 by omega), ol_eq]
      have e2 : (if R 17 p ≤ R 17 q then f_X6_like_j62 I R (nI p) (nI q) (R 17 q - R 17 p) else f_X6_like_j62 I R (nI p) (nI q) (R 17 p - R 17 q)) = f_X6_like_j62 I R (nI p) (nI q) (nI (if a ≤ b then b - a else a - b)) := by
        rw [← e1]
        split <;> rfl
      rw [e2, ea, eb, abs_nI (by omega) (by omega)]
      unfold f_X6_like_j62
      simp only [like_c hp hq, like_m hL hC hp hq]
      generalize (nI (if a ≤ b then b - a else a - b)) = z
      by_cases h3 : z = 0
      · rw [if_pos h3, if_pos h3]
        exact ⟨_, rfl, rfl⟩
      · rw [if_neg h3, if_neg h3]
        by_cases h4 : 31 < z
        · rw [if_pos h4, if_pos h4]
          exact ⟨_, rfl, rfl⟩
        · rw [if_neg h4, if_neg h4]
          exact ⟨_, rfl, rfl⟩
    · rw [if_pos h1, if_pos h1, if_neg h2, if_neg h2, if_neg one0, if_neg one0, if_pos rfl, if_pos rfl]
      exact ⟨_, rfl, rfl⟩
  · rw [if_neg h1, if_neg h1, if_pos rfl, if_pos rfl]
    exact ⟨_, rfl, rfl⟩
theorem double_both (hN : 200 ≤ N) (hP : P ≤ 24) (hI : I 4 = nI P) (hL : LF R Rk) {s' : Int32} (hC : CL s' Rk) {Ix : OI} {Rx : RI} (hx : Ix 1 = nI P) {p : Nat} (hp : p < P) : ∀ (c j : Nat) (f f' : Nat), j + c = P → c < f → c < f' → ∃ v, f_X5_doubleOf_l7 N Ix Rx Ik Rk cm f (nI p) (nI j) = some (0, v) ∧ f_X6_doubleOf_l36 N f' I R (nI p) (nI j) = some (v, I, R)
  | 0, j, f, f', hj, hf, hf' => by
    obtain ⟨f, rfl⟩ : ∃ z, f = z + 1 := ⟨f - 1, by omega⟩
    obtain ⟨f', rfl⟩ : ∃ z, f' = z + 1 := ⟨f' - 1, by omega⟩
    obtain rfl : j = P := by omega
    refine ⟨-1, ?_, ?_⟩
    · show f_X5_doubleOf_l7b N Ix Rx Ik Rk cm (f_X5_doubleOf_l7 N Ix Rx Ik Rk cm f) (nI p) (nI j) = _
      unfold f_X5_doubleOf_l7b
      rw [hx, if_pos ((n_le (by omega) (by omega)).mpr (Nat.le_refl _))]
    · show f_X6_doubleOf_l36b N (f_X6_doubleOf_l36 N f') I R (nI p) (nI j) = _
      unfold f_X6_doubleOf_l36b
      rw [hI, if_pos ((n_le (by omega) (by omega)).mpr (Nat.le_refl _))]
  | c + 1, j, f, f', hj, hf, hf' => by
    obtain ⟨f, rfl⟩ : ∃ z, f = z + 1 := ⟨f - 1, by omega⟩
    obtain ⟨f', rfl⟩ : ∃ z, f' = z + 1 := ⟨f' - 1, by omega⟩
    obtain ⟨v, h1, h2⟩ := like_both (I := I) (Ik := Ik) (cm := cm) hL hC (show p < 24 by omega) (show j < 24 by omega)
    show ∃ v, f_X5_doubleOf_l7b N Ix Rx Ik Rk cm (f_X5_doubleOf_l7 N Ix Rx Ik Rk cm f) (nI p) (nI j) = _ ∧ f_X6_doubleOf_l36b N (f_X6_doubleOf_l36 N f') I R (nI p) (nI j) = _
    unfold f_X5_doubleOf_l7b f_X6_doubleOf_l36b
    have hnp : ¬ nI P ≤ nI j := fun e => by have := (n_le (by omega) (by omega)).mp e; omega
    rw [hx, hI, if_neg hnp, if_neg hnp, h1, h2, ob1_some, ob1_some]
    simp only [ol_eq, nI_s9]
    have r := double_both hN hP hI hL hC (Rx := Rx) hx hp c (j + 1) f f' (by omega) (by omega) (by omega)
    by_cases e : nI j = nI p
    · rw [if_pos e, if_pos e]; exact r
    · rw [if_neg e, if_neg e]
      by_cases e8 : v < 8
      · rw [if_pos e8, if_pos e8]; exact r
      · rw [if_neg e8, if_neg e8]; exact ⟨_, rfl, rfl⟩
end two
section sims
variable {N t n m P d g : Nat} {od ad : Nat → Nat} {Ix : OI} {Rx : RI} {ta : Int32} {ea : Option Nat} {wa : OO} {Ik : OI} {Rk : RI} {cmk : Option Nat} {In : OI} {Rn : RI} {AL : List Nat} {AI : Nat → OI} {AR : Nat → OO} {rs : OO} {RL : List RLT} {I : OI} {R : RI}
theorem sim_pass (hN : 700 ≤ N) (h : IVc N t n m P d g od ad Ix Rx ta ea wa Ik Rk cmk In Rn AL AI AR rs RL I R) (x1 : Int32) :
    ∃ out outM, f_X5_pass N AL Rx AI AR Ix Ik Rk cmk x1 = some out ∧ f_X6_pass R I x1 = some outM ∧ CRel e23 out.1 (outM.2 0) ∧ (out.1 = 0 → out.2.1 = outM.1) ∧ IV N (t + 1) out.2.2.1 Rx ta ea wa out.2.2.2.1 out.2.2.2.2.1 out.2.2.2.2.2 In Rn AL AI AR rs RL outM.2 R := by
  have h9 := h
  obtain ⟨A, X, ⟨d1, d2, d3, d4, d5⟩, K, NR, nb, ba, ro⟩ := h
  have hdd := X.dd
  have bad : ∀ (y : Int32) (k b : Nat), y = nI b → (k, b) ∈ e23 → k ≠ 0 → f_X6_refused R I y = some (1, va_up I 0 y) → ∃ out outM, (some (k, (0 : Int32), Ix, Ik, Rk, cmk) : Option (Nat × Int32 × OI × OI × RI × Option Nat)) = some out ∧ f_X6_pass_j33 R I x1 y = some outM ∧ CRel e23 out.1 (outM.2 0) ∧ (out.1 = 0 → out.2.1 = outM.1) ∧ IV N (t + 1) out.2.2.1 Rx ta ea wa out.2.2.2.1 out.2.2.2.2.1 out.2.2.2.2.2 In Rn AL AI AR rs RL outM.2 R := by
    intro y k b hy hkb hk hr
    refine ⟨_, (0, va_up I 0 y), rfl, ?_, ?_, n0e hk, askI h9 y⟩
    · unfold f_X6_pass_j33
      rw [hr, ob2_mk, if_neg one0]
    · show CRel e23 k (va_up I 0 y 0)
      rw [up0, hy]
      exact cE hkb
  unfold f_X5_pass f_X6_pass
  rcases within_c (a := 1) (b := 5000) (by omega) (by omega) x1 with ⟨v, hv1, hv, rfl, b1, b2⟩ | ⟨b1, b2⟩
  · rw [show f_X6_within (nI v) 1 5000 = some 1 from b1, show f_X5_requireWithin (nI v) 1 5000 = some 0 from b2, ob1_some, if_neg one0, obc_0, d1, d2, nI_ad]
    by_cases hle : d + v ≤ 30000
    · rw [if_pos (show nI (d + v) ≤ (30000 : Int32) from (n_le (b := 30000) (by omega) (by omega)).mpr hle), if_pos (show nI (d + v) ≤ (30000 : Int32) from (n_le (b := 30000) (by omega) (by omega)).mpr hle), d5]
      refine ⟨(0, nI (d + v), va_up Ix 0 (nI (d + v)), va_up Ik 0 (nI (d + v)), Rk, none), (nI (d + v), va_up (va_up I 0 0) 1 (nI (d + v))), ?_, ?_, ?_, fun _ => rfl, ?_⟩
      · obtain ⟨f, rfl⟩ : ∃ z, N = z + 1 := ⟨N - 1, by omega⟩
        rw [ol_eq, up_same]
        unfold f_X2_goOn
        rw [ol_eq]
        have := go_cend (AL := AL) (AI := AI) (AR := AR) (N := f + 1) (f := f) (Ik := va_up Ik 0 (nI (d + v))) (Rk := Rk) (cm := none) (s := nI (d + v))
        rw [this, ob3_mk]
      · unfold f_X6_pass_j33
        rw [refused_0, ob2_mk, if_pos rfl, ol_eq, up_ne (show (1 : Nat) ≠ 0 by omega), d1, nI_ad, up_same]
      · show CRel e23 0 (va_up (va_up I 0 0) 1 (nI (d + v)) 0)
        rw [up_ne (by omega), up0]
        exact c0
      · have hi : ∀ c, c ≠ 0 → c ≠ 1 → va_up (va_up I 0 0) 1 (nI (d + v)) c = I c := fun c h0 h1 => by rw [up_ne h1, up_ne h0]
        obtain ⟨n1, n2, n3, n4, n5, n6, n7⟩ := NR
        show IV N (t + 1) (va_up Ix 0 (nI (d + v))) Rx ta ea wa (va_up Ik 0 (nI (d + v))) Rk none In Rn AL AI AR rs RL (va_up (va_up I 0 0) 1 (nI (d + v))) R
        exact ⟨n, m, P, d + v, g, od, ad, ac_sq9 A (hi 2 (by omega) (by omega)) (hi 3 (by omega) (by omega)) (hi 4 (by omega) (by omega)) (fun _ _ => rfl), X.later (by omega) hle, ⟨up_same, up_same, (up_ne (by omega)).trans d3, up_same, rfl⟩, ki_pass A X (by omega) (by omega) hle K, ⟨n1, (hi 5 (by omega) (by omega)).trans n2, (hi 6 (by omega) (by omega)).trans n3, n4, n5, n6, n7⟩, nb, ba, ro.sq (by omega) (hi 7 (by omega) (by omega)) (hi 8 (by omega) (by omega)) (up_ne (by omega)) (fun _ _ _ => rfl)⟩
    · rw [if_neg (show ¬ nI (d + v) ≤ (30000 : Int32) from fun e => hle ((n_le (b := 30000) (by omega) (by omega)).mp e)), if_neg (show ¬ nI (d + v) ≤ (30000 : Int32) from fun e => hle ((n_le (b := 30000) (by omega) (by omega)).mp e))]
      exact bad 2 3 2 rfl (by decide) (by omega) refused_2
  · rw [show f_X6_within x1 1 5000 = some 0 from b1, show f_X5_requireWithin x1 1 5000 = some 2 from b2, ob1_some, if_pos rfl, obc_2]
    exact bad 1 2 1 rfl (by decide) (by omega) refused_1
theorem sim_day (h : IVc N t n m P d g od ad Ix Rx ta ea wa Ik Rk cmk In Rn AL AI AR rs RL I R) : ∃ v I', f_X5_day Ix Rx = some v ∧ f_X6_day R I = some (v, I') ∧ IV N (t + 1) Ix Rx ta ea wa Ik Rk cmk In Rn AL AI AR rs RL I' R := by
  refine ⟨Ix 0, va_up I 0 0, rfl, ?_, askI h 0⟩
  obtain ⟨A, X, ⟨d1, d2, d3, d4, d5⟩, -⟩ := h
  unfold f_X6_day
  rw [ol_eq, up_ne (by omega), d1, d2]
theorem sim_origin (hN : 700 ≤ N) (h : IVc N t n m P d g od ad Ix Rx ta ea wa Ik Rk cmk In Rn AL AI AR rs RL I R) (x1 x2 : Int32) :
    ∃ out outM, f_X5_origin Ix Rx Ik Rk cmk x1 x2 = some out ∧ f_X6_origin N I R x1 x2 = some outM ∧ CRel e1 out.1 (outM.2.1 0) ∧ (out.1 = 0 → out.2 = outM.1) ∧ IV N (t + 1) Ix Rx ta ea wa Ik Rk cmk In Rn AL AI AR rs RL outM.2.1 outM.2.2 := by
  have h9 := h
  obtain ⟨A, X, ⟨d1, d2, d3, d4, d5⟩, K, -⟩ := h
  have hP := A.P24
  have bad : ∃ out outM, (some (1, (0 : Int32)) : Option (Nat × Int32)) = some out ∧ f_X6_origin_j27 N I R x1 x2 1 = some outM ∧ CRel e1 out.1 (outM.2.1 0) ∧ (out.1 = 0 → out.2 = outM.1) ∧ IV N (t + 1) Ix Rx ta ea wa Ik Rk cmk In Rn AL AI AR rs RL outM.2.1 outM.2.2 := by
    refine ⟨_, (0, va_up I 0 1, R), rfl, ?_, ?_, n0e (by omega), askI h9 1⟩
    · unfold f_X6_origin_j27
      rw [refused_1, ob2_mk, if_neg one0]
    · show CRel e1 1 (va_up I 0 1 0)
      rw [up0]
      exact cE (by decide)
  have good : ∀ (p : Nat) (v : Int32), p < P → (v = -1 ∨ ∃ a, a < 24 ∧ v = nI a) → ∃ out outM, ob1 (f_X2_originFor Ik Rk cmk (nI p) v) (fun r1 => some (0, r1)) = some out ∧ f_X6_origin_j27 N I R (nI p) v 0 = some outM ∧ CRel e1 out.1 (outM.2.1 0) ∧ (out.1 = 0 → out.2 = outM.1) ∧ IV N (t + 1) Ix Rx ta ea wa Ik Rk cmk In Rn AL AI AR rs RL outM.2.1 outM.2.2 := by
    intro p v hp hv
    have hp24 : p < 24 := by omega
    obtain ⟨R1, f1, f3, f4, f5, f6⟩ := kept_all (A_up0 A 0) X (show 200 ≤ N by omega) K
    have fin : ∀ b, f_X2_originFor Ik Rk cmk (nI p) v = some b → f_X6_origin_j27 N I R (nI p) v 0 = some (b, va_up I 0 0, R1) → ∃ out outM, ob1 (f_X2_originFor Ik Rk cmk (nI p) v) (fun r1 => some (0, r1)) = some out ∧ f_X6_origin_j27 N I R (nI p) v 0 = some outM ∧ CRel e1 out.1 (outM.2.1 0) ∧ (out.1 = 0 → out.2 = outM.1) ∧ IV N (t + 1) Ix Rx ta ea wa Ik Rk cmk In Rn AL AI AR rs RL outM.2.1 outM.2.2 := fun b z1 z2 =>
      ⟨(0, b), (b, va_up I 0 0, R1), by rw [z1, ob1_some], z2, c0, fun _ => rfl, IV.ask h9 (fun c hc => up_ne hc) (fun c hc => f4 c (by omega)) LEq.rf⟩
    have hr : ∃ r : Int32, f_X6_leadsTo N (va_up I 0 0) R1 v = some r ∧ atv 24 (Rk 0) v = r := by
      rcases hv with rfl | ⟨a, ha, rfl⟩
      · exact ⟨-1, leads_m1 (by omega), atv_m1⟩
      · exact ⟨_, leads_nI f3.ld ha (by omega), by rw [atv_nI ha (by omega)]; exact f3.mt a ha⟩
    obtain ⟨r, r1, r2⟩ := hr
    have j78 : ∀ y : Int32, f_X6_origin_j78 N (va_up I 0 0) R1 (nI p) y = some (if Rk 1 p = 1 ∨ Rk 1 p = 2 then (if Rk 8 p = 0 then Rk 6 p else if y = 0 then -2 else Rk 6 p) else -1, va_up I 0 0, R1) := fun y => by
      unfold f_X6_origin_j78
      rw [body_m f3 hp24, ob1_ite]
      simp only [og_nI hp24 (show 24 < 2147483648 by omega), nI_tn (bd4 hp24), ← f3.adp p hp24, ← f3.bm p hp24]
      by_cases h1 : Rk 1 p = 1 ∨ Rk 1 p = 2
      · rw [if_pos h1, if_neg one0, if_pos h1]
        by_cases h2 : Rk 8 p = 0
        · rw [if_pos h2, if_pos h2]
        · rw [if_neg h2, if_neg h2]
          by_cases h3 : y = 0
          · rw [if_pos h3, if_pos h3]
          · rw [if_neg h3, if_neg h3]
      · rw [if_neg h1, if_pos trivial, if_neg h1]
    have j27 : f_X6_origin_j27 N I R (nI p) v 0 = if r = -1 then f_X6_origin_j78 N (va_up I 0 0) R1 (nI p) 0 else if r = nI p then f_X6_origin_j78 N (va_up I 0 0) R1 (nI p) 1 else if r = Rk 5 p then f_X6_origin_j78 N (va_up I 0 0) R1 (nI p) 1 else f_X6_origin_j78 N (va_up I 0 0) R1 (nI p) 0 := by
      unfold f_X6_origin_j27
      rw [refused_0, ob2_mk, if_pos rfl, up_ne (show (1 : Nat) ≠ 0 by omega), d1, f1, ob1_some, r1, ob1_some, og_nI hp24 (by omega), nI_tn (bd4 hp24), ← f3.mo p hp24]
    have e5 : f_X2_originFor Ik Rk cmk (nI p) v = if Rk 8 p = 0 then some (Rk 6 p) else if r = nI p then some (Rk 6 p) else if r = Rk 5 p then some (Rk 6 p) else some (-2) := by
      unfold f_X2_originFor f_X2_originFor_j40
      rw [ol_eq, r2, isv_nI hp24 (by omega), atv_nI hp24 (by omega), atv_nI hp24 (by omega)]
      by_cases h2 : Rk 8 p = 0
      · rw [if_pos h2, if_pos rfl, if_pos h2]
      · rw [if_neg h2, if_neg one0, if_neg h2]
    rw [j78, j78] at j27
    by_cases h1 : Rk 1 p = 1 ∨ Rk 1 p = 2
    · rw [if_pos h1, if_pos h1, if_pos rfl, if_neg one0] at j27
      by_cases h2 : Rk 8 p = 0
      · rw [if_pos h2] at e5
        refine fin _ e5 ?_
        rw [j27, if_pos h2, if_pos h2]
        split
        · rfl
        · split
          · rfl
          · split <;> rfl
      · rw [if_neg h2] at e5
        rw [if_neg h2, if_neg h2] at j27
        by_cases h3 : r = -1
        · rw [if_pos h3] at j27
          rw [if_neg (by rw [h3]; exact fun e => nI_m1 (by omega) e.symm), if_neg (by rw [h3]; exact fun e => f6.ad p hp24 h2 e.symm)] at e5
          exact fin _ e5 j27
        · rw [if_neg h3] at j27
          by_cases h4 : r = nI p
          · rw [if_pos h4] at e5 j27
            exact fin _ e5 j27
          · rw [if_neg h4] at e5 j27
            by_cases h5 : r = Rk 5 p
            · rw [if_pos h5] at e5 j27
              exact fin _ e5 j27
            · rw [if_neg h5] at e5 j27
              exact fin _ e5 j27
    · obtain ⟨u1, u2⟩ := f6.un p hp24 h1
      rw [if_pos u2, u1] at e5
      refine fin _ e5 ?_
      rw [j27, if_neg h1, if_neg h1]
      split
      · rfl
      · split
        · rfl
        · split <;> rfl
  unfold f_X5_origin f_X6_origin f_X5_requirePersonOrNone
  rcases person_c (R := R) (Rx := Rx) hP A.iP d3 x1 with ⟨p, hp, rfl, a1, a2⟩ | ⟨-, a1, a2⟩
  · rw [a1, a2, ob1_some, if_neg one0, obc_0]
    by_cases hx : x2 = -1
    · rw [if_pos hx, if_pos hx, obc_0]
      exact good p x2 hp (Or.inl hx)
    · rw [if_neg hx, if_neg hx]
      rcases person_c (R := R) (Rx := Rx) hP A.iP d3 x2 with ⟨q, hq, rfl, b1, b2⟩ | ⟨-, b1, b2⟩
      · rw [b1, b2, ob1_some, if_neg one0, obc_0, obc_0]
        exact good p (nI q) hp (Or.inr ⟨q, by omega, rfl⟩)
      · rw [b1, b2, ob1_some, if_pos rfl, obc_1, obc_1]
        exact bad
  · rw [a1, a2, ob1_some, if_pos rfl, obc_1]
    exact bad
theorem sim_likeness (hN : 700 ≤ N) (h : IVc N t n m P d g od ad Ix Rx ta ea wa Ik Rk cmk In Rn AL AI AR rs RL I R) (x1 x2 : Int32) :
    ∃ out outM, f_X5_likeness Ix Rx Ik Rk cmk x1 x2 = some out ∧ f_X6_likeness N I R x1 x2 = some outM ∧ CRel e12 out.1 (outM.2.1 0) ∧ (out.1 = 0 → out.2 = outM.1) ∧ IV N (t + 1) Ix Rx ta ea wa Ik Rk cmk In Rn AL AI AR rs RL outM.2.1 outM.2.2 := by
  have h9 := h
  obtain ⟨A, X, ⟨d1, d2, d3, d4, d5⟩, K, -⟩ := h
  have hP := A.P24
  have bad : ∀ (y : Int32) (k b : Nat), y = nI b → (k, b) ∈ e12 → k ≠ 0 → f_X6_refused R I y = some (1, va_up I 0 y) → ∃ out outM, (some (k, (0 : Int32)) : Option (Nat × Int32)) = some out ∧ f_X6_likeness_j41 N I R x1 x2 y = some outM ∧ CRel e12 out.1 (outM.2.1 0) ∧ (out.1 = 0 → out.2 = outM.1) ∧ IV N (t + 1) Ix Rx ta ea wa Ik Rk cmk In Rn AL AI AR rs RL outM.2.1 outM.2.2 := by
    intro y k b hy hkb hk hr
    refine ⟨_, (0, va_up I 0 y, R), rfl, ?_, ?_, n0e hk, askI h9 y⟩
    · unfold f_X6_likeness_j41
      rw [hr, ob2_mk, if_neg one0]
    · show CRel e12 k (va_up I 0 y 0)
      rw [up0, hy]
      exact cE hkb
  unfold f_X5_likeness f_X6_likeness f_X6_likeness_j21 f_X5_requireUnlike
  rcases person_c (R := R) (Rx := Rx) hP A.iP d3 x1 with ⟨p, hp, rfl, a1, a2⟩ | ⟨-, a1, a2⟩
  · rw [a1, a2, ob1_some, if_neg one0, obc_0]
    rcases person_c (R := R) (Rx := Rx) hP A.iP d3 x2 with ⟨q, hq, rfl, b1, b2⟩ | ⟨-, b1, b2⟩
    · rw [b1, b2, ob1_some, if_neg one0, obc_0, if_neg one0]
      by_cases e : nI p = nI q
      · rw [if_pos e, if_pos e, obc_2]
        exact bad 2 2 2 rfl (by decide) (by omega) refused_2
      · rw [if_neg e, if_neg e, obc_0]
        obtain ⟨R1, f1, f3, f4, f5, f6⟩ := kept_all (A_up0 A 0) X (show 200 ≤ N by omega) K
        obtain ⟨v, q1, q2⟩ := like_both (I := va_up I 0 0) (Ik := Ik) (cm := cmk) f3 f6 (show p < 24 by omega) (show q < 24 by omega)
        refine ⟨(0, v), (v, va_up I 0 0, R1), by rw [q1, ob1_some], ?_, c0, fun _ => rfl, IV.ask h9 (fun c hc => up_ne hc) (fun c hc => f4 c (by omega)) LEq.rf⟩
        unfold f_X6_likeness_j41
        rw [refused_0, ob2_mk, if_pos rfl, up_ne (show (1 : Nat) ≠ 0 by omega), d1, f1, ob1_some, q2, ob1_some]
    · rw [b1, b2, ob1_some, if_pos rfl, obc_1, if_pos rfl]
      exact bad 1 1 1 rfl (by decide) (by omega) refused_1
  · rw [a1, a2, ob1_some, if_pos rfl, obc_1, if_pos rfl]
    exact bad 1 1 1 rfl (by decide) (by omega) refused_1
theorem sim_doubleOf (hN : 700 ≤ N) (h : IVc N t n m P d g od ad Ix Rx ta ea wa Ik Rk cmk In Rn AL AI AR rs RL I R) (x1 : Int32) :
    ∃ out outM, f_X5_doubleOf N Ix Rx Ik Rk cmk x1 = some out ∧ f_X6_doubleOf N I R x1 = some outM ∧ CRel e1 out.1 (outM.2.1 0) ∧ (out.1 = 0 → out.2 = outM.1) ∧ IV N (t + 1) Ix Rx ta ea wa Ik Rk cmk In Rn AL AI AR rs RL outM.2.1 outM.2.2 := by
  have h9 := h
  obtain ⟨A, X, ⟨d1, d2, d3, d4, d5⟩, K, -⟩ := h
  have hP := A.P24
  unfold f_X5_doubleOf f_X6_doubleOf f_X6_doubleOf_j14
  rcases person_c (R := R) (Rx := Rx) hP A.iP d3 x1 with ⟨p, hp, rfl, a1, a2⟩ | ⟨-, a1, a2⟩
  · rw [a1, a2, ob1_some, if_neg one0, obc_0]
    obtain ⟨R1, f1, f3, f4, f5, f6⟩ := kept_all (A_up0 A 0) X (show 200 ≤ N by omega) K
    obtain ⟨v, q1, q2⟩ := double_both (Ik := Ik) (cm := cmk) (N := N) (show 200 ≤ N by omega) hP (A_up0 A 0).iP f3 f6 (Rx := Rx) d3 hp P 0 N N (by omega) (by omega) (by omega)
    refine ⟨(0, v), (v, va_up I 0 0, R1), q1, ?_, c0, fun _ => rfl, IV.ask h9 (fun c hc => up_ne hc) (fun c hc => f4 c (by omega)) LEq.rf⟩
    rw [refused_0, ob2_mk, if_pos rfl, up_ne (show (1 : Nat) ≠ 0 by omega), d1, f1, ob1_some]
    exact q2
  · rw [a1, a2, ob1_some, if_pos rfl, obc_1, refused_1, ob2_mk, if_neg one0]
    refine ⟨_, _, rfl, rfl, ?_, n0e (by omega), askI h9 1⟩
    show CRel e1 1 (va_up I 0 1 0)
    rw [up0]
    exact cE (by decide)
end sims
end PSm
