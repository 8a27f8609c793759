/-! ===== PURE: households ===== -/
section PHo
abbrev kidv (R : RI) (s p q : Nat) : Prop := R 5 p = nI q ∧ R 4 p = -1 ∧ agv (R 7) s p < 18
abbrev edg (R : RI) (s p q : Nat) : Prop := (R 1 p = 1 ∧ R 1 q = 1 ∧ R 2 p = R 2 q) ∧ (R 4 p = nI q ∨ kidv R s p q ∨ kidv R s q p)
theorem edg_sym {R : RI} {s : Nat} {s' : Int32} (hC : CL s' R) {p q : Nat} (hp : p < 24) (hq : q < 24) (h : edg R s p q) : edg R s q p := by
  obtain ⟨⟨h1, h2, h3⟩, h4⟩ := h
  refine ⟨⟨h2, h1, h3.symm⟩, ?_⟩
  rcases h4 with h4 | h4 | h4
  · exact Or.inl (hC.sy p q hp hq h4)
  · exact Or.inr (Or.inr h4)
  · exact Or.inr (Or.inl h4)
theorem agv_lt {g : Nat → Int32} {s p : Nat} (hs : s ≤ 30000) : agv g s p < 100 := by
  unfold agv
  have : (s - (g p).toNatClampNeg) / 365 ≤ 30000 / 365 := Nat.div_le_div_right (by omega)
  omega
section one
variable {N : Nat} {I : OI} {cm : Option Nat} {s : Nat}
theorem unite_l {lo : Nat → Nat} {a b : Nat} (hl : ∀ x, x < 24 → lo x < 24) (ha : a < 24) (hb : b < 24) {R0 : RI} : ∀ (c j : Nat) (R : RI) (f : Nat), j + c = 24 → (∀ c, c ≠ 9 → R c = R0 c) → (∀ x, x < j → x < 24 → R 9 x = nI (uni lo a b x)) → (∀ x, j ≤ x → x < 24 → R 9 x = nI (lo x)) → c < f →
    ∃ R', f_X2_uniteHouseholds_l44 N I cm f R (nI (min (lo a) (lo b))) (nI (max (lo a) (lo b))) (nI j) = some R' ∧ (∀ c, c ≠ 9 → R' c = R0 c) ∧ ∀ x, x < 24 → R' 9 x = nI (uni lo a b x)
  | 0, j, R, f, hj, h1, h2, _, hf => by
    obtain ⟨f, rfl⟩ : ∃ z, f = z + 1 := ⟨f - 1, by omega⟩
    obtain rfl : j = 24 := by omega
    refine ⟨R, ?_, h1, fun x hx => h2 x hx hx⟩
    show f_X2_uniteHouseholds_l44b N I cm (f_X2_uniteHouseholds_l44 N I cm f) R _ _ (nI 24) = _
    unfold f_X2_uniteHouseholds_l44b
    rw [if_pos (by decide)]
  | c + 1, j, R, f, hj, h1, h2, h3, hf => by
    obtain ⟨f, rfl⟩ : ∃ z, f = z + 1 := ⟨f - 1, by omega⟩
    have hj24 : j < 24 := by omega
    have la := hl a ha
    have lb := hl b hb
    have lj := hl j hj24
    show ∃ R', f_X2_uniteHouseholds_l44b N I cm (f_X2_uniteHouseholds_l44 N I cm f) R _ _ (nI j) = _ ∧ _
    unfold f_X2_uniteHouseholds_l44b
    rw [if_neg (by rw [show (24 : Int32) = nI 24 from rfl, n_le (by omega) (by omega)]; omega)]
    simp only [og_nI hj24 (show 24 < 2147483648 by omega), nI_tn (bd4 hj24), ol_eq, nI_s9, h3 j (Nat.le_refl j) hj24]
    by_cases e : lo j = max (lo a) (lo b)
    · rw [if_pos (by rw [e])]
      refine unite_l hl ha hb c (j + 1) _ f (by omega) (fun c hc => by rw [up_ne hc]; exact h1 c hc) (fun x hx h24 => ?_) (fun x hx h24 => ?_) (by omega)
      · rw [up_same, upd_at]
        by_cases ex : x = j
        · rw [if_pos ex, ex]
          unfold uni
          rw [if_pos e]
        · rw [if_neg ex]; exact h2 x (by omega) h24
      · rw [up_same, upd_ne (by omega)]; exact h3 x (by omega) h24
    · rw [if_neg (fun z => e ((n_eq (by omega) (by omega)).mp z))]
      refine unite_l hl ha hb c (j + 1) R f (by omega) h1 (fun x hx h24 => ?_) (fun x hx h24 => h3 x (by omega) h24) (by omega)
      by_cases ex : x = j
      · rw [ex, h3 j (Nat.le_refl j) hj24]
        unfold uni
        rw [if_neg e]
      · exact h2 x (by omega) h24
theorem unite_c (hN : 200 ≤ N) {lo : Nat → Nat} {a b : Nat} (hl : ∀ x, x < 24 → lo x < 24) (ha : a < 24) (hb : b < 24) {R : RI} (h : ∀ x, x < 24 → R 9 x = nI (lo x)) : ∃ R', f_X2_uniteHouseholds N I cm R (nI a) (nI b) = some R' ∧ (∀ c, c ≠ 9 → R' c = R c) ∧ ∀ x, x < 24 → R' 9 x = nI (uni lo a b x) := by
  have la := hl a ha
  have lb := hl b hb
  obtain ⟨R', h1, h2⟩ := unite_l (N := N) (I := I) (cm := cm) hl ha hb (R0 := R) 24 0 R N rfl (fun _ _ => rfl) (fun x hx => absurd hx (Nat.not_lt_zero x)) (fun x _ hx => h x hx) (by omega)
  refine ⟨R', ?_, h2⟩
  unfold f_X2_uniteHouseholds
  rw [atv_nI ha (by omega), atv_nI hb (by omega), h a ha, h b hb, ol_eq, ol_eq]
  have e1 : (if nI (lo b) < nI (lo a) then nI (lo b) else nI (lo a)) = nI (min (lo a) (lo b)) := by
    by_cases z : lo b < lo a
    · rw [if_pos ((n_lt (by omega) (by omega)).mpr z), Nat.min_eq_right (by omega)]
    · rw [if_neg (fun y => z ((n_lt (by omega) (by omega)).mp y)), Nat.min_eq_left (by omega)]
  have e2 : (if nI (lo a) < nI (lo b) then nI (lo b) else nI (lo a)) = nI (max (lo a) (lo b)) := by
    by_cases z : lo a < lo b
    · rw [if_pos ((n_lt (by omega) (by omega)).mpr z), Nat.max_eq_right (by omega)]
    · rw [if_neg (fun y => z ((n_lt (by omega) (by omega)).mp y)), Nat.max_eq_left (by omega)]
  rw [e1, e2]
  exact h1
theorem kid_c {R : RI} (hs : s ≤ 30000) (hI : I 0 = nI s) (hC : CL (nI s) R) {p : Nat} (hp : p < 24) : f_X2_isChildAtHome I R cm (nI p) = some (if (lvg R (nI p) ∧ lvg R (R 5 p) ∧ atv 24 (R 2) (nI p) = atv 24 (R 2) (R 5 p)) ∧ R 4 p = -1 ∧ agv (R 7) s p < 18 then 1 else 0) := by
  unfold f_X2_isChildAtHome
  rw [areIn_at, ob1_ite, atv_nI hp (by omega) (g := R 5), atv_nI hp (by omega) (g := R 4)]
  by_cases h1 : lvg R (nI p) ∧ lvg R (R 5 p) ∧ atv 24 (R 2) (nI p) = atv 24 (R 2) (R 5 p)
  · have hl : R 1 p = 1 := by
      have := h1.1
      unfold lvg at this
      rwa [atv_nI hp (by omega)] at this
    rw [if_pos h1, if_neg one0]
    by_cases h2 : R 4 p = -1
    · rw [if_pos h2, age_c hs hI hC hp, if_pos hl, ob1_some]
      have ha := agv_lt (g := R 7) (p := p) hs
      by_cases h3 : agv (R 7) s p < 18
      · rw [if_neg (by rw [show (18 : Int32) = nI 18 from rfl, n_le (by omega) (by omega)]; omega), if_pos ⟨h1, h2, h3⟩]
      · rw [if_pos (by rw [show (18 : Int32) = nI 18 from rfl, n_le (by omega) (by omega)]; omega), if_neg (fun h => h3 h.2.2)]
    · rw [if_neg h2, if_neg (fun h => h2 h.2.1)]
  · rw [if_neg h1, if_pos rfl, if_neg (fun h => h1 h.1)]
theorem lvg_nI {R : RI} {p : Nat} (hp : p < 24) : lvg R (nI p) ↔ R 1 p = 1 := by
  unfold lvg
  rw [atv_nI hp (by omega)]
/-- the state while households are found -/
abbrev HS (E : Nat → Nat → Prop) (R0 R : RI) (lo : Nat → Nat) : Prop := (∀ c, c ≠ 9 → R c = R0 c) ∧ (∀ x, x < 24 → R 9 x = nI (lo x)) ∧ LB E lo
theorem HS.lt {E : Nat → Nat → Prop} {R0 R : RI} {lo : Nat → Nat} (h : HS E R0 R lo) : ∀ x, x < 24 → lo x < 24 := fun x hx => Nat.lt_of_le_of_lt (h.2.2.1 x hx) hx
theorem HS.leq {E : Nat → Nat → Prop} {R0 R : RI} {lo : Nat → Nat} (h : HS E R0 R lo) : LEq R0 R := fun c hc j _ => by rw [h.1 c (by omega)]
/-- one of two that stand for an edge -/
theorem HS.uni (hN : 200 ≤ N) {E : Nat → Nat → Prop} {R0 R : RI} {lo : Nat → Nat} (h : HS E R0 R lo) {a b : Nat} (ha : a < 24) (hb : b < 24) (e : E a b) : ∃ R', f_X2_uniteHouseholds N I cm R (nI a) (nI b) = some R' ∧ HS E R0 R' (uni lo a b) := by
  obtain ⟨R', h1, h2, h3⟩ := unite_c (I := I) (cm := cm) hN h.lt ha hb h.2.1
  exact ⟨R', h1, fun c hc => (h2 c hc).trans (h.1 c hc), h3, uni_lb h.2.2 ha hb e⟩
theorem houses_p (hN : 200 ≤ N) {R0 R : RI} {lo : Nat → Nat} (h : HS (edg R0 s) R0 R lo) (hs : s ≤ 30000) (hI : I 0 = nI s) (hC : CL (nI s) R0) (p4 : ∀ j, j < 24 → PN 24 (R0 4 j)) (p5 : ∀ j, j < 24 → PN 24 (R0 5 j)) {p : Nat} (hp : p < 24) (k : RI → Int32 → Option RI) :
    ∃ R' lo', (ob1 (f_X2_areInOneDwelling I R cm (nI p) (R 4 p)) (fun r1 => if r1 = 0 then (f_X2_findHouseholds_j54 N I cm k R (nI p)) else (og (nI p) 24 (ob1 (f_X2_uniteHouseholds N I cm R (nI p) (R 4 p)) (fun R6 => f_X2_findHouseholds_j54 N I cm k R6 (nI p)))))) = k R' (nI (p + 1)) ∧ HS (edg R0 s) R0 R' lo' ∧ (∀ x y, lo x = lo y → lo' x = lo' y) ∧ (∀ q, q < 24 → edg R0 s p q → R0 4 p = nI q ∨ kidv R0 s p q → lo' p = lo' q) := by
  have second : ∀ (R1 : RI) (lo1 : Nat → Nat), HS (edg R0 s) R0 R1 lo1 → ∃ R' lo', f_X2_findHouseholds_j54 N I cm k R1 (nI p) = k R' (nI (p + 1)) ∧ HS (edg R0 s) R0 R' lo' ∧ (∀ x y, lo1 x = lo1 y → lo' x = lo' y) ∧ (∀ q, q < 24 → edg R0 s p q → kidv R0 s p q → lo' p = lo' q) := by
    intro R1 lo1 h1
    have r := fun c (hc : c ≠ 9) => h1.1 c hc
    unfold f_X2_findHouseholds_j54
    rw [kid_c hs hI (hC.of h1.leq) hp, ob1_ite]
    simp only [og_nI hp (show 24 < 2147483648 by omega), nI_tn (bd4 hp), ol_eq, nI_s9]
    by_cases hk : (lvg R1 (nI p) ∧ lvg R1 (R1 5 p) ∧ atv 24 (R1 2) (nI p) = atv 24 (R1 2) (R1 5 p)) ∧ R1 4 p = -1 ∧ agv (R1 7) s p < 18
    · rw [if_pos hk, if_neg one0]
      obtain ⟨⟨k1, k2, k3⟩, k4, k5⟩ := hk
      obtain ⟨q, hq, e5, -⟩ := at_of k2 (by decide)
      rw [e5] at k2 k3 ⊢
      rw [lvg_nI hp, r 1 (by omega)] at k1
      rw [lvg_nI hq, r 1 (by omega)] at k2
      rw [atv_nI hp (by omega), atv_nI hq (by omega), r 2 (by omega)] at k3
      rw [r 4 (by omega)] at k4
      rw [r 7 (by omega)] at k5
      rw [r 5 (by omega)] at e5
      obtain ⟨R', g1, g2⟩ := h1.uni (I := I) (cm := cm) hN hp hq ⟨⟨k1, k2, k3⟩, Or.inr (Or.inl ⟨e5, k4, k5⟩)⟩
      rw [g1, ob1_some]
      refine ⟨R', _, rfl, g2, fun x y e => uni_keep e, fun q' hq' _ hk' => ?_⟩
      have : q' = q := by
        have := hk'.1
        rw [e5] at this
        exact ((n_eq (by omega) (by omega)).mp this).symm
      rw [this]
      exact uni_eq
    · rw [if_neg hk, if_pos trivial]
      refine ⟨R1, lo1, rfl, h1, fun x y e => e, fun q hq he hk' => absurd ?_ hk⟩
      rw [r 5 (by omega), r 2 (by omega), r 4 (by omega), r 7 (by omega), hk'.1, atv_nI hp (by omega), atv_nI hq (by omega), lvg_nI hp, lvg_nI hq, r 1 (by omega)]
      exact ⟨he.1, hk'.2⟩
  have r := fun c (hc : c ≠ 9) => h.1 c hc
  rw [areIn_at, ob1_ite]
  simp only [og_nI hp (show 24 < 2147483648 by omega)]
  by_cases hk : lvg R (nI p) ∧ lvg R (R 4 p) ∧ atv 24 (R 2) (nI p) = atv 24 (R 2) (R 4 p)
  · rw [if_pos hk, if_neg one0]
    obtain ⟨k1, k2, k3⟩ := hk
    obtain ⟨q, hq, e4, -⟩ := at_of k2 (by decide)
    rw [e4] at k2 k3 ⊢
    rw [lvg_nI hp, r 1 (by omega)] at k1
    rw [lvg_nI hq, r 1 (by omega)] at k2
    rw [atv_nI hp (by omega), atv_nI hq (by omega), r 2 (by omega)] at k3
    rw [r 4 (by omega)] at e4
    obtain ⟨R1, g1, g2⟩ := h.uni (I := I) (cm := cm) hN hp hq ⟨⟨k1, k2, k3⟩, Or.inl e4⟩
    rw [g1, ob1_some]
    obtain ⟨R', lo', f1, f2, f3, f4⟩ := second R1 _ g2
    refine ⟨R', lo', f1, f2, fun x y e => f3 x y (uni_keep e), fun q' hq' he hk' => ?_⟩
    rcases hk' with hk' | hk'
    · have : q' = q := by
        rw [e4] at hk'
        exact ((n_eq (by omega) (by omega)).mp hk').symm
      rw [this]
      exact f3 _ _ uni_eq
    · exact f4 q' hq' he hk'
  · rw [if_neg hk, if_pos trivial]
    obtain ⟨R', lo', f1, f2, f3, f4⟩ := second R lo h
    refine ⟨R', lo', f1, f2, f3, fun q' hq' he hk' => ?_⟩
    rcases hk' with hk' | hk'
    · refine absurd ?_ hk
      rw [r 4 (by omega), r 2 (by omega), hk', atv_nI hp (by omega), atv_nI hq' (by omega), lvg_nI hp, lvg_nI hq', r 1 (by omega)]
      exact he.1
    · exact f4 q' hq' he hk'
theorem houses_l (hN : 200 ≤ N) {R0 : RI} (hs : s ≤ 30000) (hI : I 0 = nI s) (hC : CL (nI s) R0) (p4 : ∀ j, j < 24 → PN 24 (R0 4 j)) (p5 : ∀ j, j < 24 → PN 24 (R0 5 j)) : ∀ (c p : Nat) (R : RI) (lo : Nat → Nat) (f : Nat), p + c = 24 → HS (edg R0 s) R0 R lo → (∀ p', p' < p → ∀ q, q < 24 → edg R0 s p' q → R0 4 p' = nI q ∨ kidv R0 s p' q → lo p' = lo q) → c < f →
    ∃ R' lo', f_X2_findHouseholds_l23 N I cm f R (nI p) = some R' ∧ HS (edg R0 s) R0 R' lo' ∧ (∀ p', p' < 24 → ∀ q, q < 24 → edg R0 s p' q → R0 4 p' = nI q ∨ kidv R0 s p' q → lo' p' = lo' q)
  | 0, p, R, lo, f, hp, h, h2, hf => by
    obtain ⟨f, rfl⟩ : ∃ z, f = z + 1 := ⟨f - 1, by omega⟩
    obtain rfl : p = 24 := by omega
    refine ⟨R, lo, ?_, h, h2⟩
    show f_X2_findHouseholds_l23b N I cm (f_X2_findHouseholds_l23 N I cm f) R (nI 24) = _
    unfold f_X2_findHouseholds_l23b
    rw [if_pos (by decide)]
  | c + 1, p, R, lo, f, hp, h, h2, hf => by
    obtain ⟨f, rfl⟩ : ∃ z, f = z + 1 := ⟨f - 1, by omega⟩
    have hp24 : p < 24 := by omega
    obtain ⟨R1, lo1, g1, g2, g3, g4⟩ := houses_p (cm := cm) hN h hs hI hC p4 p5 hp24 (f_X2_findHouseholds_l23 N I cm f)
    obtain ⟨R', lo', f1, f2, f3⟩ := houses_l hN hs hI hC p4 p5 c (p + 1) R1 lo1 f (by omega) g2 (fun p' hp' q hq he hk => by
      by_cases e : p' = p
      · rw [e] at he hk ⊢; exact g4 q hq he hk
      · exact g3 _ _ (h2 p' (by omega) q hq he hk)) (by omega)
    refine ⟨R', lo', ?_, f2, f3⟩
    rw [← f1, ← g1]
    show f_X2_findHouseholds_l23b N I cm (f_X2_findHouseholds_l23 N I cm f) R (nI p) = _
    unfold f_X2_findHouseholds_l23b
    rw [if_neg (by rw [show (24 : Int32) = nI 24 from rfl, n_le (by omega) (by omega)]; omega), og_nI hp24 (by omega), nI_tn (bd4 hp24)]
theorem houses_0 {R0 : RI} : ∀ (c j : Nat) (R : RI) (f : Nat), j + c = 24 → (∀ c, c ≠ 9 → R c = R0 c) → (∀ x, x < j → x < 24 → R 9 x = nI x) → c < f →
    ∃ R', f_X2_findHouseholds_l2 N I cm f R (nI j) = f_X2_findHouseholds_l23 N I cm N R' 0 ∧ (∀ c, c ≠ 9 → R' c = R0 c) ∧ ∀ x, x < 24 → R' 9 x = nI x
  | 0, j, R, f, hj, h1, h2, hf => by
    obtain ⟨f, rfl⟩ : ∃ z, f = z + 1 := ⟨f - 1, by omega⟩
    obtain rfl : j = 24 := by omega
    refine ⟨R, ?_, h1, fun x hx => h2 x hx hx⟩
    show f_X2_findHouseholds_l2b N I cm (f_X2_findHouseholds_l2 N I cm f) R (nI 24) = _
    unfold f_X2_findHouseholds_l2b
    rw [if_pos (by decide)]
  | c + 1, j, R, f, hj, h1, h2, hf => by
    obtain ⟨f, rfl⟩ : ∃ z, f = z + 1 := ⟨f - 1, by omega⟩
    have hj24 : j < 24 := by omega
    show ∃ R', f_X2_findHouseholds_l2b N I cm (f_X2_findHouseholds_l2 N I cm f) R (nI j) = _ ∧ _
    unfold f_X2_findHouseholds_l2b
    rw [if_neg (by rw [show (24 : Int32) = nI 24 from rfl, n_le (by omega) (by omega)]; omega)]
    simp only [og_nI hj24 (show 24 < 2147483648 by omega), nI_tn (bd4 hj24), ol_eq, nI_s9]
    refine houses_0 c (j + 1) _ f (by omega) (fun c hc => by rw [up_ne hc]; exact h1 c hc) (fun x hx h24 => ?_) (by omega)
    rw [up_same, upd_at]
    by_cases ex : x = j
    · rw [if_pos ex, ex]
    · rw [if_neg ex]; exact h2 x (by omega) h24
theorem houses_c (hN : 200 ≤ N) {R : RI} (hs : s ≤ 30000) (hI : I 0 = nI s) (hC : CL (nI s) R) (p4 : ∀ j, j < 24 → PN 24 (R 4 j)) (p5 : ∀ j, j < 24 → PN 24 (R 5 j)) : ∃ R' lo, f_X2_findHouseholds N I cm R = some R' ∧ HS (edg R s) R R' lo ∧ CE (edg R s) lo := by
  obtain ⟨R1, a1, a2, a3⟩ := houses_0 (N := N) (I := I) (cm := cm) (R0 := R) 24 0 R N rfl (fun _ _ => rfl) (fun x hx => absurd hx (Nat.not_lt_zero x)) (by omega)
  obtain ⟨R', lo, b1, b2, b3⟩ := houses_l (cm := cm) hN hs hI hC p4 p5 24 0 R1 (fun x => x) N rfl ⟨a2, a3, fun p _ => Nat.le_refl p, fun f _ p _ => rfl⟩ (fun p' hp' => absurd hp' (Nat.not_lt_zero p')) (by omega)
  refine ⟨R', lo, ?_, b2, fun p q hp hq he => ?_⟩
  · unfold f_X2_findHouseholds
    exact a1.trans b1
  · rcases he.2 with h | h | h
    · exact b3 p hp q hq he (Or.inl h)
    · exact b3 p hp q hq he (Or.inr h)
    · exact (b3 q hq p hp (edg_sym hC hp hq he) (Or.inr h)).symm
end one
end PHo
