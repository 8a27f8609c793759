/-! ===== PURE: households, the reference's side ===== -/
section PSe
def sumN (f : Nat → Nat) : Nat → Nat
  | 0 => 0
  | n + 1 => sumN f n + f n
def upN (f : Nat → Nat) (p v : Nat) (x : Nat) : Nat := if x = p then v else f x
theorem sumN_eq {f g : Nat → Nat} : ∀ (n : Nat), (∀ x, x < n → f x = g x) → sumN f n = sumN g n
  | 0, _ => rfl
  | n + 1, h => by
    show sumN f n + f n = sumN g n + g n
    rw [sumN_eq n (fun x hx => h x (by omega)), h n (by omega)]
theorem sumN_up {f : Nat → Nat} {p v : Nat} : ∀ (n : Nat), p < n → sumN (upN f p v) n + f p = sumN f n + v
  | 0, h => absurd h (Nat.not_lt_zero p)
  | n + 1, h => by
    show sumN (upN f p v) n + upN f p v n + f p = sumN f n + f n + v
    by_cases e : p = n
    · have e1 : sumN (upN f p v) n = sumN f n := sumN_eq n (fun x hx => by unfold upN; rw [if_neg (by omega)])
      have e2 : upN f p v n = v := by unfold upN; rw [if_pos e.symm]
      rw [e1, e2, e]
      omega
    · have e1 := sumN_up (f := f) (p := p) (v := v) n (by omega)
      have e2 : upN f p v n = f n := by unfold upN; rw [if_neg (fun z => e z.symm)]
      rw [e2]
      omega
theorem sumN_le {f : Nat → Nat} : ∀ (n : Nat), (∀ x, x < n → f x ≤ 24) → sumN f n ≤ 24 * n
  | 0, _ => Nat.le_refl 0
  | n + 1, h => by
    show sumN f n + f n ≤ 24 * (n + 1)
    have := sumN_le n (fun x hx => h x (by omega))
    have := h n (by omega)
    omega
section one
variable {N P s : Nat} {I : OI} {R0 Rk : RI}
/-- the reference's labels -/
abbrev MS (P s : Nat) (R0 Rk R : RI) (ho : Nat → Nat) : Prop := (∀ c, c ≠ 20 → R c = R0 c) ∧ (∀ p, p < P → R 20 p = if Rk 1 p = 1 then nI (ho p) else -1) ∧ LB (edg Rk s) ho
theorem edg_P (hL : LF R0 Rk) (hO : ∀ z, P ≤ z → z < 24 → R0 12 z = 0) {p q : Nat} (hp : p < 24) (h : Rk 1 p = 1) : p < P := by
  by_cases e : p < P
  · exact e
  · rw [hL.st p hp, hO p (by omega) hp] at h
    exact absurd h (by decide)
theorem kid_m (hL : LF R0 Rk) (hC : CL (nI s) Rk) (hs : s ≤ 30000) {R : RI} (hR : ∀ c, c ≠ 20 → R c = R0 c) {p q : Nat} (hp : p < 24) (hq : q < 24) (hl : Rk 1 p = 1) : f_X6_isChild I R (nI p) (nI q) (nI s) = some (if kidv Rk s p q then 1 else 0) := by
  have e16 := hR 16 (by omega)
  have e15 := hR 15 (by omega)
  have ha : f_X6_ageOf I R (nI p) (nI s) = f_X6_ageOf I R0 (nI p) (nI s) := by
    unfold f_X6_ageOf
    rw [hR 12 (by omega), hR 17 (by omega)]
  unfold f_X6_isChild
  rw [og_nI hp (by omega), nI_tn (bd4 hp), e16, ← hL.mo p hp]
  by_cases h1 : Rk 5 p = nI q
  · rw [if_pos h1, ha, age_m hs hL hC hp, if_pos hl, ob1_some, og_nI hp (by omega), e15, ← hL.pr p hp]
    have hb := agv_lt (g := Rk 7) (p := p) hs
    by_cases h2 : agv (Rk 7) s p < 18
    · rw [if_neg (by rw [show (18 : Int32) = nI 18 from rfl, n_le (by omega) (by omega)]; omega)]
      by_cases h3 : Rk 4 p = -1
      · rw [if_pos h3, if_pos ⟨h1, h3, h2⟩]
      · rw [if_neg h3, if_neg (fun h => h3 h.2.1)]
    · rw [if_pos (by rw [show (18 : Int32) = nI 18 from rfl, n_le (by omega) (by omega)]; omega), if_neg (fun h => h2 h.2.2)]
  · rw [if_neg h1, if_neg (fun h => h1 h.1)]
theorem pair_m (hP : P ≤ 24) (hI : I 4 = nI P) (hL : LF R0 Rk) (hC : CL (nI s) Rk) (hs : s ≤ 30000) {R : RI} {ho : Nat → Nat} (h : MS P s R0 Rk R ho) {k39 : RI → Int32 → Int32 → Option RI} {k47 : RI → Int32 → Int32 → Int32 → Option RI} {f p q : Nat} (hp : p < P) (hq : q < P) (x : Int32) :
    f_X6_settle_l58 N I k39 k47 (f + 1) R (nI s) x (nI p) (nI q) = if edg Rk s p q ∧ ho q < ho p then f_X6_settle_l58 N I k39 k47 f (va_up R 20 (upd (R 20) p (nI (ho q)))) (nI s) 1 (nI p) (nI (q + 1)) else f_X6_settle_l58 N I k39 k47 f R (nI s) x (nI p) (nI (q + 1)) := by
  obtain ⟨hR, hh, hlb⟩ := h
  have hp24 : p < 24 := by omega
  have hq24 : q < 24 := by omega
  have lp := hlb.1 p hp24
  have lq := hlb.1 q hq24
  show f_X6_settle_l58b N I k39 k47 (f_X6_settle_l58 N I k39 k47 f) R (nI s) x (nI p) (nI q) = _
  unfold f_X6_settle_l58b
  rw [hI, if_neg (fun e => by have := (n_le (by omega) (by omega)).mp e; omega)]
  simp only [og_nI hp24 (show 24 < 2147483648 by omega), og_nI hq24 (show 24 < 2147483648 by omega), nI_tn (bd4 hp24), nI_tn (bd4 hq24), hR 12 (by omega), hR 13 (by omega), ← hL.st p hp24, ← hL.st q hq24, ← hL.hm p hp24, ← hL.hm q hq24]
  have no : ¬ (Rk 1 p = 1 ∧ Rk 1 q = 1 ∧ Rk 2 p = Rk 2 q) → f_X6_settle_j109 N I k39 k47 (f_X6_settle_l58 N I k39 k47 f) R (nI s) x (nI p) (nI q) 0 = if edg Rk s p q ∧ ho q < ho p then f_X6_settle_l58 N I k39 k47 f (va_up R 20 (upd (R 20) p (nI (ho q)))) (nI s) 1 (nI p) (nI (q + 1)) else f_X6_settle_l58 N I k39 k47 f R (nI s) x (nI p) (nI (q + 1)) := fun z => by
    unfold f_X6_settle_j109
    rw [if_pos rfl, ol_eq, nI_s9, if_neg (fun e => z e.1.1)]
  by_cases h1 : Rk 1 p = 1
  · by_cases h2 : Rk 1 q = 1
    · by_cases h3 : Rk 2 p = Rk 2 q
      · rw [if_pos h1, if_pos h2, if_pos h3]
        have e20p : R 20 p = nI (ho p) := by rw [hh p hp, if_pos h1]
        have e20q : R 20 q = nI (ho q) := by rw [hh q hq, if_pos h2]
        have j165 : f_X6_settle_j165 N I k39 k47 (f_X6_settle_l58 N I k39 k47 f) R (nI s) (nI p) (nI q) = f_X6_settle_l58 N I k39 k47 f (va_up R 20 (upd (R 20) p (nI (ho q)))) (nI s) 1 (nI p) (nI (q + 1)) := by
          unfold f_X6_settle_j165
          rw [og_nI hq24 (by omega), og_nI hp24 (by omega), nI_tn (bd4 hp24), nI_tn (bd4 hq24), ol_eq, ol_eq, nI_s9, e20q]
        unfold f_X6_settle_j109
        rw [if_neg one0]
        simp only [og_nI hp24 (show 24 < 2147483648 by omega), og_nI hq24 (show 24 < 2147483648 by omega), nI_tn (bd4 hp24), nI_tn (bd4 hq24), ol_eq, nI_s9, e20p, e20q, j165, hR 15 (by omega), ← hL.pr p hp24, kid_m hL hC hs hR hp24 hq24 h1, kid_m hL hC hs hR hq24 hp24 h2, ob1_ite]
        by_cases h4 : ho q < ho p
        · rw [if_neg (fun e => by have := (n_le (by omega) (by omega)).mp e; omega)]
          by_cases h5 : Rk 4 p = nI q
          · rw [if_pos h5, if_pos ⟨⟨⟨h1, h2, h3⟩, Or.inl h5⟩, h4⟩]
          · rw [if_neg h5]
            by_cases h6 : kidv Rk s p q
            · rw [if_pos h6, if_neg one0, if_pos ⟨⟨⟨h1, h2, h3⟩, Or.inr (Or.inl h6)⟩, h4⟩]
            · rw [if_neg h6, if_pos trivial]
              by_cases h7 : kidv Rk s q p
              · rw [if_pos h7, if_neg one0, if_pos ⟨⟨⟨h1, h2, h3⟩, Or.inr (Or.inr h7)⟩, h4⟩]
              · rw [if_neg h7, if_pos trivial, if_neg]
                rintro ⟨⟨-, e⟩, -⟩
                rcases e with e | e | e
                · exact h5 e
                · exact h6 e
                · exact h7 e
        · rw [if_pos ((n_le (by omega) (by omega)).mpr (by omega)), if_neg (fun e => h4 e.2)]
      · rw [if_pos h1, if_pos h2, if_neg h3]
        exact no (fun e => h3 e.2.2)
    · rw [if_pos h1, if_neg h2]
      exact no (fun e => h2 e.2.1)
  · rw [if_neg h1]
    exact no (fun e => h1 e.1)
theorem MS.up {R : RI} {ho : Nat → Nat} (hP : P ≤ 24) (h : MS P s R0 Rk R ho) {p q : Nat} (hp : p < P) (hq : q < P) (e : edg Rk s p q) (hlt : ho q < ho p) : MS P s R0 Rk (va_up R 20 (upd (R 20) p (nI (ho q)))) (upN ho p (ho q)) ∧ sumN (upN ho p (ho q)) 24 < sumN ho 24 := by
  obtain ⟨hR, hh, hl1, hl2⟩ := h
  refine ⟨⟨fun c hc => by rw [up_ne hc]; exact hR c hc, fun x hx => ?_, fun x hx => ?_, fun f hf x hx => ?_⟩, ?_⟩
  · rw [up_same, upd_at]
    unfold upN
    by_cases ex : x = p
    · rw [if_pos ex, if_pos ex, ex, if_pos e.1.1]
    · rw [if_neg ex, if_neg ex]; exact hh x hx
  · unfold upN
    by_cases ex : x = p
    · rw [if_pos ex]; have := hl1 p (by omega); omega
    · rw [if_neg ex]; exact hl1 x hx
  · unfold upN
    by_cases ex : x = p
    · rw [if_pos ex, hl2 f hf q (by omega), ex]; exact (hf p q (by omega) (by omega) e).symm
    · rw [if_neg ex]; exact hl2 f hf x hx
  · have := sumN_up (f := ho) (p := p) (v := ho q) 24 (by omega)
    omega
/-- what a stretch of pairs leaves: all as it was, or fewer -/
abbrev PQ2 (P s : Nat) (R0 Rk R : RI) (ho : Nat → Nat) (x : Int32) (R' : RI) (ho' : Nat → Nat) (x' : Int32) (All : Prop) : Prop := MS P s R0 Rk R' ho' ∧ ((R' = R ∧ ho' = ho ∧ x' = x ∧ All) ∨ (x' = 1 ∧ sumN ho' 24 < sumN ho 24))
theorem inner_m (hP : P ≤ 24) (hI : I 4 = nI P) (hL : LF R0 Rk) (hC : CL (nI s) Rk) (hs : s ≤ 30000) {k39 : RI → Int32 → Int32 → Option RI} {k47 : RI → Int32 → Int32 → Int32 → Option RI} {p : Nat} (hp : p < P) : ∀ (c q : Nat) (R : RI) (ho : Nat → Nat) (x : Int32) (f : Nat), q + c = P → MS P s R0 Rk R ho → c < f →
    ∃ R' ho' x', f_X6_settle_l58 N I k39 k47 f R (nI s) x (nI p) (nI q) = k47 R' (nI s) x' (nI (p + 1)) ∧ PQ2 P s R0 Rk R ho x R' ho' x' (∀ q', q ≤ q' → q' < P → edg Rk s p q' → ¬ ho q' < ho p)
  | 0, q, R, ho, x, f, hq, h, hf => by
    obtain ⟨f, rfl⟩ : ∃ z, f = z + 1 := ⟨f - 1, by omega⟩
    obtain rfl : q = P := by omega
    refine ⟨R, ho, x, ?_, h, Or.inl ⟨rfl, rfl, rfl, fun q' h1 h2 => by omega⟩⟩
    show f_X6_settle_l58b N I k39 k47 (f_X6_settle_l58 N I k39 k47 f) R (nI s) x (nI p) (nI q) = _
    unfold f_X6_settle_l58b
    rw [hI, if_pos ((n_le (by omega) (by omega)).mpr (Nat.le_refl _)), ol_eq, nI_s9]
  | c + 1, q, R, ho, x, f, hq, h, hf => by
    obtain ⟨f, rfl⟩ : ∃ z, f = z + 1 := ⟨f - 1, by omega⟩
    have hqP : q < P := by omega
    rw [pair_m hP hI hL hC hs h hp hqP x]
    by_cases e : edg Rk s p q ∧ ho q < ho p
    · rw [if_pos e]
      obtain ⟨h1, h2⟩ := h.up hP hp hqP e.1 e.2
      obtain ⟨R', ho', x', e1, e2, e3⟩ := inner_m hP hI hL hC hs (k39 := k39) (k47 := k47) hp c (q + 1) _ _ 1 f (by omega) h1 (by omega)
      refine ⟨R', ho', x', e1, e2, Or.inr ?_⟩
      rcases e3 with ⟨-, e4, e5, -⟩ | ⟨e4, e5⟩
      · rw [e4]; exact ⟨e5, h2⟩
      · exact ⟨e4, by omega⟩
    · rw [if_neg e]
      obtain ⟨R', ho', x', e1, e2, e3⟩ := inner_m hP hI hL hC hs (k39 := k39) (k47 := k47) hp c (q + 1) R ho x f (by omega) h (by omega)
      refine ⟨R', ho', x', e1, e2, ?_⟩
      rcases e3 with ⟨e4, e5, e6, e7⟩ | e4
      · refine Or.inl ⟨e4, e5, e6, fun q' h1 h2 h3 h4 => ?_⟩
        by_cases z : q' = q
        · rw [z] at h3 h4; exact e ⟨h3, h4⟩
        · exact e7 q' (by omega) h2 h3 h4
      · exact Or.inr e4
theorem outer_m (hN : 200 ≤ N) (hP : P ≤ 24) (hI : I 4 = nI P) (hL : LF R0 Rk) (hC : CL (nI s) Rk) (hs : s ≤ 30000) {k39 : RI → Int32 → Int32 → Option RI} : ∀ (c p : Nat) (R : RI) (ho : Nat → Nat) (x : Int32) (f : Nat), p + c = P → MS P s R0 Rk R ho → c < f →
    ∃ R' ho' x', f_X6_settle_l47 N I k39 f R (nI s) x (nI p) = k39 R' (nI s) x' ∧ PQ2 P s R0 Rk R ho x R' ho' x' (∀ p', p ≤ p' → p' < P → ∀ q', q' < P → edg Rk s p' q' → ¬ ho q' < ho p')
  | 0, p, R, ho, x, f, hp, h, hf => by
    obtain ⟨f, rfl⟩ : ∃ z, f = z + 1 := ⟨f - 1, by omega⟩
    obtain rfl : p = P := by omega
    refine ⟨R, ho, x, ?_, h, Or.inl ⟨rfl, rfl, rfl, fun q' h1 h2 => by omega⟩⟩
    show f_X6_settle_l47b N I k39 (f_X6_settle_l47 N I k39 f) R (nI s) x (nI p) = _
    unfold f_X6_settle_l47b
    rw [hI, if_pos ((n_le (by omega) (by omega)).mpr (Nat.le_refl _))]
  | c + 1, p, R, ho, x, f, hp, h, hf => by
    obtain ⟨f, rfl⟩ : ∃ z, f = z + 1 := ⟨f - 1, by omega⟩
    have hpP : p < P := by omega
    obtain ⟨R1, ho1, x1, e1, e2, e3⟩ := inner_m (N := N) hP hI hL hC hs (k39 := k39) (k47 := f_X6_settle_l47 N I k39 f) hpP P 0 R ho x N (by omega) h (by omega)
    obtain ⟨R', ho', x', g1, g2, g3⟩ := outer_m hN hP hI hL hC hs (k39 := k39) c (p + 1) R1 ho1 x1 f (by omega) e2 (by omega)
    refine ⟨R', ho', x', ?_, g2, ?_⟩
    · rw [← g1, ← e1]
      show f_X6_settle_l47b N I k39 (f_X6_settle_l47 N I k39 f) R (nI s) x (nI p) = _
      unfold f_X6_settle_l47b
      rw [hI, if_neg (fun e => by have := (n_le (by omega) (by omega)).mp e; omega)]
      rfl
    · rcases e3 with ⟨a1, a2, a3, a4⟩ | ⟨a1, a2⟩
      · rcases g3 with ⟨b1, b2, b3, b4⟩ | ⟨b1, b2⟩
        · rw [a2] at b4 b2
          refine Or.inl ⟨b1.trans a1, b2, b3.trans a3, fun p' h1 h2 q' h3 h4 => ?_⟩
          by_cases z : p' = p
          · rw [z] at h4 ⊢; exact a4 q' (Nat.zero_le _) h3 h4
          · exact b4 p' (by omega) h2 q' h3 h4
        · rw [a2] at b2; exact Or.inr ⟨b1, b2⟩
      · rcases g3 with ⟨-, b2, b3, -⟩ | ⟨b1, b2⟩
        · rw [b2, b3]; exact Or.inr ⟨a1, a2⟩
        · exact Or.inr ⟨b1, by omega⟩
theorem settle_l (hN : 200 ≤ N) (hP : P ≤ 24) (hI : I 4 = nI P) (hL : LF R0 Rk) (hC : CL (nI s) Rk) (hs : s ≤ 30000) : ∀ (t : Nat) (R : RI) (ho : Nat → Nat) (f : Nat), MS P s R0 Rk R ho → sumN ho 24 ≤ t → t + 1 < f →
    ∃ R' ho', f_X6_settle_l39 N I f R (nI s) 1 = some R' ∧ MS P s R0 Rk R' ho' ∧ (∀ p, p < P → ∀ q, q < P → edg Rk s p q → ¬ ho' q < ho' p)
  | t, R, ho, 0, _, _, hf => absurd hf (by omega)
  | t, R, ho, f + 1, h, ht, hf => by
    obtain ⟨R1, ho1, x1, e1, e2, e3⟩ := outer_m (N := N) hN hP hI hL hC hs (k39 := f_X6_settle_l39 N I f) P 0 R ho 0 N (by omega) h (by omega)
    have e0 : f_X6_settle_l39 N I (f + 1) R (nI s) 1 = f_X6_settle_l39 N I f R1 (nI s) x1 := by
      rw [← e1]
      show f_X6_settle_l39b N I (f_X6_settle_l39 N I f) R (nI s) 1 = _
      unfold f_X6_settle_l39b
      rw [if_neg one0]
      rfl
    rw [e0]
    rcases e3 with ⟨a1, a2, a3, a4⟩ | ⟨a1, a2⟩
    · obtain ⟨f, rfl⟩ : ∃ z, f = z + 1 := ⟨f - 1, by omega⟩
      refine ⟨R1, ho1, ?_, e2, fun p hp q hq he => ?_⟩
      · rw [a3]
        show f_X6_settle_l39b N I (f_X6_settle_l39 N I f) R1 (nI s) 0 = _
        unfold f_X6_settle_l39b
        rw [if_pos rfl]
      · rw [a2]; exact a4 p (Nat.zero_le _) hp q hq he
    · rw [a1]
      match t, ht with
      | 0, ht => omega
      | t + 1, ht => exact settle_l hN hP hI hL hC hs t R1 ho1 f e2 (by omega) (by omega)
theorem settle_0 (hP : P ≤ 24) (hI : I 4 = nI P) (hL : LF R0 Rk) : ∀ (c j : Nat) (R : RI) (f : Nat), j + c = P → (∀ c, c ≠ 20 → R c = R0 c) → (∀ p, p < j → R 20 p = if Rk 1 p = 1 then nI p else -1) → c < f →
    ∃ R', f_X6_settle_l2 N I f R (nI s) (nI j) = f_X6_settle_l39 N I N R' (nI s) 1 ∧ (∀ c, c ≠ 20 → R' c = R0 c) ∧ (∀ p, p < P → R' 20 p = if Rk 1 p = 1 then nI p else -1)
  | 0, j, R, f, hj, h1, h2, hf => by
    obtain ⟨f, rfl⟩ : ∃ z, f = z + 1 := ⟨f - 1, by omega⟩
    obtain rfl : j = P := by omega
    refine ⟨R, ?_, h1, h2⟩
    show f_X6_settle_l2b N I (f_X6_settle_l2 N I f) R (nI s) (nI j) = _
    unfold f_X6_settle_l2b
    rw [hI, if_pos ((n_le (by omega) (by omega)).mpr (Nat.le_refl _))]
  | c + 1, j, R, f, hj, h1, h2, hf => by
    obtain ⟨f, rfl⟩ : ∃ z, f = z + 1 := ⟨f - 1, by omega⟩
    have hj24 : j < 24 := by omega
    have e : f_X6_settle_l2 N I (f + 1) R (nI s) (nI j) = f_X6_settle_l2 N I f (va_up R 20 (upd (R 20) j (if Rk 1 j = 1 then nI j else -1))) (nI s) (nI (j + 1)) := by
      show f_X6_settle_l2b N I (f_X6_settle_l2 N I f) R (nI s) (nI j) = _
      unfold f_X6_settle_l2b f_X6_settle_j30
      rw [hI, if_neg (fun e => by have := (n_le (by omega) (by omega)).mp e; omega)]
      simp only [og_nI hj24 (show 24 < 2147483648 by omega), nI_tn (bd4 hj24), ol_eq, nI_s9, h1 12 (by omega), ← hL.st j hj24]
      by_cases h : Rk 1 j = 1
      · rw [if_pos h, if_pos h]
      · rw [if_neg h, if_neg h]
    rw [e]
    refine settle_0 hP hI hL c (j + 1) _ f (by omega) (fun c hc => by rw [up_ne hc]; exact h1 c hc) (fun p hp => ?_) (by omega)
    rw [up_same, upd_at]
    by_cases ex : p = j
    · rw [if_pos ex, ex]
    · rw [if_neg ex]; exact h2 p (by omega)
/-- both find the same households -/
theorem house_both (hN : 700 ≤ N) (hP : P ≤ 24) (hI : I 4 = nI P) (hL : LF R0 Rk) (hC : CL (nI s) Rk) (hs : s ≤ 30000) (hO : ∀ z, P ≤ z → z < 24 → R0 12 z = 0) {Ik : OI} {cm : Option Nat} (hk : Ik 0 = nI s) :
    ∃ R' Rk', f_X6_settle N I R0 (nI s) = some R' ∧ f_X2_findHouseholds N Ik cm Rk = some Rk' ∧ (∀ c, c ≠ 20 → R' c = R0 c) ∧ (∀ c, c ≠ 9 → Rk' c = Rk c) ∧ (∀ p, p < P → R' 20 p = if Rk 1 p = 1 then Rk' 9 p else -1) ∧ (∀ p, p < 24 → ∃ l, l < 24 ∧ Rk' 9 p = nI l) := by
  obtain ⟨Rk', lo, a1, a2, a3⟩ := houses_c (cm := cm) (show 200 ≤ N by omega) hs hk hC (fun j hj => by rw [hL.pr j hj]; exact hL.prn j hj) (fun j hj => by rw [hL.mo j hj]; exact hL.mon j hj)
  obtain ⟨R1, b1, b2, b3⟩ := settle_0 (N := N) (s := s) (R0 := R0) (Rk := Rk) hP hI hL P 0 R0 N (by omega) (fun _ _ => rfl) (fun p hp => absurd hp (Nat.not_lt_zero p)) (by omega)
  obtain ⟨R', ho, c1, c2, c3⟩ := settle_l (show 200 ≤ N by omega) hP hI hL hC hs 576 R1 (fun p => p) N ⟨b2, b3, fun p _ => Nat.le_refl p, fun f _ p _ => rfl⟩ (sumN_le 24 (fun x hx => Nat.le_of_lt hx)) (by omega)
  have hce : CE (edg Rk s) ho := fun p q hp hq he => by
    have hp' := edg_P (q := q) hL hO hp he.1.1
    have hq' := edg_P (q := q) hL hO hq he.1.2.1
    have h1 := c3 p hp' q hq' he
    have h2 := c3 q hq' p hp' (edg_sym hC hp hq he)
    omega
  refine ⟨R', Rk', ?_, a1, c2.1, a2.1, fun p hp => ?_, fun p hp => ⟨lo p, a2.lt p hp, a2.2.1 p hp⟩⟩
  · unfold f_X6_settle
    exact b1.trans c1
  · rw [c2.2.1 p hp, a2.2.1 p (by omega), lb_one a2.2.2 a3 c2.2.2 hce (show p < 24 by omega)]
end one
end PSe
