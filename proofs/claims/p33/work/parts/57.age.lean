/-! ===== PURE: ages, offices, one dwelling ===== -/
section PAg
theorem nn_msb {x : Int32} (h : 0 ≤ x.toInt) : x.toBitVec.msb = false := by
  rw [BitVec.msb_eq_toInt, Int32.toInt_toBitVec]
  exact decide_eq_false (by omega)
theorem xor_nn {x y : Int32} (hx : 0 ≤ x.toInt) (hy : 0 ≤ y.toInt) : 0 ≤ x ^^^ y := by
  have c : (x ^^^ y).toBitVec.msb = false := by
    rw [Int32.toBitVec_xor, BitVec.msb_xor, nn_msb hx, nn_msb hy]
    rfl
  rw [BitVec.msb_eq_toInt, Int32.toInt_toBitVec] at c
  have c2 := of_decide_eq_false c
  rw [Int32.le_iff_toInt_le]
  have h0 : (0 : Int32).toInt = 0 := by decide
  rw [h0]
  omega
theorem fdiv_nI {a b : Nat} (ha : a < 2147483648) (hb : b < 2147483648) (hb0 : 0 < b) : f_J9_floorDiv_7cf53 (nI a) (nI b) = some (nI (a / b)) := by
  unfold f_J9_floorDiv_7cf53 ond
  rw [if_neg (fun e => by have := (n_eq (b := 0) hb (by omega)).mp e; omega), ol_eq, if_pos (xor_nn (by rw [n_ti ha]; omega) (by rw [n_ti hb]; omega)), nI_div ha hb]
theorem office_nI {h : Nat} (hh : h < 16) : f_X5_officeOf (nI h) = some (nI (h / 4)) := by
  unfold f_X5_officeOf
  rw [show (4 : Int32) = nI 4 from rfl, fdiv_nI (by omega) (by omega) (by omega), ob1_some]
/-- the age, where b is the day of birth -/
def agv (R7 : Nat → Int32) (s p : Nat) : Nat := (s - (R7 p).toNatClampNeg) / 365
theorem age_c {I : OI} {R : RI} {cm : Option Nat} {s p : Nat} (hs : s ≤ 30000) (hI : I 0 = nI s) (hC : CL (nI s) R) (hp : p < 24) : f_X2_ageOf I R cm (nI p) = some (if R 1 p = 1 then nI (agv (R 7) s p) else -1) := by
  unfold f_X2_ageOf
  rw [isLiving_at, ob1_ite, atv_nI hp (by omega)]
  by_cases h : R 1 p = 1
  · obtain ⟨b, hb, e, hbs⟩ := hC.bn p hp (Or.inl h)
    rw [e, n_le (by omega) (by omega)] at hbs
    rw [if_pos h, if_neg one0, if_pos h, hI, atv_nI hp (by omega), e, nI_sb hbs, show (365 : Int32) = nI 365 from rfl, fdiv_nI (by omega) (by omega) (by omega), ob1_some]
    unfold agv
    rw [e, nI_tn (by omega)]
  · rw [if_neg h, if_pos rfl, if_neg h]
theorem age_m {I : OI} {R Rk : RI} {s p : Nat} (hs : s ≤ 30000) (hL : LF R Rk) (hC : CL (nI s) Rk) (hp : p < 24) : f_X6_ageOf I R (nI p) (nI s) = some (if Rk 1 p = 1 then nI (agv (Rk 7) s p) else -1) := by
  unfold f_X6_ageOf
  rw [og_nI hp (by omega), nI_tn (bd4 hp), ← hL.st p hp]
  by_cases h : Rk 1 p = 1
  · obtain ⟨b, hb, e, hbs⟩ := hC.bn p hp (Or.inl h)
    have e7 := hL.bd p hp
    rw [e, n_le (by omega) (by omega)] at hbs
    rw [if_pos h, if_pos h, og_nI hp (by omega), ← e7, e, nI_sb hbs, show (365 : Int32) = nI 365 from rfl, nI_div (by omega) (by omega)]
    unfold agv
    rw [e, nI_tn (by omega)]
  · rw [if_neg h, if_neg h]
theorem areIn_at {I : OI} {R : RI} {cm : Option Nat} {p q : Int32} : f_X2_areInOneDwelling I R cm p q = some (if lvg R p ∧ lvg R q ∧ atv 24 (R 2) p = atv 24 (R 2) q then 1 else 0) := by
  unfold f_X2_areInOneDwelling
  rw [isLiving_at, ob1_ite]
  by_cases h1 : lvg R p
  · rw [if_pos h1, if_neg one0, isLiving_at, ob1_ite]
    by_cases h2 : lvg R q
    · rw [if_pos h2, if_neg one0]
      by_cases h3 : atv 24 (R 2) p = atv 24 (R 2) q
      · rw [if_pos h3, if_pos ⟨h1, h2, h3⟩]
      · rw [if_neg h3, if_neg (fun h => h3 h.2.2)]
    · rw [if_neg h2, if_pos rfl, if_neg (fun h => h2 h.2.1)]
  · rw [if_neg h1, if_pos rfl, if_neg (fun h => h1 h.1)]
/-! who is lowest: labels that are alike along edges -/
abbrev CE (E : Nat → Nat → Prop) (f : Nat → Nat) : Prop := ∀ p q, p < 24 → q < 24 → E p q → f p = f q
abbrev LB (E : Nat → Nat → Prop) (lo : Nat → Nat) : Prop := (∀ p, p < 24 → lo p ≤ p) ∧ (∀ f, CE E f → ∀ p, p < 24 → f (lo p) = f p)
theorem lb_le {E : Nat → Nat → Prop} {lo ho : Nat → Nat} (h1 : LB E lo) (c1 : CE E lo) (h2 : LB E ho) {p : Nat} (hp : p < 24) : lo p ≤ ho p := by
  have e1 := h2.2 lo c1 p hp
  have e2 := h2.1 p hp
  have e3 := h1.1 (ho p) (by omega)
  omega
theorem lb_one {E : Nat → Nat → Prop} {lo ho : Nat → Nat} (h1 : LB E lo) (c1 : CE E lo) (h2 : LB E ho) (c2 : CE E ho) {p : Nat} (hp : p < 24) : lo p = ho p :=
  Nat.le_antisymm (lb_le h1 c1 h2 hp) (lb_le h2 c2 h1 hp)
def uni (lo : Nat → Nat) (a b : Nat) (x : Nat) : Nat := if lo x = max (lo a) (lo b) then min (lo a) (lo b) else lo x
theorem uni_lb {E : Nat → Nat → Prop} {lo : Nat → Nat} (h : LB E lo) {a b : Nat} (ha : a < 24) (hb : b < 24) (e : E a b) : LB E (uni lo a b) := by
  refine ⟨fun p hp => ?_, fun f hf p hp => ?_⟩
  · have := h.1 p hp
    unfold uni
    split
    · omega
    · exact this
  · have e1 := h.2 f hf p hp
    have e2 := h.2 f hf a ha
    have e3 := h.2 f hf b hb
    have e4 := hf a b ha hb e
    unfold uni
    split
    · rename_i h9
      rw [h9] at e1
      rcases Nat.le_total (lo a) (lo b) with h8 | h8
      · rw [Nat.min_eq_left h8]
        rw [Nat.max_eq_right h8] at e1
        omega
      · rw [Nat.min_eq_right h8]
        rw [Nat.max_eq_left h8] at e1
        omega
    · exact e1
theorem uni_eq {lo : Nat → Nat} {a b : Nat} : uni lo a b a = uni lo a b b := by
  unfold uni
  rcases Nat.le_total (lo a) (lo b) with h8 | h8
  · rw [Nat.min_eq_left h8, Nat.max_eq_right h8, if_pos rfl]
    split <;> rfl
  · rw [Nat.min_eq_right h8, Nat.max_eq_left h8, if_pos rfl]
    split <;> rfl
theorem uni_keep {lo : Nat → Nat} {a b x y : Nat} (h : lo x = lo y) : uni lo a b x = uni lo a b y := by
  unfold uni
  rw [h]
end PAg
