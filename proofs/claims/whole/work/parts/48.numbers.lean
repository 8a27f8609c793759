/-! ===== PURE: the numbers for life ===== -/
section PNum
def chk (s : Nat) : Nat := (2 * (s / 1000) + 3 * (s / 100 % 10) + 4 * (s / 10 % 10) + 5 * (s % 10)) % 11
theorem chk_m {s : Nat} (hs : s < 100000) : f_X6_checkOf (nI s) = some (nI (chk s)) := by
  have e1 : (nI s / 100) = nI (s / 100) := nI_div (b := 100) (by omega) (by omega)
  have e2 : (nI s / 10) = nI (s / 10) := nI_div (b := 10) (by omega) (by omega)
  have e3 : (nI s / 1000) = nI (s / 1000) := nI_div (b := 1000) (by omega) (by omega)
  have m1 : nI (s / 100) - nI (s / 100) / 10 * 10 = nI (s / 100 % 10) := nI_mod (b := 10) (by omega) (by omega)
  have m2 : nI (s / 10) - nI (s / 10) / 10 * 10 = nI (s / 10 % 10) := nI_mod (b := 10) (by omega) (by omega)
  have m3 : nI s - nI s / 10 * 10 = nI (s % 10) := nI_mod (b := 10) (by omega) (by omega)
  unfold f_X6_checkOf
  simp only [ol_eq]
  rw [m3, e1, e2, e3, m1, m2, show (2 : Int32) = nI 2 from rfl, show (3 : Int32) = nI 3 from rfl, show (4 : Int32) = nI 4 from rfl, show (5 : Int32) = nI 5 from rfl, nI_mul, nI_mul, nI_mul, nI_mul, nI_ad, nI_ad, nI_ad]
  exact congrArg some (nI_mod (b := 11) (by omega) (by omega))
theorem chk_c {s : Nat} (hs : s < 10000) : f_X3_checkOf (nI s) = some (nI (chk s)) := by
  have e1 : (nI s / 100) = nI (s / 100) := nI_div (b := 100) (by omega) (by omega)
  have e2 : (nI s / 10) = nI (s / 10) := nI_div (b := 10) (by omega) (by omega)
  have e3 : (nI s / 1000) = nI (s / 1000) := nI_div (b := 1000) (by omega) (by omega)
  have m1 : nI (s / 100) - nI (s / 100) / 10 * 10 = nI (s / 100 % 10) := nI_mod (b := 10) (by omega) (by omega)
  have m2 : nI (s / 10) - nI (s / 10) / 10 * 10 = nI (s / 10 % 10) := nI_mod (b := 10) (by omega) (by omega)
  have m3 : nI s - nI s / 10 * 10 = nI (s % 10) := nI_mod (b := 10) (by omega) (by omega)
  have m4 : nI (s / 1000) - nI (s / 1000) / 10 * 10 = nI (s / 1000 % 10) := nI_mod (b := 10) (by omega) (by omega)
  unfold f_X3_checkOf
  simp only [ol_eq]
  rw [m3, e1, e2, e3, m1, m2, m4, show (2 : Int32) = nI 2 from rfl, show (3 : Int32) = nI 3 from rfl, show (4 : Int32) = nI 4 from rfl, show (5 : Int32) = nI 5 from rfl, nI_mul, nI_mul, nI_mul, nI_mul, nI_ad, nI_ad, nI_ad]
  have : s / 1000 % 10 = s / 1000 := by omega
  rw [this]
  exact congrArg some (nI_mod (b := 11) (by omega) (by omega))
end PNum
def nx (s : Nat) : Nat := if chk (s + 1) = 10 then (if chk (s + 2) = 10 then s + 3 else s + 2) else s + 1
def ser : Nat → Nat
  | 0 => 1000
  | g + 1 => nx (ser g)
theorem ser_ok : ∀ g, g < 61 → 1000 ≤ ser g ∧ ser g ≤ 2000 ∧ chk (ser (g + 1)) ≠ 10 ∧ (ser (g + 1) = ser g + 1 ∨ ser (g + 1) = ser g + 2 ∧ chk (ser g + 1) = 10) := by decide +kernel
