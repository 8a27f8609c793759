/-! ===== PURE: divisions of small numbers ===== -/
section PD
theorem nI_div {a b : Nat} (ha : a < 2147483648) (hb : b < 2147483648) : nI a / nI b = nI (a / b) := by
  have h1 : a / b ≤ a := Nat.div_le_self a b
  rw [← Int32.toInt_inj, Int32.toInt_div, n_ti ha, n_ti hb, n_ti (by omega)]
  rw [show ((a : Int).tdiv (b : Int)) = ((a / b : Nat) : Int) by
    rw [Int.ofNat_tdiv]]
  have key : ∀ c : Nat, c ≤ a → Int.bmod (c : Int) (2 ^ 32) = (c : Int) := fun c hc => Int.bmod_eq_of_le (by omega) (by omega)
  exact key (a / b) h1
theorem nI_mul {a b : Nat} : nI a * nI b = nI (a * b) := by
  unfold nI
  rw [Int32.ofNat_mul]
theorem nI_sb {a b : Nat} (h : b ≤ a) : nI a - nI b = nI (a - b) := by
  have e : nI a = nI (a - b) + nI b := by rw [nI_ad]; congr 1; omega
  rw [e, Int32.add_sub_cancel]
theorem nI_mod {a b : Nat} (ha : a < 2147483648) (hb : b < 2147483648) : nI a - nI a / nI b * nI b = nI (a % b) := by
  rw [nI_div ha hb, nI_mul, nI_sb (Nat.div_mul_le_self a b)]
  congr 1
  have := Nat.div_add_mod a b
  rw [Nat.mul_comm] at this
  omega
end PD
