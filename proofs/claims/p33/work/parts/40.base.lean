/-! ===== PURE: numbers, rows, loops ===== -/
section PB
theorem n_ti {n : Nat} (h : n < 2147483648) : (nI n).toInt = (n : Int) := by
  unfold nI
  rw [Int32.toInt_ofNat_of_lt (by simpa using h)]
theorem nI_tn {n : Nat} (h : n < 2147483648) : (nI n).toNatClampNeg = n := by
  show (nI n).toInt.toNat = n
  rw [n_ti h]
  omega
theorem n_lt {a b : Nat} (ha : a < 2147483648) (hb : b < 2147483648) : nI a < nI b ↔ a < b := by
  rw [Int32.lt_iff_toInt_lt, n_ti ha, n_ti hb]
  omega
theorem n_le {a b : Nat} (ha : a < 2147483648) (hb : b < 2147483648) : nI a ≤ nI b ↔ a ≤ b := by
  rw [Int32.le_iff_toInt_le, n_ti ha, n_ti hb]
  omega
theorem n_eq {a b : Nat} (ha : a < 2147483648) (hb : b < 2147483648) : nI a = nI b ↔ a = b := by
  rw [← Int32.toInt_inj, n_ti ha, n_ti hb]
  omega
theorem nI_nn {a : Nat} (ha : a < 2147483648) : ¬ nI a < 0 := by
  rw [Int32.lt_iff_toInt_lt, n_ti ha]
  simp
theorem nI_m1 {a : Nat} (ha : a < 2147483648) : ¬ nI a = -1 := by
  rw [← Int32.toInt_inj, n_ti ha]
  have : (-1 : Int32).toInt = -1 := by decide
  omega
theorem nI_ad {a b : Nat} : nI a + nI b = nI (a + b) := by
  unfold nI
  rw [Int32.ofNat_add]
theorem nI_s1 {a : Nat} : nI a + 1 = nI (a + 1) := nI_ad (b := 1)
theorem nI_s9 {a : Nat} : nI a + Int32.ofInt 1 = nI (a + 1) := nI_ad (b := 1)
theorem nI_p9 {a : Nat} : nI (a + 1) + Int32.ofInt (-1) = nI a := by
  have e : nI (a + 1) = nI a + 1 := nI_s1.symm
  rw [e, Int32.add_assoc]
  exact Int32.add_zero _
theorem nI_p1 {a : Nat} : nI (a + 1) - 1 = nI a := by
  have e : nI (a + 1) = nI a + 1 := nI_s1.symm
  rw [e]
  exact Int32.add_sub_cancel _ _
/-- a number is one of the first n -/
theorem n_of {x : Int32} {n : Nat} (h0 : ¬ x < 0) (h1 : x < nI n) (hn : n < 2147483648) : ∃ j, j < n ∧ x = nI j := by
  rw [Int32.lt_iff_toInt_lt] at h0 h1
  rw [n_ti hn] at h1
  have e0 : (0 : Int32).toInt = 0 := by decide
  rw [e0] at h0
  refine ⟨x.toInt.toNat, by omega, ?_⟩
  rw [← Int32.toInt_inj, n_ti (by omega)]
  omega
theorem og_nI {O : Type} {a n : Nat} {k : Option O} (h : a < n) (hn : n < 2147483648) : og (nI a) n k = k := by
  unfold og
  rw [if_neg]
  rintro (h1 | h1)
  · exact nI_nn (by omega) h1
  · rw [nI_tn (by omega)] at h1
    omega
theorem atv_nI {n a : Nat} {g : Nat → Int32} (h : a < n) (hn : n < 2147483648) : atv n g (nI a) = g a := by
  unfold atv
  rw [if_neg, nI_tn (by omega)]
  rintro (h1 | h1)
  · exact nI_nn (by omega) h1
  · rw [n_le hn (by omega)] at h1
    omega
theorem atv_m1 {n : Nat} {g : Nat → Int32} : atv n g (-1) = -1 := by
  unfold atv
  rw [if_pos (Or.inl (by decide))]
theorem isv_nI {n a : Nat} {g : Nat → Int32} (h : a < n) (hn : n < 2147483648) : isv n g (nI a) = if g a = 0 then 0 else 1 := by
  unfold isv
  rw [if_neg, nI_tn (by omega)]
  rintro (h1 | h1)
  · exact nI_nn (by omega) h1
  · rw [n_le hn (by omega)] at h1
    omega
theorem putv_nI {n a : Nat} {g : Nat → Int32} {x : Int32} (h : a < n) (hn : n < 2147483648) : putv n g (nI a) x = upd g a x := by
  unfold putv
  rw [if_neg, nI_tn (by omega)]
  rintro (h1 | h1)
  · exact nI_nn (by omega) h1
  · rw [n_le hn (by omega)] at h1
    omega
theorem putv_m1 {n : Nat} {g : Nat → Int32} {x : Int32} : putv n g (-1) x = g := by
  unfold putv
  rw [if_pos (Or.inl (by decide))]
theorem setv_nI {n a : Nat} {g : Nat → Int32} {x : Int32} (h : a < n) (hn : n < 2147483648) : setv n g (nI a) x = upd g a (vp_nar .boolean x) := by
  unfold setv
  rw [if_neg, nI_tn (by omega)]
  rintro (h1 | h1)
  · exact nI_nn (by omega) h1
  · rw [n_le hn (by omega)] at h1
    omega
theorem upd_same {g : Nat → Int32} {a : Nat} {x : Int32} : upd g a x a = x := by simp [upd]
theorem upd_ne {g : Nat → Int32} {a b : Nat} {x : Int32} (h : b ≠ a) : upd g a x b = g b := by simp [upd, h]
theorem up_same {α : Type} {f : Nat → α} {a : Nat} {x : α} : va_up f a x a = x := by simp [va_up]
theorem up_ne {α : Type} {f : Nat → α} {a b : Nat} {x : α} (h : b ≠ a) : va_up f a x b = f b := by simp [va_up, h]
theorem om_mem {O : Type} {a : Nat} {L : List Nat} {k : Option O} (h : a ∈ L) : om a L k = k := by simp [om, h]
theorem ol_eq {α O : Type} {x : α} {K : α → Option O} : ol x K = K x := rfl
theorem ob1_some {P O : Type} {r : P} {K : P → Option O} : ob1 (some r) K = K r := rfl
theorem ob2_some {P Q O : Type} {r : P × Q} {K : P → Q → Option O} : ob2 (some r) K = K r.1 r.2 := rfl
theorem ob3_some {P Q S O : Type} {r : P × Q × S} {K : P → Q → S → Option O} : ob3 (some r) K = K r.1 r.2.1 r.2.2 := rfl
theorem oz_0 {O : Type} {k : Option O} : oz 0 k = k := by simp [oz]
theorem oz_1 {O : Type} {k : Option O} : oz 1 k = k := by simp [oz]
theorem oc_some {O : Type} {a : Nat} {fA : Option O} {K : Nat → Option O} : oc (some a) fA K = K a := rfl
theorem oc_none {O : Type} {fA : Option O} {K : Nat → Option O} : oc none fA K = fA := rfl
theorem oq_some {O : Type} {a : Nat} {K : Nat → Option O} : oq (some a) K = K a := rfl
theorem nar_0 : vp_nar .boolean 0 = 0 := by decide
theorem nar_1 : vp_nar .boolean 1 = 1 := by decide
/-- a loop that counts up -/
theorem loop_up {S O : Type} {F : Nat → S → Int32 → Option O} {n : Nat} {P : Nat → S → Prop} {Q : O → Prop}
    (hs : ∀ m j s, j < n → P j s → ∃ s', F (m + 1) s (nI j) = F m s' (nI (j + 1)) ∧ P (j + 1) s')
    (he : ∀ m s, P n s → ∃ o, F (m + 1) s (nI n) = some o ∧ Q o) : ∀ (c j : Nat) (s : S) (m : Nat), j + c = n → P j s → c < m → ∃ o, F m s (nI j) = some o ∧ Q o
  | 0, j, s, m, hj, hp, hm => by
    obtain ⟨m, rfl⟩ : ∃ m', m = m' + 1 := ⟨m - 1, by omega⟩
    obtain rfl : j = n := by omega
    exact he m s hp
  | c + 1, j, s, m, hj, hp, hm => by
    obtain ⟨m, rfl⟩ : ∃ m', m = m' + 1 := ⟨m - 1, by omega⟩
    obtain ⟨s', h1, h2⟩ := hs m j s (by omega) hp
    rw [h1]
    exact loop_up hs he c (j + 1) s' m (by omega) h2 (by omega)
end PB
