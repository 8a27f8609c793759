/-! ===== PURE: telling, the reference's side ===== -/
section PTm
/-- the rows with one more act -/
def tR (R : RI) (n : Nat) (dd x1 x2 x3 x4 x5 x6 : Int32) : RI := va_up (va_up (va_up (va_up (va_up (va_up (va_up (va_up R 0 (upd (R 0) n x1)) 1 (upd (R 1) n dd)) 2 (upd (R 2) n x2)) 3 (upd (R 3) n x3)) 4 (upd (R 4) n x4)) 5 (upd (R 5) n x5)) 6 (upd (R 6) n x6)) 7 (upd (R 7) n (-1))
section rows
variable {R : RI} {n : Nat} {dd x1 x2 x3 x4 x5 x6 : Int32}
theorem tR0 (i : Nat) : tR R n dd x1 x2 x3 x4 x5 x6 0 i = if i = n then x1 else R 0 i := rfl
theorem tR1 (i : Nat) : tR R n dd x1 x2 x3 x4 x5 x6 1 i = if i = n then dd else R 1 i := rfl
theorem tR2 (i : Nat) : tR R n dd x1 x2 x3 x4 x5 x6 2 i = if i = n then x2 else R 2 i := rfl
theorem tR3 (i : Nat) : tR R n dd x1 x2 x3 x4 x5 x6 3 i = if i = n then x3 else R 3 i := rfl
theorem tR4 (i : Nat) : tR R n dd x1 x2 x3 x4 x5 x6 4 i = if i = n then x4 else R 4 i := rfl
theorem tR5 (i : Nat) : tR R n dd x1 x2 x3 x4 x5 x6 5 i = if i = n then x5 else R 5 i := rfl
theorem tR6 (i : Nat) : tR R n dd x1 x2 x3 x4 x5 x6 6 i = if i = n then x6 else R 6 i := rfl
theorem tR7 (i : Nat) : tR R n dd x1 x2 x3 x4 x5 x6 7 i = if i = n then -1 else R 7 i := rfl
theorem tR_hi {c : Nat} (hc : 8 ≤ c) : tR R n dd x1 x2 x3 x4 x5 x6 c = R c := by
  unfold tR
  rw [up_ne (by omega), up_ne (by omega), up_ne (by omega), up_ne (by omega), up_ne (by omega), up_ne (by omega), up_ne (by omega), up_ne (by omega)]
theorem tR_lo {c i : Nat} (hc : c < 8) (hi : i < n) : tR R n dd x1 x2 x3 x4 x5 x6 c i = R c i := by
  have hn : i ≠ n := by omega
  match c, hc with
  | 0, _ => rw [tR0, if_neg hn]
  | 1, _ => rw [tR1, if_neg hn]
  | 2, _ => rw [tR2, if_neg hn]
  | 3, _ => rw [tR3, if_neg hn]
  | 4, _ => rw [tR4, if_neg hn]
  | 5, _ => rw [tR5, if_neg hn]
  | 6, _ => rw [tR6, if_neg hn]
  | 7, _ => rw [tR7, if_neg hn]
end rows
/-- an order with n put in at p -/
def insA (p n : Nat) (od : Nat → Nat) (i : Nat) : Nat := if i < p then od i else if i = p then n else od (i - 1)
theorem insA_lt {p n : Nat} {od : Nat → Nat} {i : Nat} (h : i < p) : insA p n od i = od i := by unfold insA; rw [if_pos h]
theorem insA_at {p n : Nat} {od : Nat → Nat} : insA p n od p = n := by unfold insA; rw [if_neg (Nat.lt_irrefl p), if_pos rfl]
theorem insA_gt {p n : Nat} {od : Nat → Nat} {i : Nat} (h : p < i) : insA p n od i = od (i - 1) := by unfold insA; rw [if_neg (by omega), if_neg (by omega)]
theorem tell_l {N n m : Nat} {I : OI} {R0 : RI} {od : Nat → Nat} {x : Int32} (hn : n < 150) (hmn : m ≤ n) (ho : ∀ j, j < m → od j < n) (hI : I 2 = nI n) : ∀ (j f : Nat) (R : RI), j ≤ m → (∀ c, c ≠ 8 → R c = R0 c) → (∀ i, i < j → R 8 i = nI (od i)) → (∀ i, j < i → i ≤ m → R 8 i = nI (od (i - 1))) → (∀ i, j ≤ i → i < m → x < R0 2 (od i)) → j < f →
    ∃ p R', p ≤ m ∧ f_X6_tell_l98 N f I R x (nI j) = f_X6_tell_j164 N (va_up I 3 (I 3 + 1)) R' ∧ (∀ c, c ≠ 8 → R' c = R0 c) ∧ (∀ i, i ≤ m → R' 8 i = nI (insA p n od i)) ∧ (∀ i, p ≤ i → i < m → x < R0 2 (od i)) ∧ (0 < p → R0 2 (od (p - 1)) ≤ x)
  | j, 0, R, _, _, _, _, _, h => absurd h (by omega)
  | j, f + 1, R, hj, hs, hl, hg, hx, hf => by
    have done : ∃ R', f_X6_tell_j143 N I R (nI j) = f_X6_tell_j164 N (va_up I 3 (I 3 + 1)) R' ∧ (∀ c, c ≠ 8 → R' c = R0 c) ∧ (∀ i, i ≤ m → R' 8 i = nI (insA j n od i)) := by
      refine ⟨va_up R 8 (upd (R 8) j (nI n)), ?_, fun c hc => by rw [up_ne hc]; exact hs c hc, fun i hi => ?_⟩
      · unfold f_X6_tell_j143
        rw [og_nI (by omega) (by omega), nI_tn (by omega), hI, ol_eq, ol_eq]
      · rw [up_same, upd_at]
        by_cases e : i = j
        · rw [if_pos e, e, insA_at]
        · rw [if_neg e]
          by_cases e2 : i < j
          · rw [insA_lt e2]; exact hl i e2
          · rw [insA_gt (by omega)]; exact hg i (by omega) hi
    obtain ⟨R', d1, d2, d3⟩ := done
    show ∃ p R', p ≤ m ∧ f_X6_tell_l98b N (f_X6_tell_l98 N f) I R x (nI j) = _ ∧ _
    unfold f_X6_tell_l98b
    by_cases h0 : j = 0
    · subst h0
      rw [if_pos (show nI 0 ≤ (0 : Int32) by decide)]
      exact ⟨0, R', by omega, d1, d2, d3, hx, fun h => absurd h (by omega)⟩
    · obtain ⟨j, rfl⟩ : ∃ z, j = z + 1 := ⟨j - 1, by omega⟩
      have ho' := ho j (by omega)
      rw [if_neg (fun e => by have := (n_le (b := 0) (by omega) (by omega)).mp e; omega), nI_p1, og_nI (by omega) (by omega), nI_tn (by omega), hl j (by omega), og_nI (by omega) (by omega), nI_tn (by omega), hs 2 (by omega)]
      by_cases h1 : R0 2 (od j) ≤ x
      · rw [if_pos h1]
        exact ⟨j + 1, R', hj, d1, d2, d3, hx, fun _ => h1⟩
      · rw [if_neg h1, og_nI (by omega) (by omega), og_nI (by omega) (by omega), nI_tn (by omega), ol_eq, ol_eq, nI_p9]
        refine tell_l hn hmn ho hI j f _ (by omega) (fun c hc => by rw [up_ne hc]; exact hs c hc) (fun i hi => ?_) (fun i h2 h3 => ?_) (fun i h2 h3 => ?_) (by omega)
        · rw [up_same, upd_ne (by omega)]; exact hl i (by omega)
        · rw [up_same, upd_at]
          by_cases e : i = j + 1
          · rw [if_pos e, e, Nat.add_sub_cancel]
          · rw [if_neg e]; exact hg i (by omega) h3
        · by_cases e : i = j
          · rw [e]; exact Int32.not_le.mp h1
          · exact hx i (by omega) h3
theorem tell_m {N n : Nat} {I : OI} {R : RI} {x1 x2 x3 x4 x5 x6 : Int32} (hn : n < 150) (hI : I 2 = nI n) : f_X6_tell N I R x1 x2 x3 x4 x5 x6 = if 7 ≤ x1 then f_X6_tell_j164 N I (tR R n (I 1) x1 x2 x3 x4 x5 x6) else f_X6_tell_l98 N N I (tR R n (I 1) x1 x2 x3 x4 x5 x6) x2 (I 3) := by
  unfold f_X6_tell tR
  simp only [hI, og_nI hn (show 150 < 2147483648 by omega), nI_tn (show n < 2147483648 by omega), ol_eq]
  rfl
theorem j164_m {N n : Nat} {I : OI} {R : RI} (hI : I 2 = nI n) : f_X6_tell_j164 N I R = some (nI n, va_up I 2 (nI (n + 1)), R) := by
  unfold f_X6_tell_j164
  rw [ol_eq, up_same, hI, nI_s1, nI_p1]
/-- the reference tells an act that has a day -/
theorem tell_day {N n m : Nat} {I : OI} {R : RI} {od : Nat → Nat} {x1 x2 x3 x4 x5 x6 : Int32} (hN : 200 ≤ N) (hn : n < 150) (hmn : m ≤ n) (ho : ∀ j, j < m → od j < n ∧ R 8 j = nI (od j)) (hI : I 2 = nI n) (hI3 : I 3 = nI m) (hx : ¬ 7 ≤ x1) :
    ∃ p R', p ≤ m ∧ f_X6_tell N I R x1 x2 x3 x4 x5 x6 = some (nI n, va_up (va_up I 3 (nI (m + 1))) 2 (nI (n + 1)), R') ∧ (∀ c, c ≠ 8 → R' c = tR R n (I 1) x1 x2 x3 x4 x5 x6 c) ∧ (∀ i, i ≤ m → R' 8 i = nI (insA p n od i)) ∧ (∀ i, p ≤ i → i < m → x2 < R 2 (od i)) ∧ (0 < p → R 2 (od (p - 1)) ≤ x2) := by
  have e2 : ∀ i, i < m → tR R n (I 1) x1 x2 x3 x4 x5 x6 2 (od i) = R 2 (od i) := fun i hi => tR_lo (by omega) (ho i hi).1
  obtain ⟨p, R', h1, h2, h3, h4, h5, h6⟩ := tell_l (N := N) (x := x2) (R0 := tR R n (I 1) x1 x2 x3 x4 x5 x6) hn hmn (fun j hj => (ho j hj).1) hI m N (tR R n (I 1) x1 x2 x3 x4 x5 x6) (Nat.le_refl m) (fun _ _ => rfl) (fun i hi => by rw [tR_hi (by omega)]; exact (ho i hi).2) (fun i z1 z2 => by omega) (fun i z1 z2 => by omega) (by omega)
  refine ⟨p, R', h1, ?_, h3, h4, fun i z1 z2 => by rw [← e2 i z2]; exact h5 i z1 z2, fun z => by rw [← e2 (p - 1) (by omega)]; exact h6 z⟩
  rw [tell_m hn hI, if_neg hx, hI3, h2, hI3, nI_s1]
  exact j164_m (by rw [up_ne (by omega)]; exact hI)
/-- .. and one that has none -/
theorem tell_none {N n : Nat} {I : OI} {R : RI} {x1 x2 x3 x4 x5 x6 : Int32} (hn : n < 150) (hI : I 2 = nI n) (hx : 7 ≤ x1) : f_X6_tell N I R x1 x2 x3 x4 x5 x6 = some (nI n, va_up I 2 (nI (n + 1)), tR R n (I 1) x1 x2 x3 x4 x5 x6) := by
  rw [tell_m hn hI, if_pos hx]
  exact j164_m hI
end PTm
