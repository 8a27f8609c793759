/-! ===== PURE: numbers, bars, looks, acts that are asked ===== -/
section PNu
theorem ser_inj : ∀ i, i < 60 → ∀ j, j < 60 → 10 * ser (i + 1) + chk (ser (i + 1)) = 10 * ser (j + 1) + chk (ser (j + 1)) → i = j := by decide +kernel
theorem ser_ok2 : ∀ j, j < 60 → 1001 ≤ ser (j + 1) ∧ ser (j + 1) ≤ 9999 ∧ chk (ser (j + 1)) < 10 := by decide +kernel
/-- the last of those that have it -/
theorem last_of {q : Nat → Prop} (dq : ∀ j, Decidable (q j)) : ∀ g, (∃ j, j < g ∧ q j) → ∃ j, j < g ∧ q j ∧ ∀ i, j < i → i < g → ¬ q i
  | 0, ⟨j, h, _⟩ => absurd h (Nat.not_lt_zero j)
  | g + 1, ⟨j, h, hq⟩ => by
    cases dq g with
    | isTrue hg => exact ⟨g, by omega, hg, fun i h1 h2 => by omega⟩
    | isFalse hg =>
      have hj : j < g := by
        by_cases e : j = g
        · exact absurd (e ▸ hq) hg
        · omega
      obtain ⟨k, h1, h2, h3⟩ := last_of dq g ⟨j, hj, hq⟩
      exact ⟨k, by omega, h2, fun i h4 h5 => by
        by_cases e : i = g
        · rw [e]; exact hg
        · exact h3 i h4 (by omega)⟩
section two
variable {N g P : Nat} {I In : OI} {R Rn : RI}
theorem num_c (hg : g ≤ 60) (h0 : ∀ j, j < g → Rn 0 j = R 9 j) (h1 : ∀ j, j < g → Rn 1 j = R 10 j) {x : Int32} {j : Nat} (hj : j < g) (hx : R 10 j = x) : ∀ (c f : Nat), j + c < g → (∀ i, j < i → i < g → R 10 i ≠ x) → c < f → f_X3_lastOf_l7 N In Rn f x (nI (j + c)) = some (R 9 j)
  | c, 0, _, _, hf => absurd hf (by omega)
  | 0, f + 1, hc, hn, hf => by
    show f_X3_lastOf_l7b N In Rn (f_X3_lastOf_l7 N In Rn f) x (nI (j + 0)) = _
    unfold f_X3_lastOf_l7b
    rw [Nat.add_zero, if_neg (nI_nn (by omega)), atv_nI (by omega) (by omega), atv_nI (by omega) (by omega), h1 j hj, if_pos hx, h0 j hj]
  | c + 1, f + 1, hc, hn, hf => by
    show f_X3_lastOf_l7b N In Rn (f_X3_lastOf_l7 N In Rn f) x (nI (j + (c + 1))) = _
    unfold f_X3_lastOf_l7b
    rw [if_neg (nI_nn (by omega)), atv_nI (by omega) (by omega), h1 _ hc, if_neg (hn _ (by omega) hc), ol_eq, show j + (c + 1) = (j + c) + 1 by omega, nI_p9]
    exact num_c hg h0 h1 hj hx c f (by omega) hn (by omega)
theorem num_m1 (hg : g ≤ 60) (h5 : I 5 = nI g) {x : Int32} : ∀ (c i : Nat) (y : Int32) (f : Nat), i + c = g → (∀ z, i ≤ z → z < g → R 10 z ≠ x) → c < f → f_X6_number_l26 N R f I x y (nI i) = some (y, I)
  | c, i, y, 0, _, _, hf => absurd hf (by omega)
  | 0, i, y, f + 1, hi, hn, hf => by
    show f_X6_number_l26b N R (f_X6_number_l26 N R f) I x y (nI i) = _
    unfold f_X6_number_l26b
    rw [h5, if_pos ((n_le (by omega) (by omega)).mpr (by omega))]
  | c + 1, i, y, f + 1, hi, hn, hf => by
    show f_X6_number_l26b N R (f_X6_number_l26 N R f) I x y (nI i) = _
    unfold f_X6_number_l26b
    rw [h5, if_neg (fun e => by have := (n_le (by omega) (by omega)).mp e; omega), og_nI (by omega) (by omega), nI_tn (by omega), if_neg (hn i (Nat.le_refl _) (by omega)), ol_eq, nI_s9]
    exact num_m1 hg h5 c (i + 1) y f (by omega) (fun z h1 h2 => hn z (by omega) h2) (by omega)
theorem num_m (hg : g ≤ 60) (h5 : I 5 = nI g) {x : Int32} {j : Nat} (hj : j < g) (hx : R 10 j = x) (hn : ∀ i, j < i → i < g → R 10 i ≠ x) : ∀ (c i : Nat) (y : Int32) (f : Nat), i + c = j → c + g + 1 < f → f_X6_number_l26 N R f I x y (nI i) = some (R 9 j, I)
  | c, i, y, 0, _, hf => absurd hf (by omega)
  | 0, i, y, f + 1, hi, hf => by
    obtain rfl : i = j := by omega
    show f_X6_number_l26b N R (f_X6_number_l26 N R f) I x y (nI i) = _
    unfold f_X6_number_l26b
    rw [h5, if_neg (fun e => by have := (n_le (by omega) (by omega)).mp e; omega), og_nI (by omega) (by omega), nI_tn (by omega), if_pos hx, og_nI (by omega) (by omega), ol_eq, ol_eq, nI_s9]
    exact num_m1 hg h5 (g - (i + 1)) (i + 1) _ f (by omega) (fun z h1 h2 => hn z (by omega) h2) (by omega)
  | c + 1, i, y, f + 1, hi, hf => by
    show f_X6_number_l26b N R (f_X6_number_l26 N R f) I x y (nI i) = _
    unfold f_X6_number_l26b
    rw [h5, if_neg (fun e => by have := (n_le (by omega) (by omega)).mp e; omega), og_nI (by omega) (by omega), nI_tn (by omega), og_nI (by omega) (by omega), ol_eq, ol_eq, ol_eq, nI_s9]
    split
    · exact num_m hg h5 hj hx hn c (i + 1) _ f (by omega) (by omega)
    · exact num_m hg h5 hj hx hn c (i + 1) _ f (by omega) (by omega)
/-- to whom a number leads, in both -/
theorem bear_m (hg : g ≤ 60) (h5 : I 5 = nI g) {x : Int32} : ∀ (c i : Nat) (y : Int32) (f : Nat), i + c = g → c < f → (∀ z, i ≤ z → z < g → R 9 z ≠ x) → f_X6_bearer_l55 N R f I x y (nI i) = some (y, I)
  | c, i, y, 0, _, hf, _ => absurd hf (by omega)
  | 0, i, y, f + 1, hi, hf, hn => by
    show f_X6_bearer_l55b N R (f_X6_bearer_l55 N R f) I x y (nI i) = _
    unfold f_X6_bearer_l55b
    rw [h5, if_pos ((n_le (by omega) (by omega)).mpr (by omega))]
  | c + 1, i, y, f + 1, hi, hf, hn => by
    show f_X6_bearer_l55b N R (f_X6_bearer_l55 N R f) I x y (nI i) = _
    unfold f_X6_bearer_l55b
    rw [h5, if_neg (fun e => by have := (n_le (by omega) (by omega)).mp e; omega), og_nI (by omega) (by omega), nI_tn (by omega), if_neg (hn i (Nat.le_refl _) (by omega)), ol_eq, nI_s9]
    exact bear_m hg h5 c (i + 1) y f (by omega) (by omega) (fun z h1 h2 => hn z (by omega) h2)
theorem bear_both (hg : g ≤ 60) (h5 : I 5 = nI g) (hn0 : In 0 = nI g) (h0 : ∀ j, j < g → Rn 0 j = R 9 j) (h1 : ∀ j, j < g → Rn 1 j = R 10 j) (hs : ∀ j, j < g → R 9 j = nI (10 * ser (j + 1) + chk (ser (j + 1)))) {x : Int32} : ∀ (c i f f' : Nat), i + c = g → c < f → c < f' → ∃ v, f_X3_personOf_l2 N In Rn f x (nI i) = some v ∧ f_X6_bearer_l55 N R f' I x (-1) (nI i) = some (v, I)
  | c, i, 0, f', _, hf, _ => absurd hf (by omega)
  | c, i, f, 0, _, _, hf => absurd hf (by omega)
  | 0, i, f + 1, f' + 1, hi, hf, hf' => by
    refine ⟨-1, ?_, bear_m hg h5 0 i (-1) (f' + 1) hi hf' (fun z z1 z2 => by omega)⟩
    show f_X3_personOf_l2b N In Rn (f_X3_personOf_l2 N In Rn f) x (nI i) = _
    unfold f_X3_personOf_l2b
    rw [hn0, if_pos ((n_le (by omega) (by omega)).mpr (by omega))]
  | c + 1, i, f + 1, f' + 1, hi, hf, hf' => by
    have hig : i < g := by omega
    by_cases e : R 9 i = x
    · refine ⟨R 10 i, ?_, ?_⟩
      · show f_X3_personOf_l2b N In Rn (f_X3_personOf_l2 N In Rn f) x (nI i) = _
        unfold f_X3_personOf_l2b
        rw [hn0, if_neg (fun e => by have := (n_le (by omega) (by omega)).mp e; omega), atv_nI (by omega) (by omega), atv_nI (by omega) (by omega), h0 i hig, if_pos e, h1 i hig]
      · show f_X6_bearer_l55b N R (f_X6_bearer_l55 N R f') I x (-1) (nI i) = _
        unfold f_X6_bearer_l55b
        rw [h5, if_neg (fun e => by have := (n_le (by omega) (by omega)).mp e; omega), og_nI (by omega) (by omega), nI_tn (by omega), if_pos e, og_nI (by omega) (by omega), ol_eq, ol_eq, nI_s9]
        refine bear_m hg h5 c (i + 1) _ f' (by omega) (by omega) (fun z z1 z2 ez => ?_)
        rw [← e, hs z z2, hs i hig] at ez
        obtain ⟨s1, s2, s3⟩ := ser_ok2 z (by omega)
        obtain ⟨s4, s5, s6⟩ := ser_ok2 i (by omega)
        have := ser_inj z (by omega) i (by omega) ((n_eq (by omega) (by omega)).mp ez)
        omega
    · obtain ⟨v, r1, r2⟩ := bear_both hg h5 hn0 h0 h1 hs (x := x) c (i + 1) f f' (by omega) (by omega) (by omega)
      refine ⟨v, ?_, ?_⟩
      · rw [← r1]
        show f_X3_personOf_l2b N In Rn (f_X3_personOf_l2 N In Rn f) x (nI i) = _
        unfold f_X3_personOf_l2b
        rw [hn0, if_neg (fun e => by have := (n_le (by omega) (by omega)).mp e; omega), atv_nI (by omega) (by omega), h0 i hig, if_neg e, ol_eq, nI_s9]
      · rw [← r2]
        show f_X6_bearer_l55b N R (f_X6_bearer_l55 N R f') I x (-1) (nI i) = _
        unfold f_X6_bearer_l55b
        rw [h5, if_neg (fun e => by have := (n_le (by omega) (by omega)).mp e; omega), og_nI (by omega) (by omega), nI_tn (by omega), if_neg e, ol_eq, nI_s9]
/-- is it a number of a serial -/
theorem serial_both {v : Nat} (hv : v < 100000) : (f_X3_isOfSerial (nI v) = some 1 ∧ 10010 ≤ v ∧ f_X6_checkOf (nI v / 10) = some (nI v - nI v / 10 * 10)) ∨ (f_X3_isOfSerial (nI v) = some 0 ∧ (v < 10010 ∨ ∃ y, f_X6_checkOf (nI v / 10) = some y ∧ y ≠ nI v - nI v / 10 * 10)) := by
  have e1 : nI v / 10 = nI (v / 10) := nI_div (b := 10) (by omega) (by omega)
  have e2 : nI v - nI v / 10 * 10 = nI (v % 10) := nI_mod (b := 10) (by omega) (by omega)
  have hc := chk_lt (v / 10)
  unfold f_X3_isOfSerial
  rw [e2, e1, ol_eq]
  by_cases h1 : v < 10010
  · exact Or.inr ⟨by rw [if_pos (show nI (v / 10) < (1001 : Int32) from (n_lt (b := 1001) (by omega) (by omega)).mpr (by omega))], Or.inl h1⟩
  · have h2 : ¬ nI (v / 10) < (1001 : Int32) := fun e => by have := (n_lt (b := 1001) (by omega) (by omega)).mp e; omega
    have h3 : ¬ (9999 : Int32) < nI (v / 10) := fun e => by have := (n_lt (a := 9999) (by omega) (by omega)).mp e; omega
    rw [if_neg h2, if_neg h3, chk_c (by omega), chk_m (by omega), ob1_some]
    by_cases h4 : v % 10 = chk (v / 10)
    · exact Or.inl ⟨by rw [if_pos (by rw [h4])], by omega, by rw [h4]⟩
    · refine Or.inr ⟨by rw [if_neg (fun e => h4 ((n_eq (by omega) (by omega)).mp e))], Or.inr ⟨_, rfl, fun e => h4 ((n_eq (by omega) (by omega)).mp e).symm⟩⟩
end two
section sims
variable {N t n m P d g : Nat} {od ad : Nat → Nat} {Ix : OI} {Rx : RI} {ta : Int32} {ea : Option Nat} {wa : OO} {Ik : OI} {Rk : RI} {cmk : Option Nat} {In : OI} {Rn : RI} {AL : List Nat} {AI : Nat → OI} {AR : Nat → OO} {rs : OO} {RL : List RLT} {I : OI} {R : RI}
theorem sim_renumber (hN : 700 ≤ N) (h : IVc N t n m P d g od ad Ix Rx ta ea wa Ik Rk cmk In Rn AL AI AR rs RL I R) (x1 : Int32) :
    ∃ out outM, f_X5_renumber N Ix Rx In Rn x1 = some out ∧ f_X6_renumber N I R x1 = some outM ∧ CRel e13 out.1 (outM.2.1 0) ∧ (out.1 = 0 → out.2.1 = outM.1) ∧ IV N (t + 1) Ix Rx ta ea wa Ik Rk cmk out.2.2.1 out.2.2.2 AL AI AR rs RL outM.2.1 outM.2.2 := by
  have h9 := h
  obtain ⟨A, X, ⟨d1, d2, d3, d4, d5⟩, K, NR, nb, ba, ro⟩ := h
  have hP := A.P24
  have NR9 := NR
  obtain ⟨n1, n2, n3, n4, n5, n6, n7⟩ := NR
  have bad : ∀ (y : Int32) (k b : Nat), y = nI b → (k, b) ∈ e13 → k ≠ 0 → f_X6_refused R I y = some (1, va_up I 0 y) → ∃ out outM, (some (k, (0 : Int32), In, Rn) : Option (Nat × Int32 × OI × RI)) = some out ∧ f_X6_renumber_j27 N I R x1 y = some outM ∧ CRel e13 out.1 (outM.2.1 0) ∧ (out.1 = 0 → out.2.1 = outM.1) ∧ IV N (t + 1) Ix Rx ta ea wa Ik Rk cmk out.2.2.1 out.2.2.2 AL AI AR rs RL outM.2.1 outM.2.2 := by
    intro y k b hy hkb hk hr
    refine ⟨_, (0, va_up I 0 y, R), rfl, ?_, ?_, n0e hk, askI h9 y⟩
    · unfold f_X6_renumber_j27
      rw [hr, ob2_mk, if_neg one0]
    · show CRel e13 k (va_up I 0 y 0)
      rw [up0, hy]
      exact cE hkb
  unfold f_X5_renumber f_X6_renumber
  rcases person_c (R := R) (Rx := Rx) hP A.iP d3 x1 with ⟨p, hp, rfl, a1, a2⟩ | ⟨-, a1, a2⟩
  · rw [a1, a2, ob1_some, if_neg one0, obc_0]
    rcases numLeft_c (Ix := Ix) (Rx := Rx) (Rn := Rn) n1 n2 n4 with ⟨hg, b1, b2⟩ | ⟨hg, b1, b2⟩
    · rw [if_neg b1, b2, obc_0]
      have g1 := give_m (N := N) (I := va_up I 0 0) (R := R) (x := nI p) (by omega) hg ((up_ne (by omega)).trans n2) ((up_ne (by omega)).trans n3)
      have g2 := give_c (N := N) (I := In) (R := Rn) (x := nI p) (by omega) hg n4 n5
      refine ⟨(0, nI (10 * ser (g + 1) + chk (ser (g + 1))), va_up (va_up In 1 (nI (ser (g + 1) + 1))) 0 (nI (g + 1)), va_up (va_up Rn 0 (upd (Rn 0) g (nI (10 * ser (g + 1) + chk (ser (g + 1)))))) 1 (upd (Rn 1) g (nI p))), (nI (10 * ser (g + 1) + chk (ser (g + 1))), va_up (va_up (va_up I 0 0) 6 (nI (ser (g + 1)))) 5 (nI (g + 1)), va_up (va_up R 9 (upd (R 9) g (nI (10 * ser (g + 1) + chk (ser (g + 1)))))) 10 (upd (R 10) g (nI p))), ?_, ?_, ?_, fun _ => rfl, ?_⟩
      · rw [g2, ob3_mk]
      · unfold f_X6_renumber_j27
        rw [refused_0, ob2_mk, if_pos rfl, g1, ob3_mk]
      · show CRel e13 0 (va_up (va_up (va_up I 0 0) 6 (nI (ser (g + 1)))) 5 (nI (g + 1)) 0)
        rw [up_ne (by omega), up_ne (by omega), up0]
        exact c0
      · have hi : ∀ c, c ≠ 0 → c ≠ 5 → c ≠ 6 → va_up (va_up (va_up I 0 0) 6 (nI (ser (g + 1)))) 5 (nI (g + 1)) c = I c := fun c h0 h5 h6 => by rw [up_ne h5, up_ne h6, up_ne h0]
        have hr : ∀ c, c ≠ 9 → c ≠ 10 → va_up (va_up R 9 (upd (R 9) g (nI (10 * ser (g + 1) + chk (ser (g + 1)))))) 10 (upd (R 10) g (nI p)) c = R c := fun c h0 h1 => by rw [up_ne h1, up_ne h0]
        dsimp only
        refine ⟨n, m, P, d, g + 1, od, ad, ac_sq9 A (hi 2 (by omega) (by omega) (by omega)) (hi 3 (by omega) (by omega) (by omega)) (hi 4 (by omega) (by omega) (by omega)) (fun c hc => hr c (by omega) (by omega)), X.sq (fun c hc => hr c (by omega) (by omega)), ⟨(hi 1 (by omega) (by omega) (by omega)).trans d1, d2, d3, d4, d5⟩, K, NumR.give NR9 hg, ⟨fun j hj => ?_, fun q hq => ?_⟩, ⟨?_, ?_, ?_⟩, ro.sq (by omega) (hi 7 (by omega) (by omega) (by omega)) (hi 8 (by omega) (by omega) (by omega)) rfl (fun c z1 z2 => hr c (by omega) (by omega))⟩
        · rw [up_ne (by omega), up_same, upd_at]
          by_cases e : j = g
          · rw [if_pos e, e]
          · rw [if_neg e]; exact nb.1 j (by omega)
        · obtain ⟨j, hj, e⟩ := nb.2 q hq
          exact ⟨j, by omega, by rw [up_same, upd_ne (by omega)]; exact e⟩
        · rw [hr 27 (by omega) (by omega)]; exact ba.1
        · rw [hr 28 (by omega) (by omega)]; exact ba.2.1
        · rw [hr 27 (by omega) (by omega)]; exact ba.2.2
    · rw [if_pos b1, b2, obc_3]
      exact bad 2 3 2 rfl (by decide) (by omega) refused_2
  · rw [a1, a2, ob1_some, if_pos rfl, obc_1]
    exact bad 1 1 1 rfl (by decide) (by omega) refused_1
theorem sim_number (hN : 700 ≤ N) (h : IVc N t n m P d g od ad Ix Rx ta ea wa Ik Rk cmk In Rn AL AI AR rs RL I R) (x1 : Int32) :
    ∃ out outM, f_X5_number N Ix Rx In Rn x1 = some out ∧ f_X6_number N R I x1 = some outM ∧ CRel e1 out.1 (outM.2 0) ∧ (out.1 = 0 → out.2 = outM.1) ∧ IV N (t + 1) Ix Rx ta ea wa Ik Rk cmk In Rn AL AI AR rs RL outM.2 R := by
  have h9 := h
  obtain ⟨A, X, ⟨d1, d2, d3, d4, d5⟩, K, ⟨n1, n2, n3, n4, n5, n6, n7⟩, nb, ba, ro⟩ := h
  have hP := A.P24
  unfold f_X5_number f_X6_number f_X6_number_j14
  rcases person_c (R := R) (Rx := Rx) hP A.iP d3 x1 with ⟨p, hp, rfl, a1, a2⟩ | ⟨-, a1, a2⟩
  · rw [a1, a2, ob1_some, if_neg one0, obc_0]
    obtain ⟨j, hj, hx, hlast⟩ := last_of (q := fun j => R 10 j = nI p) (fun j => inferInstance) g (nb.2 p hp)
    refine ⟨(0, R 9 j), (R 9 j, va_up I 0 0), ?_, ?_, c0, fun _ => rfl, askI h9 0⟩
    · unfold f_X3_lastOf
      obtain ⟨g', rfl⟩ : ∃ z, g = z + 1 := ⟨g - 1, by omega⟩
      rw [n4, ol_eq, nI_p1]
      have := num_c (N := N) (In := In) n1 n6 n7 hj hx (g' - j) N (by omega) hlast (by omega)
      rw [show j + (g' - j) = g' by omega] at this
      rw [this, ob1_some]
    · rw [refused_0, ob2_mk, if_pos rfl]
      exact num_m n1 ((up_ne (by omega)).trans n2) hj hx hlast j 0 0 N (by omega) (by omega)
  · rw [a1, a2, ob1_some, if_pos rfl, obc_1, refused_1, ob2_mk, if_neg one0]
    refine ⟨_, _, rfl, rfl, ?_, n0e (by omega), askI h9 1⟩
    show CRel e1 1 (va_up I 0 1 0)
    rw [up0]
    exact cE (by decide)
theorem sim_bearer (hN : 700 ≤ N) (h : IVc N t n m P d g od ad Ix Rx ta ea wa Ik Rk cmk In Rn AL AI AR rs RL I R) (x1 : Int32) :
    ∃ out outM, f_X5_bearer N Ix Rx In Rn x1 = some out ∧ f_X6_bearer N R I x1 = some outM ∧ CRel e2 out.1 (outM.2 0) ∧ (out.1 = 0 → out.2 = outM.1) ∧ IV N (t + 1) Ix Rx ta ea wa Ik Rk cmk In Rn AL AI AR rs RL outM.2 R := by
  have h9 := h
  obtain ⟨A, X, ⟨d1, d2, d3, d4, d5⟩, K, ⟨n1, n2, n3, n4, n5, n6, n7⟩, nb, ba, ro⟩ := h
  have j42 : f_X6_bearer_j42 N R I x1 1 = some (0, va_up I 0 1) := by
    unfold f_X6_bearer_j42
    rw [refused_1, ob2_mk, if_neg one0]
  have j31 : f_X6_bearer_j31 N R I x1 0 = some (0, va_up I 0 1) := by
    unfold f_X6_bearer_j31
    rw [if_pos rfl, j42]
  have bad : ∀ z : Option (Int32 × OI), z = some (0, va_up I 0 1) → ∃ out outM, (some (2, (0 : Int32)) : Option (Nat × Int32)) = some out ∧ z = some outM ∧ CRel e2 out.1 (outM.2 0) ∧ (out.1 = 0 → out.2 = outM.1) ∧ IV N (t + 1) Ix Rx ta ea wa Ik Rk cmk In Rn AL AI AR rs RL outM.2 R := fun z hz => by
    refine ⟨_, _, rfl, hz, ?_, n0e (by omega), askI h9 1⟩
    show CRel e2 2 (va_up I 0 1 0)
    rw [up0]
    exact cE (b := 1) (by decide)
  unfold f_X5_bearer f_X6_bearer
  rcases within_c (a := 10000) (b := 99999) (by omega) (by omega) x1 with ⟨v, hv1, hv, rfl, b1, b2⟩ | ⟨b1, b2⟩
  · rw [show f_X5_requireWithin (nI v) 10000 99999 = some 0 from b2, obc_0]
    rcases serial_both (v := v) (by omega) with ⟨s1, s2, s3⟩ | ⟨s1, s2⟩
    · have w1 : f_X6_within (nI v) 10010 99999 = some 1 := by
        unfold f_X6_within
        rw [if_neg (fun e => by have := (n_lt (b := 10010) (by omega) (by omega)).mp e; omega), if_neg (fun e => by have := (n_lt (a := 99999) (by omega) (by omega)).mp e; omega)]
      obtain ⟨w, r1, r2⟩ := bear_both (N := N) (I := va_up I 0 0) (In := In) (R := R) (Rn := Rn) (x := nI v) n1 ((up_ne (by omega)).trans n2) n4 n6 n7 nb.1 g 0 N N (by omega) (by omega) (by omega)
      refine ⟨(0, w), (w, va_up I 0 0), ?_, ?_, c0, fun _ => rfl, askI h9 0⟩
      · rw [s1, ob1_some, if_neg one0]
        unfold f_X3_personOf
        rw [show (0 : Int32) = nI 0 from rfl, r1, ob1_some]
      · rw [w1, ob1_some, if_neg one0, s3, ob1_some, if_pos rfl]
        unfold f_X6_bearer_j31 f_X6_bearer_j42
        rw [if_neg one0, refused_0, ob2_mk, if_pos rfl]
        exact r2
    · rw [s1, ob1_some, if_pos rfl]
      apply bad
      by_cases hlo : v < 10010
      · have w0 : f_X6_within (nI v) 10010 99999 = some 0 := by
          unfold f_X6_within
          rw [if_pos (show nI v < (10010 : Int32) from (n_lt (b := 10010) (by omega) (by omega)).mpr hlo)]
        rw [w0, ob1_some, if_pos rfl, j31]
      · rcases s2 with s2 | ⟨y, s2, s3⟩
        · exact absurd s2 hlo
        · have w1 : f_X6_within (nI v) 10010 99999 = some 1 := by
            unfold f_X6_within
            rw [if_neg (fun e => by have := (n_lt (b := 10010) (by omega) (by omega)).mp e; omega), if_neg (fun e => by have := (n_lt (a := 99999) (by omega) (by omega)).mp e; omega)]
          rw [w1, ob1_some, if_neg one0, s2, ob1_some, if_neg s3, j31]
  · rw [show f_X5_requireWithin x1 10000 99999 = some 2 from b2, obc_2]
    apply bad
    have w0 : f_X6_within x1 10010 99999 = some 0 := by
      have b3 : f_X6_within x1 10000 99999 = some 0 := b1
      unfold f_X6_within at b3 ⊢
      by_cases h1 : x1 < 10010
      · rw [if_pos h1]
      · rw [if_neg h1]
        by_cases h2 : (99999 : Int32) < x1
        · rw [if_pos h2]
        · have h3 : ¬ x1 < 10000 := fun e => h1 (by
            rw [Int32.lt_iff_toInt_lt] at e ⊢
            have e1 : (10000 : Int32).toInt = 10000 := by decide
            have e2 : (10010 : Int32).toInt = 10010 := by decide
            omega)
          rw [if_neg h3, if_neg h2] at b3
          exact absurd b3 (by decide)
    rw [w0, ob1_some, if_pos rfl, j31]
/-- rows of bars and looks alone -/
theorem IV.bars (h : IVc N t n m P d g od ad Ix Rx ta ea wa Ik Rk cmk In Rn AL AI AR rs RL I R) {Rx' : RI} {R' : RI} {I' : OI} (hI : ∀ c, c ≠ 0 → I' c = I c) (hR : ∀ c, ¬ (11 ≤ c ∧ c ≤ 21) → c ≠ 27 → c ≠ 28 → R' c = R c) (hb : BA Rx' R') : IV N (t + 1) Ix Rx' ta ea wa Ik Rk cmk In Rn AL AI AR rs RL I' R' := by
  obtain ⟨A, X, ⟨d1, d2, d3, d4, d5⟩, K, ⟨n1, n2, n3, n4, n5, n6, n7⟩, nb, ba, ro⟩ := h
  refine ⟨n, m, P, d, g, od, ad, ac_sq9 A (hI 2 (by omega)) (hI 3 (by omega)) (hI 4 (by omega)) (fun c hc => hR c (by omega) (by omega) (by omega)), X.sq (fun c hc => hR c (by omega) (by omega) (by omega)), ⟨(hI 1 (by omega)).trans d1, d2, d3, d4, d5⟩, K, ⟨n1, (hI 5 (by omega)).trans n2, (hI 6 (by omega)).trans n3, n4, n5, ?_, ?_⟩, ⟨?_, ?_⟩, hb, ro.sq (by omega) (hI 7 (by omega)) (hI 8 (by omega)) rfl (fun c h1 h2 => hR c (by omega) (by omega) (by omega))⟩
  · rw [hR 9 (by omega) (by omega) (by omega)]; exact n6
  · rw [hR 10 (by omega) (by omega) (by omega)]; exact n7
  · rw [hR 9 (by omega) (by omega) (by omega)]; exact nb.1
  · rw [hR 10 (by omega) (by omega) (by omega)]; exact nb.2
theorem sim_bar (h : IVc N t n m P d g od ad Ix Rx ta ea wa Ik Rk cmk In Rn AL AI AR rs RL I R) (x1 x2 : Int32) (hx2 : x2 = 0 ∨ x2 = 1) :
    ∃ out outM, f_X5_bar Ix Rx x1 x2 = some out ∧ f_X6_bar I R x1 x2 = some outM ∧ CRel e1 out.1 (outM.2.1 0) ∧ (out.1 = 0 → out.2.1 = outM.1 ∧ (outM.1 = 0 ∨ outM.1 = 1)) ∧ IV N (t + 1) Ix out.2.2 ta ea wa Ik Rk cmk In Rn AL AI AR rs RL outM.2.1 outM.2.2 := by
  have h9 := h
  obtain ⟨A, X, ⟨d1, d2, d3, d4, d5⟩, K, NR, nb, ba, ro⟩ := h
  have hP := A.P24
  unfold f_X5_bar f_X6_bar f_X6_bar_j14
  rcases person_c (R := R) (Rx := Rx) hP A.iP d3 x1 with ⟨p, hp, rfl, a1, a2⟩ | ⟨-, a1, a2⟩
  · have hp24 : p < 24 := by omega
    have hv := ba.2.2 p hp24
    have eb := ba.1 p hp24
    have enar : vp_nar .boolean x2 = x2 := by
      rcases hx2 with e | e
      · rw [e]; exact nar_0
      · rw [e]; exact nar_1
    have eis : isv 24 (Rx 0) (nI p) = R 27 p := by
      rw [isv_nI hp24 (by omega), eb]
      rcases hv with e | e
      · rw [e, if_pos rfl]
      · rw [e, if_neg one0]
    have ez : ∀ {O : Type} {k : Option O}, oz (R 27 p) k = k := fun {O k} => by
      rcases hv with e | e
      · rw [e]; exact oz_0
      · rw [e]; exact oz_1
    rw [a1, a2, ob1_some, if_neg one0, obc_0, eis, ol_eq, ol_eq, ez, setv_nI hp24 (by omega), enar, refused_0, ob2_mk, if_pos rfl, og_nI hp24 (by omega), nI_tn (bd4 hp24), ol_eq, og_nI hp24 (by omega), ol_eq, ez]
    refine ⟨_, _, rfl, rfl, c0, fun _ => ⟨rfl, hv⟩, IV.bars h9 (fun c hc => up_ne hc) (fun c _ hc _ => up_ne hc) ⟨fun j hj => ?_, fun j hj => ?_, fun j hj => ?_⟩⟩
    · dsimp only
      rw [up_same, up_same, upd_at, upd_at, ba.1 j hj]
    · dsimp only
      rw [up_ne (show (1 : Nat) ≠ 0 by omega), up_ne (show (28 : Nat) ≠ 27 by omega)]; exact ba.2.1 j hj
    · dsimp only
      rw [up_same, upd_at]
      split
      · exact hx2
      · exact ba.2.2 j hj
  · rw [a1, a2, ob1_some, if_pos rfl, obc_1, refused_1, ob2_mk, if_neg one0]
    refine ⟨_, _, rfl, rfl, ?_, fun e => absurd e (by omega), askI h9 1⟩
    show CRel e1 1 (va_up I 0 1 0)
    rw [up0]
    exact cE (by decide)
theorem sim_look (hN : 700 ≤ N) (h : IVc N t n m P d g od ad Ix Rx ta ea wa Ik Rk cmk In Rn AL AI AR rs RL I R) (x1 x2 : Int32) :
    ∃ out outM, f_X5_look Ix Ik Rk cmk Rx x1 x2 = some out ∧ f_X6_look N I R x1 x2 = some outM ∧ CRel e12 out.1 (outM.2.1 0) ∧ (out.1 = 0 → out.2.1 = outM.1) ∧ IV N (t + 1) Ix out.2.2 ta ea wa Ik Rk cmk In Rn AL AI AR rs RL outM.2.1 outM.2.2 := by
  have h9 := h
  obtain ⟨A, X, ⟨d1, d2, d3, d4, d5⟩, K, NR, nb, ba, ro⟩ := h
  have hP := A.P24
  have bad : ∀ (y : Int32) (k b : Nat), y = nI b → (k, b) ∈ e12 → k ≠ 0 → f_X6_refused R I y = some (1, va_up I 0 y) → ∃ out outM, (some (k, (0 : Int32), Rx) : Option (Nat × Int32 × RI)) = some out ∧ f_X6_look_j27 N I R x1 x2 y = some outM ∧ CRel e12 out.1 (outM.2.1 0) ∧ (out.1 = 0 → out.2.1 = outM.1) ∧ IV N (t + 1) Ix out.2.2 ta ea wa Ik Rk cmk In Rn AL AI AR rs RL outM.2.1 outM.2.2 := by
    intro y k b hy hkb hk hr
    refine ⟨_, (0, va_up I 0 y, R), rfl, ?_, ?_, n0e hk, askI h9 y⟩
    · unfold f_X6_look_j27
      rw [hr, ob2_mk, if_neg one0]
    · show CRel e12 k (va_up I 0 y 0)
      rw [up0, hy]
      exact cE hkb
  unfold f_X5_look f_X6_look
  rcases person_c (R := R) (Rx := Rx) hP A.iP d3 x2 with ⟨p, hp, rfl, a1, a2⟩ | ⟨-, a1, a2⟩
  · have hp24 : p < 24 := by omega
    rw [a1, a2, ob1_some, if_neg one0, obc_0]
    rcases within_c (a := 0) (b := 3) (by omega) (by omega) x1 with ⟨w, -, hw, rfl, b1, b2⟩ | ⟨b1, b2⟩
    · rw [show f_X6_within (nI w) 0 3 = some 1 from b1, show f_X5_requireWithin (nI w) 0 3 = some 0 from b2, ob1_some, if_neg one0, obc_0, ol_eq, atv_nI hp24 (by omega), putv_nI hp24 (by omega), up_ne (show (0 : Nat) ≠ 1 by omega), isv_nI hp24 (by omega), ba.1 p hp24, ba.2.1 p hp24]
      have A5 : AC n m P od ad (va_up I 0 0) (va_up R 28 (upd (R 28) p (R 28 p + 1))) AL AI AR ta ea wa := ac_sq9 A (up_ne (by omega)) (up_ne (by omega)) (up_ne (by omega)) (fun c hc => up_ne (by omega))
      obtain ⟨R1, f1, f3, f4, f5, f6⟩ := kept_all A5 (X.sq (fun c hc => up_ne (by omega))) (show 200 ≤ N by omega) K
      have e27 : R1 27 = R 27 := (f4 27 (by omega)).trans (up_ne (by omega))
      have em : f_X6_look_j27 N I R (nI w) (nI p) 0 = if R 27 p = 0 then some (Rk 2 p, va_up I 0 0, R1) else if nI w = 0 then some (Rk 2 p, va_up I 0 0, R1) else some (-2, va_up I 0 0, R1) := by
        unfold f_X6_look_j27
        rw [refused_0, ob2_mk, if_pos rfl, og_nI hp24 (by omega), nI_tn (bd4 hp24), og_nI hp24 (by omega), ol_eq, up_ne (show (1 : Nat) ≠ 0 by omega), d1, f1, ob1_some, og_nI hp24 (by omega), og_nI hp24 (by omega), e27, ← f3.hm p hp24]
      have ed : ∀ R', f_X5_look_j47 Ix Ik Rk cmk R' (nI p) = some (0, Rk 2 p, R') := fun R' => by
        unfold f_X5_look_j47 f_X2_dwellingOf
        rw [atv_nI hp24 (by omega), ob1_some]
      have hv : IV N (t + 1) Ix (va_up Rx 1 (upd (Rx 1) p (R 28 p + 1))) ta ea wa Ik Rk cmk In Rn AL AI AR rs RL (va_up I 0 0) R1 := by
        refine IV.bars h9 (fun c hc => up_ne hc) (fun c hc _ h8 => (f4 c (by omega)).trans (up_ne h8)) ⟨fun j hj => ?_, fun j hj => ?_, fun j hj => ?_⟩
        · rw [up_ne (by omega), e27]; exact ba.1 j hj
        · rw [f4 28 (by omega), up_same, up_same, upd_at, upd_at, ba.2.1 j hj]
        · rw [e27]; exact ba.2.2 j hj
      rw [ed, em]
      by_cases h1 : R 27 p = 0
      · rw [if_pos h1, if_pos h1, if_pos rfl]
        by_cases h2 : nI w = 0
        · rw [if_pos h2]; exact ⟨_, _, rfl, rfl, c0, fun _ => rfl, hv⟩
        · rw [if_neg h2]; exact ⟨_, _, rfl, rfl, c0, fun _ => rfl, hv⟩
      · rw [if_neg h1, if_neg h1, if_neg one0]
        by_cases h2 : nI w = 0
        · rw [if_pos h2, if_pos h2]; exact ⟨_, _, rfl, rfl, c0, fun _ => rfl, hv⟩
        · rw [if_neg h2, if_neg h2]; exact ⟨_, _, rfl, rfl, c0, fun _ => rfl, hv⟩
    · rw [show f_X6_within x1 0 3 = some 0 from b1, show f_X5_requireWithin x1 0 3 = some 2 from b2, ob1_some, if_pos rfl, obc_2]
      exact bad 2 2 2 rfl (by decide) (by omega) refused_2
  · rw [a1, a2, ob1_some, if_pos rfl, obc_1]
    exact bad 1 1 1 rfl (by decide) (by omega) refused_1
theorem sim_looks (h : IVc N t n m P d g od ad Ix Rx ta ea wa Ik Rk cmk In Rn AL AI AR rs RL I R) (x1 : Int32) :
    ∃ out outM, f_X5_looks Ix Rx x1 = some out ∧ f_X6_looks R I x1 = some outM ∧ CRel e1 out.1 (outM.2 0) ∧ (out.1 = 0 → out.2 = outM.1) ∧ IV N (t + 1) Ix Rx ta ea wa Ik Rk cmk In Rn AL AI AR rs RL outM.2 R := by
  have h9 := h
  obtain ⟨A, X, ⟨d1, d2, d3, d4, d5⟩, K, NR, nb, ba, ro⟩ := h
  have hP := A.P24
  unfold f_X5_looks f_X6_looks f_X6_looks_j14
  rcases person_c (R := R) (Rx := Rx) hP A.iP d3 x1 with ⟨p, hp, rfl, a1, a2⟩ | ⟨-, a1, a2⟩
  · have hp24 : p < 24 := by omega
    rw [a1, a2, ob1_some, if_neg one0, obc_0, atv_nI hp24 (by omega), ba.2.1 p hp24, refused_0, ob2_mk, if_pos rfl, og_nI hp24 (by omega), nI_tn (bd4 hp24)]
    exact ⟨_, _, rfl, rfl, c0, fun _ => rfl, askI h9 0⟩
  · rw [a1, a2, ob1_some, if_pos rfl, obc_1, refused_1, ob2_mk, if_neg one0]
    refine ⟨_, _, rfl, rfl, ?_, n0e (by omega), askI h9 1⟩
    show CRel e1 1 (va_up I 0 1 0)
    rw [up0]
    exact cE (by decide)
theorem act_c (A : AC n m P od ad I R AL AI AR ta ea wa) (x : Int32) : (∃ i, i < n ∧ x = nI i ∧ f_X6_within x 0 (I 2 - 1) = some 1 ∧ f_X5_requireAct Ix Rx ta ea wa x = some (0, ad i)) ∨ (f_X6_within x 0 (I 2 - 1) = some 0 ∧ f_X5_requireAct Ix Rx ta ea wa x = some (1, 0)) := by
  have hn := A.n150
  rw [A.i2]
  unfold f_X5_requireAct
  rcases first_m (x := x) (P := n) (by omega) with ⟨i, hi, e, h⟩ | ⟨h, h2⟩
  · refine Or.inl ⟨i, hi, e, h, ?_⟩
    rw [e, find_act A hi, ob1_some, oc_some]
  · refine Or.inr ⟨h2, ?_⟩
    have hf : f_X1_find ta ea wa x = some none := by
      unfold f_X1_find
      rcases h with h | h
      · rw [if_pos h]
      · by_cases h0 : x < 0
        · rw [if_pos h0]
        · rw [if_neg h0]
          by_cases h1 : (150 : Int32) ≤ x
          · rw [if_pos h1]
          · rw [if_neg h1]
            obtain ⟨j, hj, rfl⟩ := n_of h0 (show x < nI 150 from Int32.not_le.mp h1) (by omega)
            rw [og_nI hj (by omega), nI_tn (by omega), A.war j hj, if_neg (fun z => by have := (n_le (by omega) (by omega)).mp h; omega)]
    rw [hf, ob1_some, oc_none]
theorem sim_actOf (h : IVc N t n m P d g od ad Ix Rx ta ea wa Ik Rk cmk In Rn AL AI AR rs RL I R) (x1 x2 : Int32) :
    ∃ out outM, f_X5_actOf AL Ix Rx ta ea wa AI AR x1 x2 = some out ∧ f_X6_actOf R I x1 x2 = some outM ∧ CRel e12 out.1 (outM.2 0) ∧ (out.1 = 0 → out.2 = outM.1) ∧ IV N (t + 1) Ix Rx ta ea wa Ik Rk cmk In Rn AL AI AR rs RL outM.2 R := by
  have h9 := h
  obtain ⟨A, X, ⟨d1, d2, d3, d4, d5⟩, K, NR, nb, ba, ro⟩ := h
  have hn := A.n150
  have bad : ∀ (y : Int32) (k b : Nat), y = nI b → (k, b) ∈ e12 → k ≠ 0 → f_X6_refused R I y = some (1, va_up I 0 y) → ∃ out outM, (some (k, (0 : Int32)) : Option (Nat × Int32)) = some out ∧ f_X6_actOf_j33 R I x1 x2 y = some outM ∧ CRel e12 out.1 (outM.2 0) ∧ (out.1 = 0 → out.2 = outM.1) ∧ IV N (t + 1) Ix Rx ta ea wa Ik Rk cmk In Rn AL AI AR rs RL outM.2 R := by
    intro y k b hy hkb hk hr
    refine ⟨_, (0, va_up I 0 y), rfl, ?_, ?_, n0e hk, askI h9 y⟩
    · unfold f_X6_actOf_j33
      rw [hr, ob2_mk, if_neg one0]
    · show CRel e12 k (va_up I 0 y 0)
      rw [up0, hy]
      exact cE hkb
  unfold f_X5_actOf f_X6_actOf
  rcases act_c (Ix := Ix) (Rx := Rx) A x1 with ⟨i, hi, rfl, a1, a2⟩ | ⟨a1, a2⟩
  · rw [a1, a2, ob1_some, if_neg one0]
    show ∃ out outM, obc (f_X5_requireWithin x2 0 4) (fun k9 => (k9, 0)) _ = some out ∧ _
    have ha := A.al i hi
    rcases within_c (a := 0) (b := 4) (by omega) (by omega) x2 with ⟨w, -, hw, rfl, b1, b2⟩ | ⟨b1, b2⟩
    · rw [show f_X6_within (nI w) 0 4 = some 1 from b1, show f_X5_requireWithin (nI w) 0 4 = some 0 from b2, ob1_some, if_neg one0, obc_0]
      have hi150 : i < 150 := by omega
      have fin : ∀ (v : Int32) (z1 : Option (Nat × Int32)) (z2 : Option (Int32 × OI)), z1 = some (0, v) → z2 = some (v, va_up I 0 0) → ∃ out outM, z1 = some out ∧ z2 = some outM ∧ CRel e12 out.1 (outM.2 0) ∧ (out.1 = 0 → out.2 = outM.1) ∧ IV N (t + 1) Ix Rx ta ea wa Ik Rk cmk In Rn AL AI AR rs RL outM.2 R := fun v z1 z2 e1 e2 => ⟨_, _, e1, e2, c0, fun _ => rfl, askI h9 0⟩
      unfold f_X6_actOf_j33
      rw [refused_0, ob2_mk, if_pos rfl]
      simp only [om_mem ha, og_nI hi150 (show 150 < 2147483648 by omega), nI_tn (show i < 2147483648 by omega), A.c0 i hi, A.c1 i hi, A.c2 i hi, A.c3 i hi]
      match w, hw with
      | 0, _ => exact fin (R 0 i) _ _ (by rw [if_pos (by decide)]) (by rw [if_pos (by decide)])
      | 1, _ => exact fin (R 1 i) _ _ (by rw [if_neg (by decide), if_pos (by decide)]) (by rw [if_neg (by decide), if_pos (by decide)])
      | 2, _ => exact fin (R 2 i) _ _ (by rw [if_neg (by decide), if_neg (by decide), if_pos (by decide)]) (by rw [if_neg (by decide), if_neg (by decide), if_pos (by decide)])
      | 3, _ => exact fin (R 3 i) _ _ (by rw [if_neg (by decide), if_neg (by decide), if_neg (by decide), if_pos (by decide)]) (by rw [if_neg (by decide), if_neg (by decide), if_neg (by decide), if_pos (by decide)])
      | 4, _ =>
        refine fin (R 7 i) _ _ ?_ (by rw [if_neg (by decide), if_neg (by decide), if_neg (by decide), if_neg (by decide)])
        rw [if_neg (by decide), if_neg (by decide), if_neg (by decide), if_neg (by decide)]
        rcases A.sk i hi with ⟨s1, s2⟩ | ⟨z, hz, s1, s2⟩
        · rw [s2, oc_none, s1]
        · rw [s2, oc_some, oq_some, om_mem (A.al z hz), A.c7 z hz, s1]
    · rw [show f_X6_within x2 0 4 = some 0 from b1, show f_X5_requireWithin x2 0 4 = some 2 from b2, ob1_some, if_pos rfl, obc_2]
      exact bad 2 2 2 rfl (by decide) (by omega) refused_2
  · rw [a1, a2, ob1_some, if_pos rfl]
    exact bad 1 1 1 rfl (by decide) (by omega) refused_1
end sims
end PNu
