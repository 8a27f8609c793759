/-! ===== PURE: what is kept ===== -/
section PKi
/-- what the acts bring along -/
abbrev AX (n d : Nat) (R : RI) : Prop := (d ≤ 30000) ∧ (∀ i, i < n → ∃ b, b ≤ d ∧ R 1 i = nI b) ∧ (∀ i, i < n → R 0 i ≠ 7 → R 0 i ≠ 8 → ∃ b, b ≤ d ∧ R 2 i = nI b) ∧ (∀ i, i < n → R 0 i = 0 ∨ R 0 i = 1 → ∃ h, h < 16 ∧ R 5 i = nI h)
theorem AX.dd {n d : Nat} {R : RI} (h : AX n d R) : d ≤ 30000 := h.1
theorem AX.tl {n d : Nat} {R : RI} (h : AX n d R) : ∀ i, i < n → ∃ b, b ≤ d ∧ R 1 i = nI b := h.2.1
theorem AX.so {n d : Nat} {R : RI} (h : AX n d R) : ∀ i, i < n → R 0 i ≠ 7 → R 0 i ≠ 8 → ∃ b, b ≤ d ∧ R 2 i = nI b := h.2.2.1
theorem AX.dw {n d : Nat} {R : RI} (h : AX n d R) : ∀ i, i < n → R 0 i = 0 ∨ R 0 i = 1 → ∃ h, h < 16 ∧ R 5 i = nI h := h.2.2.2
theorem AX.later {n d d' : Nat} {R : RI} (h : AX n d R) (h1 : d ≤ d') (h2 : d' ≤ 30000) : AX n d' R := ⟨h2, fun i hi => by obtain ⟨b, h3, h4⟩ := h.tl i hi; exact ⟨b, by omega, h4⟩, fun i hi h5 h6 => by obtain ⟨b, h3, h4⟩ := h.so i hi h5 h6; exact ⟨b, by omega, h4⟩, h.dw⟩
theorem AX.sq {n d : Nat} {R R' : RI} (h : AX n d R) (e : ∀ c, c < 9 → R' c = R c) : AX n d R' := by
  have e0 := e 0 (by omega)
  have e1 := e 1 (by omega)
  have e2 := e 2 (by omega)
  have e5 := e 5 (by omega)
  refine ⟨h.dd, ?_, ?_, ?_⟩
  · rw [e1]; exact h.tl
  · rw [e0, e2]; exact h.so
  · rw [e0, e5]; exact h.dw
theorem LF.of {R Ra Rb : RI} (h : LF R Ra) (e : LEq Ra Rb) : LF R Rb := by
  refine ⟨h.ld, ?_, ?_, ?_, ?_, ?_, ?_, ?_, ?_, ?_, h.prn, h.mon, h.stn⟩
  · intro j hj; rw [← e 0 (by omega) j hj]; exact h.mt j hj
  · intro j hj; rw [← e 1 (by omega) j hj]; exact h.st j hj
  · intro j hj; rw [← e 2 (by omega) j hj]; exact h.hm j hj
  · intro j hj; rw [← e 3 (by omega) j hj]; exact h.nm j hj
  · intro j hj; rw [← e 4 (by omega) j hj]; exact h.pr j hj
  · intro j hj; rw [← e 5 (by omega) j hj]; exact h.mo j hj
  · intro j hj; rw [← e 6 (by omega) j hj]; exact h.bm j hj
  · intro j hj; rw [← e 7 (by omega) j hj]; exact h.bd j hj
  · intro j hj; rw [← e 8 (by omega) j hj]; exact h.adp j hj
theorem LF.eq {R Ra Rb : RI} (ha : LF R Ra) (hb : LF R Rb) : LEq Ra Rb := fun c hc j hj => by
  match c, hc with
  | 0, _ => rw [ha.mt j hj, hb.mt j hj]
  | 1, _ => rw [ha.st j hj, hb.st j hj]
  | 2, _ => rw [ha.hm j hj, hb.hm j hj]
  | 3, _ => rw [ha.nm j hj, hb.nm j hj]
  | 4, _ => rw [ha.pr j hj, hb.pr j hj]
  | 5, _ => rw [ha.mo j hj, hb.mo j hj]
  | 6, _ => rw [ha.bm j hj, hb.bm j hj]
  | 7, _ => rw [ha.bd j hj, hb.bd j hj]
  | 8, _ => rw [ha.adp j hj, hb.adp j hj]
/-- what is kept is what is found -/
abbrev KI (N : Nat) (AL : List Nat) (ta : Int32) (ea : Option Nat) (wa : OO) (AI : Nat → OI) (AR : Nat → OO) (d : Nat) (Rk : RI) : Prop := ∃ Ik' Rk' cm', f_X2_find N AL ta ea wa AI AR (fun _ => 0) (fun _ _ => 0) none (nI d) (nI d) = some (Ik', Rk', cm') ∧ LEq Rk' Rk
section with_acts
variable {n m P : Nat} {od ad : Nat → Nat} {I : OI} {R : RI} {AL : List Nat} {AI : Nat → OI} {AR : Nat → OO} {ta : Int32} {ea : Option Nat} {wa : OO} {d : Nat}
theorem kd_78 (A : AC n m P od ad I R AL AI AR ta ea wa) {j : Nat} (hj : j < m) : R 0 (od j) ≠ 7 ∧ R 0 (od j) ≠ 8 := by
  obtain ⟨-, -, k, hk, e⟩ := A.odr j hj
  rw [e]
  exact ⟨fun h => by have := (n_eq (b := 7) (by omega) (by omega)).mp h; omega, fun h => by have := (n_eq (b := 8) (by omega) (by omega)).mp h; omega⟩
theorem kn_now (A : AC n m P od ad I R AL AI AR ta ea wa) (X : AX n d R) {d' : Nat} (hd : d ≤ d') (hd' : d' ≤ 30000) {i : Nat} (hi : i < n) : kn R (nI d') i ↔ R 7 i = -1 := by
  have hn := A.n150
  constructor
  · rintro ⟨-, h2 | h2⟩
    · exact h2
    · rcases A.sk i hi with ⟨h3, -⟩ | ⟨z, hz, h3, -⟩
      · exact h3
      · obtain ⟨b, hb, e⟩ := X.tl z hz
        rw [h3, nI_tn (by omega), e, n_lt (by omega) (by omega)] at h2
        omega
  · intro h
    obtain ⟨b, hb, e⟩ := X.tl i hi
    exact ⟨by rw [e, n_le (by omega) (by omega)]; omega, Or.inl h⟩
theorem so_now (A : AC n m P od ad I R AL AI AR ta ea wa) (X : AX n d R) {d' : Nat} (hd : d ≤ d') (hd' : d' ≤ 30000) {j : Nat} (hj : j < m) : R 2 (od j) ≤ nI d' := by
  obtain ⟨h7, h8⟩ := kd_78 A hj
  obtain ⟨b, hb, e⟩ := X.so _ (A.odr j hj).1 h7 h8
  rw [e, n_le (by omega) (by omega)]
  omega
theorem ac_f (A : AC n m P od ad I R AL AI AR ta ea wa) (X : AX n d R) {j : Nat} (hj : j < m) {s : Int32} (h : R 2 (od j) ≤ s) : AcF s (AI (ad (od j))) := by
  have ho := (A.odr j hj).1
  obtain ⟨h7, h8⟩ := kd_78 A hj
  have hd := X.dd
  obtain ⟨b, hb, e⟩ := X.so _ ho h7 h8
  refine ⟨fun _ => ⟨b, by omega, (A.c2 _ ho).trans e, by rw [A.c2 _ ho]; exact h⟩, fun h0 => ?_⟩
  rw [A.c0 _ ho] at h0
  obtain ⟨y, hy, e5⟩ := X.dw _ ho h0
  exact ⟨y, hy, (A.c5 _ ho).trans e5⟩
theorem find_all (A : AC n m P od ad I R AL AI AR ta ea wa) (X : AX n d R) {N : Nat} (hN : 200 ≤ N) (Ik : OI) (Rk : RI) (cm : Option Nat) (s k : Int32) :
    ∃ R' Rk' cm', f_X6_goThrough N I R s k = some R' ∧ f_X2_find N AL ta ea wa AI AR Ik Rk cm s k = some (va_up (va_up (va_up Ik 1 k) 0 0) 0 s, Rk', cm') ∧ LF R' Rk' ∧ SameQ R R' ∧ (∀ z, P ≤ z → z < 24 → R' 12 z = 0) ∧ CL s Rk' := by
  obtain ⟨R', Rk', j', h1, h2, h3, h4, h5⟩ := find_both hN A Ik Rk cm s k
  obtain ⟨Rb, c, -, g1, g2, -, g3, g4⟩ := find_run A hN Ik Rk cm s k
  rw [h2] at g3
  have e : Rk' = run AI (segA R od ad k 0 c) Rb := by
    injection g3 with g3
    injection g3 with _ g3
    injection g3
  refine ⟨R', Rk', _, h1, h2, h3, h4, h5, ?_⟩
  rw [e]
  refine run_CL _ (fun x hx => ?_) (g4 s)
  obtain ⟨i, -, hi, rfl⟩ := segA_m c 0 hx
  exact ac_f A X (by omega) (g2 i (by omega))
theorem kept_all (A : AC n m P od ad I R AL AI AR ta ea wa) (X : AX n d R) {N : Nat} (hN : 200 ≤ N) {Rk : RI} (K : KI N AL ta ea wa AI AR d Rk) :
    ∃ R', f_X6_goThrough N I R (nI d) (nI d) = some R' ∧ LF R' Rk ∧ SameQ R R' ∧ (∀ z, P ≤ z → z < 24 → R' 12 z = 0) ∧ CL (nI d) Rk := by
  obtain ⟨Ik1, Rk1, cm1, e, hl⟩ := K
  obtain ⟨R', Rk', cm', h1, h2, h3, h4, h5, h6⟩ := find_all A X hN (fun _ => 0) (fun _ _ => 0) none (nI d) (nI d)
  rw [h2] at e
  injection e with e
  injection e with _ e
  injection e with e
  subst e
  exact ⟨R', h1, h3.of hl, h4, h5, h6.of hl⟩
theorem ki_any (A : AC n m P od ad I R AL AI AR ta ea wa) {N : Nat} (hN : 200 ≤ N) {Ik Ik1 : OI} {Rk Rk1 : RI} {cm cm1 : Option Nat} (h : f_X2_find N AL ta ea wa AI AR Ik Rk cm (nI d) (nI d) = some (Ik1, Rk1, cm1)) : KI N AL ta ea wa AI AR d Rk1 := by
  obtain ⟨R', Rk', j', h1, h2, h3, -, -⟩ := find_both hN A Ik Rk cm (nI d) (nI d)
  obtain ⟨R'', Rk'', j'', g1, g2, g3, -, -⟩ := find_both hN A (fun _ => 0) (fun _ _ => 0) none (nI d) (nI d)
  rw [h1] at g1
  injection g1 with g1
  subst g1
  rw [h2] at h
  injection h with h
  injection h with _ h
  injection h with h
  subst h
  exact ⟨_, Rk'', _, g2, g3.eq h3⟩
theorem all_cut (A : AC n m P od ad I R AL AI AR ta ea wa) (X : AX n d R) {d' c : Nat} (hd : d ≤ d') (hd' : d' ≤ 30000) (hc : c ≤ m) (h : c < m → ¬ R 2 (od c) ≤ nI d') : c = m := by
  by_cases e : c < m
  · exact absurd (so_now A X hd hd' e) (h e)
  · omega
theorem some3 {α β γ : Type} {a a' : α} {b b' : β} {c c' : γ} (h : some (a, b, c) = some (a', b', c')) : a = a' ∧ b = b' ∧ c = c' := by
  injection h with h
  injection h with h1 h
  injection h with h2 h3
  exact ⟨h1, h2, h3⟩
theorem ki_pass (A : AC n m P od ad I R AL AI AR ta ea wa) (X : AX n d R) {N : Nat} (hN : 200 ≤ N) {d' : Nat} (hd : d ≤ d') (hd' : d' ≤ 30000) {Rk : RI} (K : KI N AL ta ea wa AI AR d Rk) : KI N AL ta ea wa AI AR d' Rk := by
  have hdd := X.dd
  obtain ⟨Ik1, Rk1, cm1, e, hl⟩ := K
  obtain ⟨Rb, c, h1, h2, h3, h4, h5, -⟩ := find_run A hN (fun _ => 0) (fun _ _ => 0) none (nI d) (nI d)
  obtain ⟨Rb', c', g1, g2, g3, g4, g5, -⟩ := find_run A hN (fun _ => 0) (fun _ _ => 0) none (nI d') (nI d')
  have ec := all_cut A X (Nat.le_refl d) hdd h2 h4
  have ec' := all_cut A X hd hd' g2 g4
  subst ec
  subst ec'
  have hk : ∀ i, i < n → (kn R (nI d') i ↔ kn R (nI d) i) := fun i hi => by rw [kn_now A X hd hd' hi, kn_now A X (Nat.le_refl d) hdd hi]
  have eb := begin_eq A A hN (k := nI d) (k' := nI d') (Nat.le_refl n) (fun _ _ => rfl) (fun _ _ _ => ⟨rfl, rfl⟩) hk (fun i h1 h2 => by omega) h1
  rw [g1] at eb
  obtain ⟨-, eb, -⟩ := some3 eb
  subst eb
  rw [e] at h5
  obtain ⟨-, h5, -⟩ := some3 h5
  refine ⟨_, _, _, g5, ?_⟩
  rw [segA_c (R := R) (R' := R) (od := od) (od' := od) (ad := ad) (ad' := ad) (k := nI d) (k' := nI d') c' 0 (fun i _ h => ⟨hk _ (A.odr i (by omega)).1, rfl⟩), ← h5]
  exact hl
end with_acts
/-- an act that is so behind all others -/
theorem ki_tell {n m P P' : Nat} {od od' ad ad' : Nat → Nat} {I I' : OI} {R R' : RI} {AL AL' : List Nat} {AI AI' : Nat → OI} {AR AR' : Nat → OO} {ta ta' : Int32} {ea ea' : Option Nat} {wa wa' : OO} {d : Nat} (A : AC n m P od ad I R AL AI AR ta ea wa) (X : AX n d R) (A' : AC (n + 1) (m + 1) P' od' ad' I' R' AL' AI' AR' ta' ea' wa') (X' : AX (n + 1) d R') {N : Nat} (hN : 200 ≤ N)
    (ho : ∀ j, j < m → od' j = od j) (hom : od' m = n) (ha : ∀ i, i < n → ad' i = ad i) (hr : ∀ c, c < 8 → ∀ i, i < n → R' c i = R c i) (hi : ∀ i, i < n → AI' (ad i) = AI (ad i)) (h7 : R' 0 n ≠ 7) (hs : R' 7 n = -1) {Rk : RI} (K : KI N AL ta ea wa AI AR d Rk) : KI N AL' ta' ea' wa' AI' AR' d (hapv AI' (ad' n) Rk) := by
  have hdd := X.dd
  obtain ⟨Ik1, Rk1, cm1, e, hl⟩ := K
  obtain ⟨Rb, c, h1, h2, h3, h4, h5, -⟩ := find_run A hN (fun _ => 0) (fun _ _ => 0) none (nI d) (nI d)
  obtain ⟨Rb', c', g1, g2, g3, g4, g5, -⟩ := find_run A' hN (fun _ => 0) (fun _ _ => 0) none (nI d) (nI d)
  have ec := all_cut A X (Nat.le_refl d) hdd h2 h4
  have ec' := all_cut A' X' (Nat.le_refl d) hdd g2 g4
  subst ec
  subst ec'
  have hk : ∀ i, i < n → (kn R' (nI d) i ↔ kn R (nI d) i) := fun i hi => by rw [kn_now A' X' (Nat.le_refl d) hdd (by omega), kn_now A X (Nat.le_refl d) hdd hi, hr 7 (by omega) i hi]
  have eb := begin_eq A A' hN (k := nI d) (k' := nI d) (by omega) (fun i hi => hr 0 (by omega) i hi) (fun i hi _ => ⟨hr 3 (by omega) i hi, hr 4 (by omega) i hi⟩) hk (fun i z1 z2 => by rw [show i = n by omega]; exact h7) h1
  rw [g1] at eb
  obtain ⟨-, eb, -⟩ := some3 eb
  subst eb
  rw [e] at h5
  obtain ⟨-, h5, -⟩ := some3 h5
  refine ⟨_, _, _, g5, ?_⟩
  have kx : kn R' (nI d) (od' c) := by
    rw [hom]
    exact (kn_now A' X' (Nat.le_refl d) hdd (by omega)).mpr hs
  have es : segA R' od' ad' (nI d) (0 + c) 1 = [ad' n] := by
    rw [Nat.zero_add]
    show (if kn R' (nI d) (od' c) then ad' (od' c) :: segA R' od' ad' (nI d) (c + 1) 0 else segA R' od' ad' (nI d) (c + 1) 0) = _
    rw [if_pos kx, hom]
    rfl
  rw [segA_add R' od' ad' (nI d) c 0 1, es, run_app, segA_c (R := R) (R' := R') (od := od) (od' := od') (ad := ad) (ad' := ad') (k := nI d) (k' := nI d) c 0 (fun i _ h => by rw [ho i (by omega)]; exact ⟨hk _ (A.odr i (by omega)).1, ha _ (A.odr i (by omega)).1⟩), run_ai (AI := AI) (AI' := AI') (segA R od ad (nI d) 0 c) Rb' (fun x hx => by
    obtain ⟨i, -, h6, rfl⟩ := segA_m c 0 hx
    exact hi _ (A.odr i (by omega)).1), ← h5]
  exact hapv_LEq hl AI' (ad' n)
end PKi
