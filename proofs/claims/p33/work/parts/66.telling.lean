/-! ===== PURE: the telling calls ===== -/
section PTl
abbrev T9 : Type := Int32 × Int32 × Option Nat × OO × OI × RI × Option Nat × (Nat → OI) × (Nat → OO)
abbrev T10 : Type := Nat × T9
theorem ob9_some {P1 P2 P3 P4 P5 P6 P7 P8 P9 O : Type} {r : P1 × P2 × P3 × P4 × P5 × P6 × P7 × P8 × P9} {K : P1 → P2 → P3 → P4 → P5 → P6 → P7 → P8 → P9 → Option O} : ob9 (some r) K = K r.1 r.2.1 r.2.2.1 r.2.2.2.1 r.2.2.2.2.1 r.2.2.2.2.2.1 r.2.2.2.2.2.2.1 r.2.2.2.2.2.2.2.1 r.2.2.2.2.2.2.2.2 := rfl
/-- an act that was just made -/
def actI (AI : Nat → OI) (q : Nat) (x1 x2 x3 x4 x5 : Int32) : Nat → OI := upI (upI (upI (upI (upI (upI (upI (upI (va_up AI q (fun _ => 0)) q 5 (-1)) q 6 (-1)) q 7 (-1)) q 0 x1) q 1 x2) q 2 x3) q 3 x4) q 4 x5
theorem upI_q {AI : Nat → OI} {q j c : Nat} {v : Int32} : upI AI q j v q c = if c = j then v else AI q c := by
  unfold upI
  rw [up_same]
  rfl
section ai
variable {AI : Nat → OI} {q : Nat} {x1 x2 x3 x4 x5 : Int32}
theorem actI0 : actI AI q x1 x2 x3 x4 x5 q 0 = x1 := by unfold actI; simp [upI_q]
theorem actI1 : actI AI q x1 x2 x3 x4 x5 q 1 = x2 := by unfold actI; simp [upI_q]
theorem actI2 : actI AI q x1 x2 x3 x4 x5 q 2 = x3 := by unfold actI; simp [upI_q]
theorem actI3 : actI AI q x1 x2 x3 x4 x5 q 3 = x4 := by unfold actI; simp [upI_q]
theorem actI4 : actI AI q x1 x2 x3 x4 x5 q 4 = x5 := by unfold actI; simp [upI_q]
theorem actI5 : actI AI q x1 x2 x3 x4 x5 q 5 = -1 := by unfold actI; simp [upI_q]
theorem actI6 : actI AI q x1 x2 x3 x4 x5 q 6 = -1 := by unfold actI; simp [upI_q]
theorem actIy {y : Nat} (h : y ≠ q) : actI AI q x1 x2 x3 x4 x5 y = AI y := by
  unfold actI
  rw [upIy h, upIy h, upIy h, upIy h, upIy h, upIy h, upIy h, upIy h, up_ne h]
theorem init_v {AL' : List Nat} (hq : q ∈ AL') {AR : Nat → OO} : f_X0_init AL' (va_up AI q (fun _ => 0)) AR q x1 x2 x3 x4 x5 = some (actI AI q x1 x2 x3 x4 x5, AR) := by
  unfold f_X0_init actI
  simp only [om_mem hq]
end ai
theorem mem_q {AL : List Nat} {q : Nat} : q ∈ AL ++ [q] := List.mem_append_right _ (List.mem_singleton.mpr rfl)
section sims
variable {N t n m P d g : Nat} {od ad : Nat → Nat} {Ix : OI} {Rx : RI} {ta : Int32} {ea : Option Nat} {wa : OO} {Ik : OI} {Rk : RI} {cmk : Option Nat} {In : OI} {Rn : RI} {AL : List Nat} {AI : Nat → OI} {AR : Nat → OO} {rs : OO} {RL : List RLT} {I : OI} {R : RI}
abbrev IV9 (N t : Nat) (Ix : OI) (Rx : RI) (o : T9) (In : OI) (Rn : RI) (AL : List Nat) (rs : OO) (RL : List RLT) (I : OI) (R : RI) : Prop := IV N t Ix Rx o.2.1 o.2.2.1 o.2.2.2.1 o.2.2.2.2.1 o.2.2.2.2.2.1 o.2.2.2.2.2.2.1 In Rn AL o.2.2.2.2.2.2.2.1 o.2.2.2.2.2.2.2.2 rs RL I R
abbrev TRel (e : List (Nat × Nat)) (N t : Nat) (Ix : OI) (Rx : RI) (o0 : T9) (In : OI) (Rn : RI) (AL : List Nat) (rs : OO) (RL : List RLT) (outf : Nat → Option T10) (outM : Int32 × OI × RI) : Prop :=
  ∀ q o8, outf q = some o8 → (o8.1 = 0 → q ∉ AL) → CRel e o8.1 (outM.2.1 0) ∧ (o8.1 = 0 → o8.2.1 = outM.1 ∧ IV9 N t Ix Rx o8.2 In Rn (AL ++ [q]) rs RL outM.2.1 outM.2.2) ∧ (o8.1 ≠ 0 → IV9 N t Ix Rx o0 In Rn AL rs RL outM.2.1 outM.2.2)
theorem T_bad {e : List (Nat × Nat)} (h : IVc N t n m P d g od ad Ix Rx ta ea wa Ik Rk cmk In Rn AL AI AR rs RL I R) {k b : Nat} {y : Int32} (hy : y = nI b) (hkb : (k, b) ∈ e) (hk : k ≠ 0) : TRel e N (t + 1) Ix Rx (0, ta, ea, wa, Ik, Rk, cmk, AI, AR) In Rn AL rs RL (fun _ => some (k, 0, ta, ea, wa, Ik, Rk, cmk, AI, AR)) (0, va_up I 0 y, R) := by
  intro q o8 h1 _
  injection h1 with h1
  subst h1
  refine ⟨?_, fun z => absurd z hk, fun _ => askI h y⟩
  show CRel e k (va_up I 0 y 0)
  rw [up0, hy]
  exact cE hkb
theorem T_good {e : List (Nat × Nat)} {o0 : T9} {K : Nat → Option T10} {v : Int32} {I' : OI} {R' : RI} (hI : I' 0 = 0) (h0 : ∀ q o8, K q = some o8 → o8.1 = 0) (hK : ∀ q, q ∉ AL → ∃ o9 : T9, K q = some (0, o9) ∧ o9.1 = v ∧ IV9 N t Ix Rx o9 In Rn (AL ++ [q]) rs RL I' R') : ∃ outf, onw AL K = some outf ∧ TRel e N t Ix Rx o0 In Rn AL rs RL outf (v, I', R') := by
  refine ⟨K, onw_of (fun q hq => ?_), fun q o8 h1 h2 => ?_⟩
  · obtain ⟨o9, h1, -⟩ := hK q hq
    exact ⟨_, h1⟩
  · have hz := h0 q o8 h1
    obtain ⟨o9, g1, g2, g3⟩ := hK q (h2 hz)
    rw [h1] at g1
    injection g1 with g1
    subst g1
    exact ⟨Or.inl ⟨hz, hI⟩, fun _ => ⟨g2, g3⟩, fun z => absurd hz z⟩
/-- after a telling the invariant holds again -/
theorem IV.told (h : IVc N t n m P d g od ad Ix Rx ta ea wa Ik Rk cmk In Rn AL AI AR rs RL I R) {m' q : Nat} {od' : Nat → Nat} {I' : OI} {R' : RI} {ea' : Option Nat} {Ik' : OI} {Rk' : RI} {AI' : Nat → OI} {AR' : Nat → OO} (T : TOut N n m' P d q od' ad AL wa (va_up I 0 0) R I' R' ea' Ik' Rk' AI' AR') : IV N (t + 1) Ix Rx (nI (n + 1)) ea' (va_up wa n (some q)) Ik' Rk' none In Rn (AL ++ [q]) AI' AR' rs RL I' R' := by
  obtain ⟨A, X, ⟨d1, d2, d3, d4, d5⟩, K, ⟨n1, n2, n3, n4, n5, n6, n7⟩, nb, ba, ro⟩ := h
  obtain ⟨⟨i2, i3, ii⟩, rr, aa, kk, k0⟩ := T
  have hi : ∀ c, c ≠ 0 → c ≠ 2 → c ≠ 3 → I' c = I c := fun c h0 h2 h3 => (ii c h2 h3).trans (up_ne h0)
  obtain ⟨A', X'⟩ := aa I' R' i2 i3 ((hi 4 (by omega) (by omega) (by omega)).trans A.iP) (fun _ _ => rfl)
  refine ⟨n + 1, m', P, d, g, od', adA ad n q, A', X', ⟨(hi 1 (by omega) (by omega) (by omega)).trans d1, d2, d3, k0, rfl⟩, kk, ⟨n1, (hi 5 (by omega) (by omega) (by omega)).trans n2, (hi 6 (by omega) (by omega) (by omega)).trans n3, n4, n5, ?_, ?_⟩, ⟨?_, ?_⟩, ⟨?_, ?_, ?_⟩, ro.sq (by omega) (hi 7 (by omega) (by omega) (by omega)) (hi 8 (by omega) (by omega) (by omega)) rfl (fun c z1 z2 => rr c (by omega))⟩
  · rw [rr 9 (by omega)]; exact n6
  · rw [rr 10 (by omega)]; exact n7
  · rw [rr 9 (by omega)]; exact nb.1
  · rw [rr 10 (by omega)]; exact nb.2
  · rw [rr 27 (by omega)]; exact ba.1
  · rw [rr 28 (by omega)]; exact ba.2.1
  · rw [rr 27 (by omega)]; exact ba.2.2
theorem day_sim (hN : 700 ≤ N) (h : IVc N t n m P d g od ad Ix Rx ta ea wa Ik Rk cmk In Rn AL AI AR rs RL I R) (hn : n < 150) {k b w : Nat} {oth dw nm : Int32} (hk : k < 7) (hb : b ≤ d) (hw : w < P) (ho : PN P oth) (ho3 : k = 3 ∨ k = 4 ∨ k = 6 → ¬ oth = -1) (hdw : k = 0 ∨ k = 1 → ∃ h, h < 16 ∧ dw = nI h) :
    ∃ I' R', f_X6_tell N (va_up I 0 0) R (nI k) (nI b) (nI w) oth dw nm = some (nI n, I', R') ∧ I' 0 = 0 ∧ ∀ q, q ∉ AL → ∀ AI0 : Nat → OI, (∀ y, y ≠ q → AI0 y = AI y) → AI0 q 0 = nI k → AI0 q 1 = nI d → AI0 q 2 = nI b → AI0 q 3 = nI w → AI0 q 4 = oth → AI0 q 5 = dw → AI0 q 6 = nm → ∃ o9 : T9, f_X5_tell N (AL ++ [q]) Ix Rx ta ea wa Ik Rk cmk AI0 (va_up AR q (fun _ => none)) q = some o9 ∧ o9.1 = nI n ∧ IV9 N (t + 1) Ix Rx o9 In Rn (AL ++ [q]) rs RL I' R' := by
  have h9 := h
  obtain ⟨A, X, ⟨d1, d2, d3, d4, d5⟩, K, -⟩ := h
  have A4 := A_up0 A 0
  obtain ⟨p, R', -, p2, -⟩ := tell_day (N := N) (I := va_up I 0 0) (R := R) (od := od) (x1 := nI k) (x2 := nI b) (x3 := nI w) (x4 := oth) (x5 := dw) (x6 := nm) (show 200 ≤ N by omega) hn A.mn (fun j hj => ⟨(A.odr j hj).1, (A.odr j hj).2.1⟩) A4.i2 A4.i3 (by rw [show (7 : Int32) = nI 7 from rfl, n_le (by omega) (by omega)]; omega)
  refine ⟨_, R', p2, by rw [up_ne (by omega), up_ne (by omega), up_same], fun q hq AI0 hy g0 g1 g2 g3 g4 g5 g6 => ?_⟩
  have hqa : ∀ i, i < n → ad i ≠ q := fun i hi e => hq (e ▸ A.al i hi)
  obtain ⟨m', od', ea', Ik', Rk', AI', AR', I2, R2, t1, t2, t3⟩ := tell_core A4 X (show 200 ≤ N by omega) hn ((up_ne (by omega)).trans d1) (Rx := Rx) d2 d4 K (Nat.le_refl P) A.P24 hk hb hw ho ho3 hdw hq (AI0 := AI0) (AR0 := va_up AR q (fun _ => none)) (fun i hi => hy _ (hqa i hi)) g0 g1 g2 g3 g4 g5 g6 (fun i hi => up_ne (hqa i hi)) (by rw [up_same])
  rw [p2] at t2
  obtain ⟨-, e1, e2⟩ := some3 t2
  rw [d5]
  refine ⟨_, t1, rfl, ?_⟩
  rw [e1, e2]
  exact IV.told h9 t3
/-- what all telling calls but births say -/
abbrev TSim (e : List (Nat × Nat)) (N t : Nat) (Ix : OI) (Rx : RI) (ta : Int32) (ea : Option Nat) (wa : OO) (Ik : OI) (Rk : RI) (cmk : Option Nat) (In : OI) (Rn : RI) (AL : List Nat) (AI : Nat → OI) (AR : Nat → OO) (rs : OO) (RL : List RLT) (z : Option (Nat → Option T10)) (zM : Option (Int32 × OI × RI)) : Prop := ∃ outf outM, z = some outf ∧ zM = some outM ∧ TRel e N (t + 1) Ix Rx (0, ta, ea, wa, Ik, Rk, cmk, AI, AR) In Rn AL rs RL outf outM
theorem sim_move (hN : 700 ≤ N) (h : IVc N t n m P d g od ad Ix Rx ta ea wa Ik Rk cmk In Rn AL AI AR rs RL I R) (x1 x2 x3 : Int32) : TSim e123 N t Ix Rx ta ea wa Ik Rk cmk In Rn AL AI AR rs RL (f_X5_move N AL Ix Rx ta ea wa Ik Rk cmk AI AR x1 x2 x3) (f_X6_move N I R x1 x2 x3) := by
  have h9 := h
  obtain ⟨A, X, ⟨d1, d2, d3, d4, d5⟩, K, -⟩ := h
  have hP := A.P24
  have hdd := X.dd
  have bad : ∀ (y : Int32) (k b : Nat), y = nI b → (k, b) ∈ e123 → k ≠ 0 → f_X6_refused R I y = some (1, va_up I 0 y) → TSim e123 N t Ix Rx ta ea wa Ik Rk cmk In Rn AL AI AR rs RL (some (fun _ => some (k, 0, ta, ea, wa, Ik, Rk, cmk, AI, AR))) (f_X6_move_j62 N I R x1 x2 x3 y) := by
    intro y k b hy hkb hk hr
    refine ⟨_, (0, va_up I 0 y, R), rfl, ?_, T_bad h9 hy hkb hk⟩
    unfold f_X6_move_j62
    rw [hr, ob2_mk, if_neg one0]
  unfold f_X5_move f_X6_move f_X6_move_j23
  rcases person_c (R := R) (Rx := Rx) hP A.iP d3 x1 with ⟨p, hp, rfl, a1, a2⟩ | ⟨-, a1, a2⟩
  · rw [a1, a2, ob1_some, if_neg one0, obc_0]
    rcases dwell_c x3 with ⟨w, hw, rfl, b1, b2⟩ | ⟨b1, b2⟩
    · rw [b1, b2, ob1_some, if_neg one0, obc_0, if_neg one0]
      rcases day_c (R := R) (Rx := Rx) hdd d1 d2 x2 with ⟨s, hs, rfl, e1, e2⟩ | ⟨-, e1, e2⟩
      · rw [e1, e2, ob1_some, if_neg one0, obc_0, A.tan]
        rcases actLeft_c (Ix := Ix) (Rx := Rx) (ea := ea) (wa := wa) A.n150 A.i2 with ⟨hn, f1, f2⟩ | ⟨hn, f1, f2⟩
        · rw [if_neg f1, f2, obc_0]
          obtain ⟨I', R', t1, t2, t3⟩ := day_sim (k := 1) (b := s) (w := p) (oth := -1) (dw := nI w) (nm := -1) hN h9 hn (by omega) hs hp (Or.inl rfl) (fun z => by omega) (fun _ => ⟨w, hw, rfl⟩)
          obtain ⟨outf, g1, g2⟩ := T_good (N := N) (t := t + 1) (Ix := Ix) (Rx := Rx) (In := In) (Rn := Rn) (AL := AL) (rs := rs) (RL := RL) (e := e123) (o0 := (0, nI n, ea, wa, Ik, Rk, cmk, AI, AR)) (v := nI n) t2 (K := fun q1 => ob2 (f_X0_init (AL ++ [q1]) (va_up AI q1 (fun _ => 0)) (va_up AR q1 (fun _ => none)) q1 1 (Ix 0) (nI s) (nI p) (-1)) (fun AI2 AR3 => om q1 (AL ++ [q1]) (ob9 (f_X5_tell N (AL ++ [q1]) Ix Rx (nI n) ea wa Ik Rk cmk (upI AI2 q1 5 (nI w)) AR3 q1) (fun r5 ta6 ea7 wa8 Ik9 Rk10 cmk11 AI12 AR13 => some (0, r5, ta6, ea7, wa8, Ik9, Rk10, cmk11, AI12, AR13))))) (fun q o8 z => by
              obtain ⟨r, -, z⟩ := ob_spec z
              obtain ⟨-, z⟩ := om_spec z
              obtain ⟨r2, -, z⟩ := ob_spec z
              injection z with z
              rw [← z]) (fun q hq => by
              obtain ⟨o9, q1, q2, q3⟩ := t3 q hq (upI (actI AI q 1 (Ix 0) (nI s) (nI p) (-1)) q 5 (nI w)) (fun y hy => (upIy hy).trans (actIy hy)) (by rw [upI_q, if_neg (by omega), actI0]; rfl) (by rw [upI_q, if_neg (by omega), actI1, d2]) (by rw [upI_q, if_neg (by omega), actI2]) (by rw [upI_q, if_neg (by omega), actI3]) (by rw [upI_q, if_neg (by omega), actI4]) (by rw [upI_q, if_pos rfl]) (by rw [upI_q, if_neg (by omega), actI6])
              rw [A.tan] at q1
              refine ⟨o9, ?_, q2, q3⟩
              rw [init_v mem_q, ob2_mk, om_mem mem_q, q1, ob9_some])
          refine ⟨outf, _, g1, ?_, g2⟩
          unfold f_X6_move_j62
          have t1' : f_X6_tell N (va_up I 0 0) R 1 (nI s) (nI p) (-1) (nI w) (-1) = some (nI n, I', R') := t1
          rw [refused_0, ob2_mk, if_pos rfl, t1', ob3_mk]
        · rw [if_pos f1, f2, obc_3, ← A.tan]
          exact bad 3 3 3 rfl (by decide) (by omega) refused_3
      · rw [e1, e2, ob1_some, if_pos rfl, obc_2]
        exact bad 2 2 2 rfl (by decide) (by omega) refused_2
    · rw [b1, b2, ob1_some, if_pos rfl, obc_1, if_pos rfl]
      exact bad 1 1 1 rfl (by decide) (by omega) refused_1
  · rw [a1, a2, ob1_some, if_pos rfl, obc_1, if_pos rfl]
    exact bad 1 1 1 rfl (by decide) (by omega) refused_1
end sims
end PTl
