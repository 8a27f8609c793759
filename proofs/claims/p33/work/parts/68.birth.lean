/-! ===== PURE: birth ===== -/
section PBi
abbrev T13 : Type := Nat × Int32 × OI × Int32 × Option Nat × OO × OI × RI × Option Nat × OI × RI × (Nat → OI) × (Nat → OO)
section sims
variable {N t n m P d g : Nat} {od ad : Nat → Nat} {Ix : OI} {Rx : RI} {ta : Int32} {ea : Option Nat} {wa : OO} {Ik : OI} {Rk : RI} {cmk : Option Nat} {In : OI} {Rn : RI} {AL : List Nat} {AI : Nat → OI} {AR : Nat → OO} {rs : OO} {RL : List RLT} {I : OI} {R : RI}
abbrev IV13 (N t : Nat) (Rx : RI) (o : T13) (AL : List Nat) (rs : OO) (RL : List RLT) (I : OI) (R : RI) : Prop := IV N t o.2.2.1 Rx o.2.2.2.1 o.2.2.2.2.1 o.2.2.2.2.2.1 o.2.2.2.2.2.2.1 o.2.2.2.2.2.2.2.1 o.2.2.2.2.2.2.2.2.1 o.2.2.2.2.2.2.2.2.2.1 o.2.2.2.2.2.2.2.2.2.2.1 AL o.2.2.2.2.2.2.2.2.2.2.2.1 o.2.2.2.2.2.2.2.2.2.2.2.2 rs RL I R
abbrev BSim (N t : Nat) (Rx : RI) (o0 : T13) (AL : List Nat) (rs : OO) (RL : List RLT) (z : Option (Nat → Option T13)) (zM : Option (Int32 × OI × RI)) : Prop := ∃ outf outM, z = some outf ∧ zM = some outM ∧ ∀ q o8, outf q = some o8 → (o8.1 = 0 → q ∉ AL) → CRel e123 o8.1 (outM.2.1 0) ∧ (o8.1 = 0 → o8.2.1 = outM.1 ∧ IV13 N (t + 1) Rx o8 (AL ++ [q]) rs RL outM.2.1 outM.2.2) ∧ (o8.1 ≠ 0 → IV13 N (t + 1) Rx o0 AL rs RL outM.2.1 outM.2.2)
theorem birth_ok (hN : 700 ≤ N) (h : IVc N t n m P d g od ad Ix Rx ta ea wa Ik Rk cmk In Rn AL AI AR rs RL I R) (hn : n < 150) (hP24 : P < 24) (hg : g < 60) {b h0 : Nat} {mo nm : Int32} (hb : b ≤ d) (hmo : PN P mo) (hh : h0 < 16) :
    ∃ outM, f_X6_birth_j109 N I R (nI b) mo (nI h0) nm 0 = some outM ∧ outM.1 = nI P ∧ outM.2.1 0 = 0 ∧ ∃ In' Rn', f_X3_give N In Rn (nI P) = some (nI (10 * ser (g + 1) + chk (ser (g + 1))), In', Rn') ∧ ∀ q, q ∉ AL → ∃ o9 : T9, f_X5_tell N (AL ++ [q]) (va_up Ix 1 (nI (P + 1))) Rx ta ea wa Ik Rk cmk (upI (upI (actI AI q 0 (va_up Ix 1 (nI (P + 1)) 0) (nI b) (nI P) mo) q 5 (nI h0)) q 6 nm) (va_up AR q (fun _ => none)) q = some o9 ∧ IV9 N (t + 1) (va_up Ix 1 (nI (P + 1))) Rx o9 In' Rn' (AL ++ [q]) rs RL outM.2.1 outM.2.2 := by
  have h9 := h
  obtain ⟨A, X, ⟨d1, d2, d3, d4, d5⟩, K, NR, nb, ba, ro⟩ := h
  have A4 := A_up0 A 0
  have NR9 := NR
  obtain ⟨n1, n2, n3, n4, n5, n6, n7⟩ := NR
  obtain ⟨p, R', -, p2, p3, -⟩ := tell_day (N := N) (I := va_up I 0 0) (R := R) (od := od) (x1 := 0) (x2 := nI b) (x3 := nI P) (x4 := mo) (x5 := nI h0) (x6 := nm) (show 200 ≤ N by omega) hn A.mn (fun j hj => ⟨(A.odr j hj).1, (A.odr j hj).2.1⟩) A4.i2 A4.i3 (by decide)
  have g2 := give_c (N := N) (I := In) (R := Rn) (x := nI P) (by omega) hg n4 n5
  generalize hI6 : va_up (va_up (va_up I 0 0) 3 (nI (m + 1))) 2 (nI (n + 1)) = I6 at p2
  have i6 : ∀ c, c ≠ 0 → c ≠ 2 → c ≠ 3 → I6 c = I c := fun c z0 z2 z3 => by rw [← hI6, up_ne z2, up_ne z3, up_ne z0]
  have i60 : I6 0 = 0 := by rw [← hI6, up_ne (by omega), up_ne (by omega), up_same]
  have r9 : ∀ c, 9 ≤ c → R' c = R c := fun c hc => by rw [p3 c (by omega)]; exact tR_hi (by omega)
  have g1 := give_m (N := N) (I := I6) (R := R') (x := nI P) (by omega) hg ((i6 5 (by omega) (by omega) (by omega)).trans n2) ((i6 6 (by omega) (by omega) (by omega)).trans n3)
  refine ⟨(nI P, va_up (va_up (va_up I6 6 (nI (ser (g + 1)))) 5 (nI (g + 1))) 4 (nI (P + 1)), va_up (va_up R' 9 (upd (R' 9) g (nI (10 * ser (g + 1) + chk (ser (g + 1)))))) 10 (upd (R' 10) g (nI P))), ?_, rfl, ?_, _, _, g2, fun q hq => ?_⟩
  · unfold f_X6_birth_j109
    rw [refused_0, ob2_mk, if_pos rfl, up_ne (show (4 : Nat) ≠ 0 by omega), A.iP, p2, ob3_mk, i6 4 (by omega) (by omega) (by omega), A.iP, g1, ob3_mk, ol_eq, up_ne (show (4 : Nat) ≠ 5 by omega), up_ne (show (4 : Nat) ≠ 6 by omega), i6 4 (by omega) (by omega) (by omega), A.iP, nI_s1, up_same, nI_p1]
  · show va_up (va_up (va_up I6 6 (nI (ser (g + 1)))) 5 (nI (g + 1))) 4 (nI (P + 1)) 0 = 0
    rw [up_ne (by omega), up_ne (by omega), up_ne (by omega), i60]
  · have hqa : ∀ i, i < n → ad i ≠ q := fun i hi e => hq (e ▸ A.al i hi)
    have hy : ∀ y, y ≠ q → upI (upI (actI AI q 0 (va_up Ix 1 (nI (P + 1)) 0) (nI b) (nI P) mo) q 5 (nI h0)) q 6 nm y = AI y := fun y z => (upIy z).trans ((upIy z).trans (actIy z))
    obtain ⟨m', od', ea', Ik', Rk', AI', AR', I2, R2, t1, t2, t3⟩ := tell_core A4 X (show 200 ≤ N by omega) hn ((up_ne (by omega)).trans d1) (Ix := va_up Ix 1 (nI (P + 1))) (Rx := Rx) ((up_ne (by omega)).trans d2) d4 K (show P ≤ P + 1 by omega) (by omega) (k := 0) (b := b) (w := P) (oth := mo) (dw := nI h0) (nm := nm) (by omega) hb (by omega) (hmo.mo (by omega)) (fun z => by omega) (fun _ => ⟨h0, hh, rfl⟩) hq (AI0 := upI (upI (actI AI q 0 (va_up Ix 1 (nI (P + 1)) 0) (nI b) (nI P) mo) q 5 (nI h0)) q 6 nm) (AR0 := va_up AR q (fun _ => none)) (fun i hi => hy _ (hqa i hi)) (by rw [upI_q, if_neg (by omega), upI_q, if_neg (by omega), actI0]; rfl) (by rw [upI_q, if_neg (by omega), upI_q, if_neg (by omega), actI1, up_ne (by omega), d2]) (by rw [upI_q, if_neg (by omega), upI_q, if_neg (by omega), actI2]) (by rw [upI_q, if_neg (by omega), upI_q, if_neg (by omega), actI3]) (by rw [upI_q, if_neg (by omega), upI_q, if_neg (by omega), actI4]) (by rw [upI_q, if_neg (by omega), upI_q, if_pos rfl]) (by rw [upI_q, if_pos rfl]) (fun i hi => up_ne (hqa i hi)) (by rw [up_same])
    have p2' : f_X6_tell N (va_up I 0 0) R (nI 0) (nI b) (nI P) mo (nI h0) nm = some (nI n, I6, R') := p2
    rw [p2'] at t2
    obtain ⟨-, e1, e2⟩ := some3 t2
    rw [d5]
    refine ⟨_, t1, ?_⟩
    obtain ⟨⟨i2, i3, ii⟩, rr, aa, kk, k0⟩ := t3
    rw [← e1] at i2 i3
    rw [← e2] at aa
    obtain ⟨A', X'⟩ := aa (va_up (va_up (va_up I6 6 (nI (ser (g + 1)))) 5 (nI (g + 1))) 4 (nI (P + 1))) (va_up (va_up R' 9 (upd (R' 9) g (nI (10 * ser (g + 1) + chk (ser (g + 1)))))) 10 (upd (R' 10) g (nI P))) (by rw [up_ne (by omega), up_ne (by omega), up_ne (by omega)]; exact i2) (by rw [up_ne (by omega), up_ne (by omega), up_ne (by omega)]; exact i3) up_same (fun c hc => by rw [up_ne (by omega), up_ne (by omega)])
    have NR' : NumR g I6 R' In Rn := ⟨n1, (i6 5 (by omega) (by omega) (by omega)).trans n2, (i6 6 (by omega) (by omega) (by omega)).trans n3, n4, n5, by rw [r9 9 (by omega)]; exact n6, by rw [r9 10 (by omega)]; exact n7⟩
    obtain ⟨z1, z2, z3, z4, z5, z6, z7⟩ := NumR.give (v := nI (10 * ser (g + 1) + chk (ser (g + 1)))) (x := nI P) NR' hg
    have hi : ∀ c, c ≠ 0 → c ≠ 2 → c ≠ 3 → c ≠ 4 → c ≠ 5 → c ≠ 6 → va_up (va_up (va_up I6 6 (nI (ser (g + 1)))) 5 (nI (g + 1))) 4 (nI (P + 1)) c = I c := fun c y0 y2 y3 y4 y5 y6 => by rw [up_ne y4, up_ne y5, up_ne y6]; exact i6 c y0 y2 y3
    have hr : ∀ c, 11 ≤ c → va_up (va_up R' 9 (upd (R' 9) g (nI (10 * ser (g + 1) + chk (ser (g + 1)))))) 10 (upd (R' 10) g (nI P)) c = R c := fun c hc => by rw [up_ne (by omega), up_ne (by omega)]; exact r9 c (by omega)
    unfold IV9
    dsimp only
    refine ⟨n + 1, m', P + 1, d, g + 1, od', adA ad n q, A', X', ⟨(hi 1 (by omega) (by omega) (by omega) (by omega) (by omega) (by omega)).trans d1, (up_ne (show (0 : Nat) ≠ 1 by omega)).trans d2, up_same, k0, rfl⟩, kk, ⟨z1, (up_ne (show (5 : Nat) ≠ 4 by omega)).trans z2, (up_ne (show (6 : Nat) ≠ 4 by omega)).trans z3, z4, z5, z6, z7⟩, ⟨fun j hj => ?_, fun x hx => ?_⟩, ⟨?_, ?_, ?_⟩, ro.sq (by omega) (hi 7 (by omega) (by omega) (by omega) (by omega) (by omega) (by omega)) (hi 8 (by omega) (by omega) (by omega) (by omega) (by omega) (by omega)) (up_ne (show (2 : Nat) ≠ 1 by omega)) (fun c y1 y2 => hr c (by omega))⟩
    · rw [up_ne (show (9 : Nat) ≠ 10 by omega), up_same, upd_at, r9 9 (by omega)]
      by_cases e : j = g
      · rw [if_pos e, e]
      · rw [if_neg e]; exact nb.1 j (by omega)
    · rw [up_same]
      by_cases e : x = P
      · exact ⟨g, by omega, by rw [upd_same, e]⟩
      · obtain ⟨j, hj, ej⟩ := nb.2 x (by omega)
        exact ⟨j, by omega, by rw [upd_ne (by omega), r9 10 (by omega)]; exact ej⟩
    · rw [hr 27 (by omega)]; exact ba.1
    · rw [hr 28 (by omega)]; exact ba.2.1
    · rw [hr 27 (by omega)]; exact ba.2.2
theorem sim_birth (hN : 700 ≤ N) (h : IVc N t n m P d g od ad Ix Rx ta ea wa Ik Rk cmk In Rn AL AI AR rs RL I R) (x1 x2 x3 x4 : Int32) : BSim N t Rx (0, 0, Ix, ta, ea, wa, Ik, Rk, cmk, In, Rn, AI, AR) AL rs RL (f_X5_birth N AL Rx Ix ta ea wa Ik Rk cmk In Rn AI AR x1 x2 x3 x4) (f_X6_birth N I R x1 x2 x3 x4) := by
  obtain rfl := h.1.tan
  have h9 := h
  obtain ⟨A, X, ⟨d1, d2, d3, d4, d5⟩, K, NR, nb, ba, ro⟩ := h
  have hP := A.P24
  have hdd := X.dd
  obtain ⟨n1, n2, n3, n4, n5, n6, n7⟩ := NR
  have bad : ∀ (y : Int32) (k b : Nat) (zM : Option (Int32 × OI × RI)), y = nI b → (k, b) ∈ e123 → k ≠ 0 → f_X6_refused R I y = some (1, va_up I 0 y) → zM = f_X6_birth_j109 N I R x1 x2 x3 x4 y → BSim N t Rx (0, 0, Ix, nI n, ea, wa, Ik, Rk, cmk, In, Rn, AI, AR) AL rs RL (some (fun _ => some (k, 0, Ix, nI n, ea, wa, Ik, Rk, cmk, In, Rn, AI, AR))) zM := by
    intro y k b zM hy hkb hk hr hz
    refine ⟨_, (0, va_up I 0 y, R), rfl, ?_, fun q o8 e1 _ => ?_⟩
    · rw [hz]
      unfold f_X6_birth_j109
      rw [hr, ob2_mk, if_neg one0]
    · injection e1 with e1
      subst e1
      refine ⟨?_, fun z => absurd z hk, fun _ => askI h9 y⟩
      show CRel e123 k (va_up I 0 y 0)
      rw [up0, hy]
      exact cE hkb
  have m55 : ∀ y : Int32, f_X6_birth_j55 N I R x1 x2 x3 x4 0 y = f_X6_birth_j109 N I R x1 x2 x3 x4 1 := fun y => by
    unfold f_X6_birth_j55
    rw [if_pos rfl]
  have m55b : f_X6_birth_j55 N I R x1 x2 x3 x4 1 0 = f_X6_birth_j109 N I R x1 x2 x3 x4 2 := by
    unfold f_X6_birth_j55
    rw [if_neg one0, if_pos rfl]
  have hday := day_c (R := R) (Rx := Rx) hdd d1 d2 x1
  have hnm := within_c (a := 0) (b := 999) (by omega) (by omega) x4
  have m28 : f_X6_birth_j28 N I R x1 x2 x3 x4 0 = f_X6_birth_j109 N I R x1 x2 x3 x4 1 := by
    unfold f_X6_birth_j28
    rw [m55, m55]
    rcases hday with ⟨s, hs, -, e1, e2⟩ | ⟨-, e1, e2⟩
    · rw [e1, ob1_some, if_neg one0]
      rcases hnm with ⟨v, -, hv, -, b1, b2⟩ | ⟨b1, b2⟩
      · rw [show f_X6_within x4 0 999 = some 1 from b1, ob1_some, if_neg one0]
      · rw [show f_X6_within x4 0 999 = some 0 from b1, ob1_some, if_pos rfl]
    · rw [e1, ob1_some, if_pos rfl]
  have hmo : (PN P x2 ∧ f_X5_requirePersonOrNone Ix Rx x2 = some 0 ∧ f_X6_birth N I R x1 x2 x3 x4 = f_X6_birth_j13 N I R x1 x2 x3 x4) ∨ (f_X5_requirePersonOrNone Ix Rx x2 = some 1 ∧ f_X6_birth N I R x1 x2 x3 x4 = f_X6_birth_j28 N I R x1 x2 x3 x4 0) := by
    unfold f_X5_requirePersonOrNone f_X6_birth
    by_cases e : x2 = -1
    · rw [if_pos e, if_pos e]
      exact Or.inl ⟨Or.inl e, rfl, rfl⟩
    · rw [if_neg e, if_neg e]
      rcases person_c (R := R) (Rx := Rx) hP A.iP d3 x2 with ⟨p, hp, e2, a1, a2⟩ | ⟨-, a1, a2⟩
      · rw [a1, a2, ob1_some, if_neg one0, obc_0]
        exact Or.inl ⟨Or.inr ⟨p, hp, e2⟩, rfl, rfl⟩
      · rw [a1, a2, ob1_some, if_pos rfl, obc_1]
        exact Or.inr ⟨rfl, rfl⟩
  unfold f_X5_birth
  rcases hmo with ⟨hpn, a1, a2⟩ | ⟨a1, a2⟩
  · rw [a1, a2, obc_0]
    unfold f_X6_birth_j13
    rcases dwell_c x3 with ⟨w, hw, rfl, b1, b2⟩ | ⟨b1, b2⟩
    · rw [b1, b2, ob1_some, if_neg one0, obc_0]
      unfold f_X6_birth_j28
      rcases hday with ⟨s, hs, rfl, e1, e2⟩ | ⟨-, e1, e2⟩
      · rw [e1, e2, ob1_some, if_neg one0, obc_0]
        rcases hnm with ⟨v, -, hv, rfl, c1, c2⟩ | ⟨c1, c2⟩
        · rw [show f_X6_within (nI v) 0 999 = some 1 from c1, show f_X5_requireWithin (nI v) 0 999 = some 0 from c2, ob1_some, if_neg one0, obc_0]
          unfold f_X6_birth_j55
          rw [if_neg one0, if_neg one0, d3]
          by_cases hP24 : P < 24
          · rw [if_pos (show nI P < (24 : Int32) from (n_lt (b := 24) (by omega) (by omega)).mpr hP24), if_neg (fun e => by rw [A.iP] at e; have := (n_eq (b := 24) (by omega) (by omega)).mp e; omega)]
            rcases actLeft_c (Ix := Ix) (Rx := Rx) (ea := ea) (wa := wa) A.n150 A.i2 with ⟨hn, f1, f2⟩ | ⟨hn, f1, f2⟩
            · rw [if_neg f1, f2, obc_0]
              rcases numLeft_c (Ix := Ix) (Rx := Rx) (Rn := Rn) n1 n2 n4 with ⟨hg, j1, j2⟩ | ⟨hg, j1, j2⟩
              · rw [if_neg j1, j2, obc_0, ol_eq, ol_eq, nI_s1]
                obtain ⟨outM, q1, q2, q3, In', Rn', q4, q5⟩ := birth_ok (nm := nI v) hN h9 hn hP24 hg hs hpn hw
                rw [q4, ob3_mk]
                refine ⟨_, outM, onw_of (fun q hq => ?_), q1, fun q o8 z1 z2 => ?_⟩
                · obtain ⟨o9, t1, -⟩ := q5 q hq
                  refine ⟨(0, nI P, va_up Ix 1 (nI (P + 1)), o9.2.1, o9.2.2.1, o9.2.2.2.1, o9.2.2.2.2.1, o9.2.2.2.2.2.1, o9.2.2.2.2.2.2.1, In', Rn', o9.2.2.2.2.2.2.2.1, o9.2.2.2.2.2.2.2.2), ?_⟩
                  rw [init_v mem_q, ob2_mk, om_mem mem_q, om_mem mem_q, t1, ob9_some]
                · have h0 : o8.1 = 0 := by
                    have z := z1
                    obtain ⟨r, -, z⟩ := ob_spec z
                    obtain ⟨-, z⟩ := om_spec z
                    obtain ⟨-, z⟩ := om_spec z
                    obtain ⟨r2, -, z⟩ := ob_spec z
                    injection z with z
                    rw [← z]
                  obtain ⟨o9, t1, t2⟩ := q5 q (z2 h0)
                  rw [init_v mem_q, ob2_mk, om_mem mem_q, om_mem mem_q, t1, ob9_some] at z1
                  injection z1 with z1
                  subst z1
                  exact ⟨Or.inl ⟨rfl, q3⟩, fun _ => ⟨q2.symm, t2⟩, fun z => absurd rfl z⟩
              · rw [if_pos j1, j2, obc_3]
                exact bad 3 3 3 _ rfl (by decide) (by omega) refused_3 rfl
            · rw [if_pos f1, f2, obc_3]
              exact bad 3 3 3 _ rfl (by decide) (by omega) refused_3 rfl
          · rw [if_neg (show ¬ nI P < (24 : Int32) from fun e => hP24 ((n_lt (b := 24) (by omega) (by omega)).mp e)), if_pos (by rw [A.iP, show P = 24 by omega]; rfl)]
            exact bad 3 3 3 _ rfl (by decide) (by omega) refused_3 rfl
        · rw [show f_X6_within x4 0 999 = some 0 from c1, show f_X5_requireWithin x4 0 999 = some 2 from c2, ob1_some, if_pos rfl, obc_2]
          exact bad 2 2 2 _ rfl (by decide) (by omega) refused_2 m55b
      · rw [e1, e2, ob1_some, if_pos rfl, obc_2]
        exact bad 2 2 2 _ rfl (by decide) (by omega) refused_2 m55b
    · rw [b1, b2, ob1_some, if_pos rfl, obc_1]
      exact bad 1 1 1 _ rfl (by decide) (by omega) refused_1 m28
  · rw [a1, a2, obc_1]
    exact bad 1 1 1 _ rfl (by decide) (by omega) refused_1 m28
end sims
end PBi
