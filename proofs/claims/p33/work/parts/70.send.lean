/-! ===== PURE: rolls are delivered ===== -/
section PSd
/-- the state while a roll is delivered -/
abbrev SD (t r p M nr : Nat) (I0 : OI) (R1 : RI) (Ia : OI) (R : RI) (Ir : OI) (Rr : RI) (RL : List RLT) : Prop := (∀ c, c ≠ 8 → Ia c = I0 c) ∧ Ia 8 = nI M ∧ (∀ c, c ≠ 24 → c ≠ 25 → c ≠ 26 → R c = R1 c) ∧ RO1 R M r nr Ir Rr ∧ (∀ i e, i ≠ r → RL[i]? = some e → RO1 R M i e.2.2.1 e.2.2.2.1 e.2.2.2.2) ∧ M ≤ 24 * t + p ∧ (∀ j, j < M → ∃ i, i < RL.length ∧ R 25 j = nI i) ∧ (∀ i q, RL.length ≤ i → i < 5 → q < 24 → R 24 (24 * i + q) = -1)
theorem SD.next {t r p M nr : Nat} {I0 Ia : OI} {R1 R : RI} {Ir : OI} {Rr : RI} {RL : List RLT} (h : SD t r p M nr I0 R1 Ia R Ir Rr RL) : SD t r (p + 1) M nr I0 R1 Ia R Ir Rr RL := ⟨h.1, h.2.1, h.2.2.1, h.2.2.2.1, h.2.2.2.2.1, by have := h.2.2.2.2.2.1; omega, h.2.2.2.2.2.2⟩
section one
variable {N t d r P : Nat} {I0 Ix Ik : OI} {R1 Rx Rk : RI} {cmk : Option Nat} {rs : OO} {or : Nat} {RL : List RLT}
/-- what a message makes of the reference's rows -/
def sentR (R : RI) (r p M : Nat) (v x : Int32) : RI := va_up (va_up (va_up R 26 (upd (R 26) M v)) 25 (upd (R 25) M (nI r))) 24 (upd (R 24) (24 * r + p) x)
theorem SD.sent {p M nr : Nat} {Ia : OI} {R : RI} {Ir : OI} {Rr : RI} (h : SD t r p M nr I0 R1 Ia R Ir Rr RL) (hr : r < RL.length) (hl5 : RL.length ≤ 5) {hh x : Nat} (hp : p < 24) (h16 : hh < 16) (hx : x ≤ 3) (hcap : (msgs R r M).length < nr) : SD t r (p + 1) (M + 1) nr I0 R1 (va_up Ia 8 (nI (M + 1))) (sentR R r p M (nI (1000 * p + 10 * hh + x)) (if x = 2 then -1 else nI hh)) (va_up Ir 2 (nI ((msgs R r M).length + 1))) (va_up (va_up Rr 1 (upd (Rr 1) (msgs R r M).length (nI (1000 * p + 10 * hh + x)))) 0 (upd (Rr 0) p (if x = 2 then -1 else nI hh))) RL ∧ (msgs (sentR R r p M (nI (1000 * p + 10 * hh + x)) (if x = 2 then -1 else nI hh)) r (M + 1)).length = (msgs R r M).length + 1 := by
  obtain ⟨s1, s2, s3, s4, s5, s6, s7, s8⟩ := h
  have k22 : sentR R r p M (nI (1000 * p + 10 * hh + x)) (if x = 2 then -1 else nI hh) 22 = R 22 := by unfold sentR; rw [up_ne (by omega), up_ne (by omega), up_ne (by omega)]
  have k23 : sentR R r p M (nI (1000 * p + 10 * hh + x)) (if x = 2 then -1 else nI hh) 23 = R 23 := by unfold sentR; rw [up_ne (by omega), up_ne (by omega), up_ne (by omega)]
  have k24 : sentR R r p M (nI (1000 * p + 10 * hh + x)) (if x = 2 then -1 else nI hh) 24 = upd (R 24) (24 * r + p) (if x = 2 then -1 else nI hh) := by unfold sentR; rw [up_same]
  have k25 : sentR R r p M (nI (1000 * p + 10 * hh + x)) (if x = 2 then -1 else nI hh) 25 = upd (R 25) M (nI r) := by unfold sentR; rw [up_ne (by omega), up_same]
  have k26 : sentR R r p M (nI (1000 * p + 10 * hh + x)) (if x = 2 then -1 else nI hh) 26 = upd (R 26) M (nI (1000 * p + 10 * hh + x)) := by unfold sentR; rw [up_ne (by omega), up_ne (by omega), up_same]
  obtain ⟨q1, q2⟩ := s4.push (show r < 5 by omega) hp h16 hx hcap k22 k23 k24 k25 k26
  refine ⟨⟨fun c hc => by rw [up_ne hc]; exact s1 c hc, up_same, fun c c1 c2 c3 => ?_, q2, fun i e hi he => ?_, by omega, fun j hj => ?_, fun i q z1 z2 z3 => ?_⟩, q1⟩
  · unfold sentR
    rw [up_ne c1, up_ne c2, up_ne c3]
    exact s3 c c1 c2 c3
  · have hi5 : i < 5 := by
      have := (List.getElem?_eq_some_iff.mp he).1
      omega
    exact (s5 i e hi he).same hi hi5 (by omega) hp k22 k23 k24 k25 k26
  · rw [k25, upd_at]
    by_cases e : j = M
    · rw [if_pos e]; exact ⟨r, hr, rfl⟩
    · rw [if_neg e]; exact s7 j (by omega)
  · rw [k24, upd_ne (by omega)]
    exact s8 i q z1 z2 z3
/-- the reference's turn when something is due -/
theorem sent_m {p M : Nat} {Ia : OI} {R : RI} (hp : p < 24) (hr : r < 5) (hM : M < 16384) (h8 : Ia 8 = nI M) {hh x S : Nat} (h16 : hh < 16) (hx1 : 1 ≤ x) (hx : x ≤ 3) (e13 : x ≠ 2 → R 13 p = nI hh) {k17 : OI → RI → Int32 → Int32 → Int32 → Int32 → Option (Int32 × OI × RI)} : f_X6_send_j46 N k17 Ia R (nI r) 1 (nI p) (nI (1000 * p + 10 * hh + x)) 1 (nI S) = k17 (va_up Ia 8 (nI (M + 1))) (sentR R r p M (nI (1000 * p + 10 * hh + x)) (if x = 2 then -1 else nI hh)) (nI r) 1 (nI (S + 1)) (nI (p + 1)) := by
  have hdec := msg_dec hp h16 hx
  have hix : (24 : Int32) * nI r + nI p = nI (24 * r + p) := by rw [show (24 : Int32) = nI 24 from rfl, nI_mul, nI_ad]
  unfold f_X6_send_j46
  rw [ol_eq, nI_s1, if_neg (fun e => by have := (n_eq (b := 0) (by omega) (by omega)).mp e; omega), if_neg one0, h8, og_nI hM (by omega), nI_tn (by omega), ol_eq, og_nI hM (by omega), ol_eq, ol_eq, nI_s1, hix]
  have j119 : ∀ (I : OI) (R' : RI) (y : Int32), f_X6_send_j119 N k17 I R' (nI r) 1 (nI (S + 1)) (nI p) y (nI (24 * r + p)) = k17 I (va_up R' 24 (upd (R' 24) (24 * r + p) y)) (nI r) 1 (nI (S + 1)) (nI (p + 1)) := fun I R' y => by
    unfold f_X6_send_j119
    rw [og_nI (by omega) (by omega), nI_tn (by omega), ol_eq, ol_eq, nI_s9]
  rw [j119, j119]
  unfold sentR
  by_cases z : x = 2
  · rw [if_pos (hdec.2.2.1.mpr z), if_pos z]
    rfl
  · rw [if_neg (fun y => z (hdec.2.2.1.mp y)), og_nI hp (by omega), nI_tn (bd4 hp), up_ne (show (13 : Nat) ≠ 25 by omega), up_ne (show (13 : Nat) ≠ 26 by omega), e13 z, if_neg z]
    rfl
theorem sent_0 {k17 : OI → RI → Int32 → Int32 → Int32 → Int32 → Option (Int32 × OI × RI)} {Ia : OI} {R : RI} {p S : Nat} {y : Int32} : f_X6_send_j46 N k17 Ia R (nI r) y (nI p) 0 0 (nI S) = k17 Ia R (nI r) y (nI S) (nI (p + 1)) := by
  unfold f_X6_send_j46
  rw [ol_eq, Int32.add_zero, if_pos rfl, ol_eq, nI_s9]
section loops
variable (hd : d ≤ 30000) (hk0 : Ik 0 = nI d) (hI1 : I0 1 = nI d) (hI4 : I0 4 = nI P) (hx1 : Ix 1 = nI P) (hP : P ≤ 24) (hL : LF R1 Rk) (hC : CL (nI d) Rk) (hr : r < RL.length) (hl5 : RL.length ≤ 5) (ht : t ≤ 511)
theorem v_ne {p h x : Nat} (hp : p < 24) (hh : h < 16) (hx1 : 1 ≤ x) (hx : x ≤ 3) : ¬ nI (1000 * p + 10 * h + x) = -1 ∧ ¬ nI (1000 * p + 10 * h + x) = 0 := ⟨nI_m1 (by omega), fun e => by have := (n_eq (b := 0) (by omega) (by omega)).mp e; omega⟩
theorem send_l (hd : d ≤ 30000) (hk0 : Ik 0 = nI d) (hI1 : I0 1 = nI d) (hI4 : I0 4 = nI P) (hx1 : Ix 1 = nI P) (hP : P ≤ 24) (hL : LF R1 Rk) (hC : CL (nI d) Rk) (hr : r < RL.length) (hl5 : RL.length ≤ 5) (ht : t ≤ 511) {nr : Nat} : ∀ (c p S M : Nat) (R : RI) (Ia Ir : OI) (Rr : RI) (f f' : Nat), p + c = P → c < f → c < f' → SD t r p M nr I0 R1 Ia R Ir Rr RL → (msgs R r M).length + c ≤ nr →
    ∃ S' M' Ia' R' Ir' Rr', f_X5_deliver_l11 N nr or Ix Rx Ik Rk cmk rs f Ir Rr (nI S) (nI p) = some (0, nI S', nr, Ir', Rr') ∧ f_X6_send_l17 N f' Ia R (nI r) 1 (nI S) (nI p) = some (nI S', Ia', R') ∧ SD t r P M' nr I0 R1 Ia' R' Ir' Rr' RL
  | c, p, S, M, R, Ia, Ir, Rr, 0, f', _, hf, _, _, _ => absurd hf (by omega)
  | c, p, S, M, R, Ia, Ir, Rr, f, 0, _, _, hf, _, _ => absurd hf (by omega)
  | 0, p, S, M, R, Ia, Ir, Rr, f + 1, f' + 1, hp, hf, hf', h, hc => by
    obtain rfl : p = P := by omega
    have hle : nI p ≤ nI p := (n_le (by omega) (by omega)).mpr (Nat.le_refl p)
    refine ⟨S, M, Ia, R, Ir, Rr, ?_, ?_, h⟩
    · show f_X5_deliver_l11b N nr or Ix Rx Ik Rk cmk rs (f_X5_deliver_l11 N nr or Ix Rx Ik Rk cmk rs f) Ir Rr (nI S) (nI p) = _
      unfold f_X5_deliver_l11b
      rw [hx1, if_pos hle]
    · show f_X6_send_l17b N (f_X6_send_l17 N f') Ia R (nI r) 1 (nI S) (nI p) = _
      unfold f_X6_send_l17b
      rw [h.1 4 (by omega), hI4, if_pos hle]
  | c + 1, p, S, M, R, Ia, Ir, Rr, f + 1, f' + 1, hp, hf, hf', h, hc => by
    have hle : ¬ nI P ≤ nI p := fun e => by have := (n_le (by omega) (by omega)).mp e; omega
    have hp24 : p < 24 := by omega
    obtain ⟨s1, s2, s3, s4, s5, s6, s7, s8⟩ := h
    have e1 : ∀ z, f_X5_deliver_l11 N nr or Ix Rx Ik Rk cmk rs (f + 1) Ir Rr (nI S) (nI p) = z ↔ f_X5_deliver_l11b N nr or Ix Rx Ik Rk cmk rs (f_X5_deliver_l11 N nr or Ix Rx Ik Rk cmk rs f) Ir Rr (nI S) (nI p) = z := fun _ => Iff.rfl
    have e2 : ∀ z, f_X6_send_l17 N (f' + 1) Ia R (nI r) 1 (nI S) (nI p) = z ↔ f_X6_send_l17b N (f_X6_send_l17 N f') Ia R (nI r) 1 (nI S) (nI p) = z := fun _ => Iff.rfl
    simp only [e1, e2]
    unfold f_X5_deliver_l11b f_X6_send_l17b
    rw [hx1, s1 4 (by omega), hI4]
    simp only [if_neg hle]
    rcases due_both (Ix := Ix) (Rx := Rx) (cmk := cmk) hd hk0 ((s1 1 (by omega)).trans hI1) hL s3 hC hp24 (show r < 5 by omega) s4 with ⟨g1, g2⟩ | ⟨hh, x, h16, hx1', hx3, g1, g2, g3⟩
    · rw [g1, g2, ob1_some, ob1_some]
      simp only [if_true, ol_eq, nI_s9, sent_0]
      exact send_l hd hk0 hI1 hI4 hx1 hP hL hC hr hl5 ht c (p + 1) S M R Ia Ir Rr f f' (by omega) (by omega) (by omega) (SD.next ⟨s1, s2, s3, s4, s5, s6, s7, s8⟩) (by omega)
    · obtain ⟨v1, v2⟩ := v_ne hp24 h16 hx1' hx3
      obtain ⟨q1, q2⟩ := SD.sent ⟨s1, s2, s3, s4, s5, s6, s7, s8⟩ hr hl5 hp24 h16 hx3 (show (msgs R r M).length < nr by omega)
      obtain ⟨_, _, _, _, _, o2, _, on2, _, _, _, _⟩ := s4
      have ht1 : f_X4_take nr Ir Rr (nI (1000 * p + 10 * hh + x)) = some (va_up Ir 2 (nI ((msgs R r M).length + 1)), va_up (va_up Rr 1 (upd (Rr 1) (msgs R r M).length (nI (1000 * p + 10 * hh + x)))) 0 (upd (Rr 0) p (if x = 2 then -1 else nI hh))) := by
        unfold f_X4_take
        rw [o2, if_pos ((n_lt (by omega) (by omega)).mpr (by omega))]
        exact take_j rfl hp24 h16 hx3 (by omega) on2 o2
      rw [g1, g2, ob1_some, ob1_some]
      simp only [if_neg v1, if_neg v2, ht1, ob2_mk, ol_eq, nI_s9]
      rw [sent_m hp24 (by omega) (by omega) s2 h16 hx1' hx3 g3]
      exact send_l hd hk0 hI1 hI4 hx1 hP hL hC hr hl5 ht c (p + 1) (S + 1) (M + 1) _ _ _ _ f f' (by omega) (by omega) (by omega) q1 (by rw [q2]; omega)
theorem send_g (hd : d ≤ 30000) (hk0 : Ik 0 = nI d) (hI1 : I0 1 = nI d) (hI4 : I0 4 = nI P) (hx1 : Ix 1 = nI P) (hP : P ≤ 24) (hL : LF R1 Rk) (hC : CL (nI d) Rk) (hr : r < RL.length) (hl5 : RL.length ≤ 5) (ht : t ≤ 511) (hN : 200 ≤ N) {nr : Nat} : ∀ (c p S M : Nat) (R : RI) (Ia Ir : OI) (Rr : RI) (f f' : Nat), p + c = P → c < f → c < f' → SD t r p M nr I0 R1 Ia R Ir Rr RL →
    ∃ nr' S' M' Ia' R' Ir' Rr', f_X5_deliver_g11 N nr or Ix Rx Ik Rk cmk rs f Ir Rr (nI S) (nI p) = some (0, nI S', nr', Ir', Rr') ∧ f_X6_send_l17 N f' Ia R (nI r) 1 (nI S) (nI p) = some (nI S', Ia', R') ∧ SD t r P M' nr' I0 R1 Ia' R' Ir' Rr' RL
  | c, p, S, M, R, Ia, Ir, Rr, 0, f', _, hf, _, _ => absurd hf (by omega)
  | c, p, S, M, R, Ia, Ir, Rr, f, 0, _, _, hf, _ => absurd hf (by omega)
  | 0, p, S, M, R, Ia, Ir, Rr, f + 1, f' + 1, hp, hf, hf', h => by
    obtain rfl : p = P := by omega
    have hle : nI p ≤ nI p := (n_le (by omega) (by omega)).mpr (Nat.le_refl p)
    refine ⟨nr, S, M, Ia, R, Ir, Rr, ?_, ?_, h⟩
    · show f_X5_deliver_g11b N nr or Ix Rx Ik Rk cmk rs (f_X5_deliver_g11 N nr or Ix Rx Ik Rk cmk rs f) Ir Rr (nI S) (nI p) = _
      unfold f_X5_deliver_g11b
      rw [hx1, if_pos hle]
    · show f_X6_send_l17b N (f_X6_send_l17 N f') Ia R (nI r) 1 (nI S) (nI p) = _
      unfold f_X6_send_l17b
      rw [h.1 4 (by omega), hI4, if_pos hle]
  | c + 1, p, S, M, R, Ia, Ir, Rr, f + 1, f' + 1, hp, hf, hf', h => by
    have hle : ¬ nI P ≤ nI p := fun e => by have := (n_le (by omega) (by omega)).mp e; omega
    have hp24 : p < 24 := by omega
    have hml := msgs_len R r M
    obtain ⟨s1, s2, s3, s4, s5, s6, s7, s8⟩ := h
    have e1 : ∀ z, f_X5_deliver_g11 N nr or Ix Rx Ik Rk cmk rs (f + 1) Ir Rr (nI S) (nI p) = z ↔ f_X5_deliver_g11b N nr or Ix Rx Ik Rk cmk rs (f_X5_deliver_g11 N nr or Ix Rx Ik Rk cmk rs f) Ir Rr (nI S) (nI p) = z := fun _ => Iff.rfl
    have e2 : ∀ z, f_X6_send_l17 N (f' + 1) Ia R (nI r) 1 (nI S) (nI p) = z ↔ f_X6_send_l17b N (f_X6_send_l17 N f') Ia R (nI r) 1 (nI S) (nI p) = z := fun _ => Iff.rfl
    simp only [e1, e2]
    unfold f_X5_deliver_g11b f_X6_send_l17b
    rw [hx1, s1 4 (by omega), hI4]
    simp only [if_neg hle]
    rcases due_both (Ix := Ix) (Rx := Rx) (cmk := cmk) hd hk0 ((s1 1 (by omega)).trans hI1) hL s3 hC hp24 (show r < 5 by omega) s4 with ⟨g1, g2⟩ | ⟨hh, x, h16, hx1', hx3, g1, g2, g3⟩
    · rw [g1, g2, ob1_some, ob1_some]
      simp only [if_true, ol_eq, nI_s9, sent_0]
      exact send_g hd hk0 hI1 hI4 hx1 hP hL hC hr hl5 ht hN c (p + 1) S M R Ia Ir Rr f f' (by omega) (by omega) (by omega) (SD.next ⟨s1, s2, s3, s4, s5, s6, s7, s8⟩)
    · obtain ⟨v1, v2⟩ := v_ne hp24 h16 hx1' hx3
      have o2 := s4.2.2.2.2.2.1
      have on2 := s4.2.2.2.2.2.2.2.1
      have ogt := s4.2.2.2.2.2.2.2.2.1
      have on1 := s4.2.2.2.2.2.2.1
      rw [g1, g2, ob1_some, ob1_some]
      simp only [if_neg v1, if_neg v2, ol_eq, nI_s9]
      rw [sent_m hp24 (by omega) (by omega) s2 h16 hx1' hx3 g3]
      by_cases hcap : (msgs R r M).length < nr
      · obtain ⟨q1, q2⟩ := SD.sent ⟨s1, s2, s3, s4, s5, s6, s7, s8⟩ hr hl5 hp24 h16 hx3 hcap
        have hlt : Ir 2 < nI nr := by rw [o2]; exact (n_lt (by omega) (by omega)).mpr hcap
        have ht1 : f_X4_take nr Ir Rr (nI (1000 * p + 10 * hh + x)) = some (va_up Ir 2 (nI ((msgs R r M).length + 1)), va_up (va_up Rr 1 (upd (Rr 1) (msgs R r M).length (nI (1000 * p + 10 * hh + x)))) 0 (upd (Rr 0) p (if x = 2 then -1 else nI hh))) := by
          unfold f_X4_take
          rw [if_pos hlt]
          exact take_j rfl hp24 h16 hx3 hcap on2 o2
        simp only [if_pos hlt, ht1, ob2_mk]
        exact send_g hd hk0 hI1 hI4 hx1 hP hL hC hr hl5 ht hN c (p + 1) (S + 1) (M + 1) _ _ _ _ f f' (by omega) (by omega) (by omega) q1
      · have hgot : (msgs R r M).length = nr := by omega
        have hnlt : ¬ Ir 2 < nI nr := by rw [o2]; exact fun e => by have := (n_lt (by omega) (by omega)).mp e; omega
        obtain ⟨w1, w2, w3⟩ := s4.grow (show nr < 12288 by omega)
        obtain ⟨q1, q2⟩ := SD.sent (nr := gn nr) ⟨s1, s2, s3, w1, s5, s6, s7, s8⟩ hr hl5 hp24 h16 hx3 (show (msgs R r M).length < gn nr by omega)
        have ht1 : f_X4_takeB nr Ir Rr (nI (1000 * p + 10 * hh + x)) = some (va_up Ir 2 (nI ((msgs R r M).length + 1)), va_up (va_up (va_up Rr 1 (va_cpy (Rr 1) (fun _ => 0) 0 0 nr)) 1 (upd (va_up Rr 1 (va_cpy (Rr 1) (fun _ => 0) 0 0 nr) 1) (msgs R r M).length (nI (1000 * p + 10 * hh + x)))) 0 (upd (va_up Rr 1 (va_cpy (Rr 1) (fun _ => 0) 0 0 nr) 0) p (if x = 2 then -1 else nI hh))) := by
          unfold f_X4_takeB
          rw [if_neg hnlt, if_pos ⟨by omega, by omega⟩]
          exact take_j rfl hp24 h16 hx3 (by omega) w1.2.2.2.2.2.2.2.1 o2
        simp only [if_neg hnlt, ht1, ob2_mk]
        obtain ⟨S', M', Ia', R', Ir', Rr', z1, z2, z3⟩ := send_l (cmk := cmk) (rs := rs) (or := or) (Rx := Rx) (N := N) hd hk0 hI1 hI4 hx1 hP hL hC hr hl5 ht c (p + 1) (S + 1) (M + 1) _ _ _ _ N f' (by omega) (by omega) (by omega) q1 (by rw [q2]; omega)
        exact ⟨gn nr, S', M', Ia', R', Ir', Rr', z1, z2, z3⟩
theorem owes_l (hd : d ≤ 30000) (hk0 : Ik 0 = nI d) (hI1 : I0 1 = nI d) (hI4 : I0 4 = nI P) (hx1 : Ix 1 = nI P) (hP : P ≤ 24) (hL : LF R1 Rk) (hC : CL (nI d) Rk) (hr : r < 5) {nr M : Nat} {Ir : OI} {Rr : RI} (ro : RO1 R1 M r nr Ir Rr) : ∀ (c p S : Nat) (f f' : Nat), p + c = P → c < f → c < f' →
    ∃ S', f_X5_owes_l11 N nr or Ix Rx Ik Rk cmk rs Ir Rr f (nI S) (nI p) = some (0, nI S') ∧ f_X6_send_l17 N f' I0 R1 (nI r) 0 (nI S) (nI p) = some (nI S', I0, R1)
  | c, p, S, 0, f', _, hf, _ => absurd hf (by omega)
  | c, p, S, f, 0, _, _, hf => absurd hf (by omega)
  | 0, p, S, f + 1, f' + 1, hp, hf, hf' => by
    obtain rfl : p = P := by omega
    have hle : nI p ≤ nI p := (n_le (by omega) (by omega)).mpr (Nat.le_refl p)
    refine ⟨S, ?_, ?_⟩
    · show f_X5_owes_l11b N nr or Ix Rx Ik Rk cmk rs Ir Rr (f_X5_owes_l11 N nr or Ix Rx Ik Rk cmk rs Ir Rr f) (nI S) (nI p) = _
      unfold f_X5_owes_l11b
      rw [hx1, if_pos hle]
    · show f_X6_send_l17b N (f_X6_send_l17 N f') I0 R1 (nI r) 0 (nI S) (nI p) = _
      unfold f_X6_send_l17b
      rw [hI4, if_pos hle]
  | c + 1, p, S, f + 1, f' + 1, hp, hf, hf' => by
    have hle : ¬ nI P ≤ nI p := fun e => by have := (n_le (by omega) (by omega)).mp e; omega
    have hp24 : p < 24 := by omega
    have e1 : ∀ z, f_X5_owes_l11 N nr or Ix Rx Ik Rk cmk rs Ir Rr (f + 1) (nI S) (nI p) = z ↔ f_X5_owes_l11b N nr or Ix Rx Ik Rk cmk rs Ir Rr (f_X5_owes_l11 N nr or Ix Rx Ik Rk cmk rs Ir Rr f) (nI S) (nI p) = z := fun _ => Iff.rfl
    have e2 : ∀ z, f_X6_send_l17 N (f' + 1) I0 R1 (nI r) 0 (nI S) (nI p) = z ↔ f_X6_send_l17b N (f_X6_send_l17 N f') I0 R1 (nI r) 0 (nI S) (nI p) = z := fun _ => Iff.rfl
    simp only [e1, e2]
    unfold f_X5_owes_l11b f_X6_send_l17b
    rw [hx1, hI4]
    simp only [if_neg hle]
    rcases due_both (Ix := Ix) (Rx := Rx) (cmk := cmk) hd hk0 hI1 hL (fun _ _ _ _ => rfl) hC hp24 hr ro with ⟨g1, g2⟩ | ⟨hh, x, h16, hx1', hx3, g1, g2, g3⟩
    · rw [g1, g2, ob1_some, ob1_some]
      simp only [if_true, ol_eq, nI_s9, sent_0]
      exact owes_l hd hk0 hI1 hI4 hx1 hP hL hC hr ro c (p + 1) S f f' (by omega) (by omega) (by omega)
    · obtain ⟨v1, v2⟩ := v_ne hp24 h16 hx1' hx3
      rw [g1, g2, ob1_some, ob1_some]
      simp only [if_neg v1, if_neg v2, ol_eq, nI_s9]
      have ej : f_X6_send_j46 N (f_X6_send_l17 N f') I0 R1 (nI r) 0 (nI p) (nI (1000 * p + 10 * hh + x)) 1 (nI S) = f_X6_send_l17 N f' I0 R1 (nI r) 0 (nI (S + 1)) (nI (p + 1)) := by
        unfold f_X6_send_j46
        rw [ol_eq, nI_s1, if_neg v2, if_pos rfl, ol_eq, nI_s9]
      rw [ej]
      exact owes_l hd hk0 hI1 hI4 hx1 hP hL hC hr ro c (p + 1) (S + 1) f f' (by omega) (by omega) (by omega)
end loops
end one
end PSd
