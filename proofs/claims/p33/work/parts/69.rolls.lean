/-! ===== PURE: rolls ===== -/
section PRo
theorem msgs_lt {R R' : RI} {r : Nat} : ∀ M, (∀ j, j < M → R' 25 j = R 25 j ∧ R' 26 j = R 26 j) → msgs R' r M = msgs R r M
  | 0, _ => rfl
  | M + 1, h => by
    show msgs R' r M ++ (if R' 25 M = nI r then [R' 26 M] else []) = msgs R r M ++ (if R 25 M = nI r then [R 26 M] else [])
    rw [msgs_lt M (fun j hj => h j (by omega)), (h M (by omega)).1, (h M (by omega)).2]
/-- a message is told apart -/
theorem msg_dec {p h x : Nat} (hp : p < 24) (hh : h < 16) (hx : x ≤ 3) : f_X4_personIn (nI (1000 * p + 10 * h + x)) = some (nI p) ∧ f_X4_dwellingIn (nI (1000 * p + 10 * h + x)) = some (if x = 2 then -1 else nI h) ∧ (nI (1000 * p + 10 * h + x) - nI (1000 * p + 10 * h + x) / 10 * 10 = 2 ↔ x = 2) ∧ (∀ q, q < 24 → (nI (1000 * p + 10 * h + x) / 1000 = nI q ↔ q = p)) ∧ (nI (1000 * p + 10 * h + x) - nI (1000 * p + 10 * h + x) / 1000 * 1000) / 10 = nI h := by
  have e1 : nI (1000 * p + 10 * h + x) / 1000 = nI p := by
    rw [show (1000 : Int32) = nI 1000 from rfl, nI_div (by omega) (by omega)]
    congr 1
    omega
  have e2 : nI (1000 * p + 10 * h + x) - nI (1000 * p + 10 * h + x) / 10 * 10 = nI x := by
    rw [show (10 : Int32) = nI 10 from rfl, nI_mod (by omega) (by omega)]
    congr 1
    omega
  have e3 : (nI (1000 * p + 10 * h + x) - nI (1000 * p + 10 * h + x) / 1000 * 1000) / 10 = nI h := by
    rw [show (1000 : Int32) = nI 1000 from rfl, nI_mod (by omega) (by omega), show (10 : Int32) = nI 10 from rfl, nI_div (by omega) (by omega)]
    congr 1
    omega
  have e4 : nI x = 2 ↔ x = 2 := n_eq (b := 2) (by omega) (by omega)
  refine ⟨?_, ?_, ?_, fun q hq => ?_, e3⟩
  · unfold f_X4_personIn
    rw [e1]
  · unfold f_X4_dwellingIn
    rw [e2, e3]
    by_cases z : x = 2
    · rw [if_pos (e4.mpr z), if_pos z]
    · rw [if_neg (fun y => z (e4.mp y)), if_neg z]
  · rw [e2]; exact e4
  · rw [e1, n_eq (by omega) (by omega)]
    exact ⟨fun z => z.symm, fun z => z.symm⟩
/-- of the kind of a roll -/
def kindb (k off a h : Nat) : Bool := if k = 1 then decide (18 ≤ a) else if k = 2 then decide (6 ≤ a ∧ a ≤ 15) else if k = 3 then decide (h / 4 = off) else true
section one
variable {d r p k off M nr : Nat} {I Ix Ia Ik Ir : OI} {R R1 Rx Rk Rr : RI} {cmk : Option Nat}
theorem kind_c (hd : d ≤ 30000) (hk0 : Ik 0 = nI d) (hC : CL (nI d) Rk) (hp : p < 24) (hk : k < 4) (ek : Ir 0 = nI k) (ho : off < 4) (eo : Ir 1 = nI off) {h : Nat} (hl : Rk 1 p = 1) (hh : h < 16) (eh : Rk 2 p = nI h) : f_X5_isOfKind nr Ix Rx Ik Rk cmk Ir Rr (nI p) = some (if kindb k off (agv (Rk 7) d p) h = true then 1 else 0) := by
  have ha := agv_lt (g := Rk 7) (p := p) hd
  unfold f_X5_isOfKind
  rw [isLiving_at, ob1_ite, atv_nI hp (by omega), if_pos hl, if_neg one0, age_c hd hk0 hC hp, if_pos hl, ob1_some, ek, eo]
  have hdw : f_X2_dwellingOf Ik Rk cmk (nI p) = some (nI h) := by
    unfold f_X2_dwellingOf
    rw [atv_nI hp (by omega), eh]
  rw [hdw, ob1_some, office_nI hh, ob1_some]
  generalize agv (Rk 7) d p = a at ha
  match k, hk with
  | 0, _ => rw [if_neg (by decide), if_neg (by decide), if_neg (by decide)]; rfl
  | 1, _ =>
    rw [if_pos (by decide)]
    rw [show kindb 1 off a h = decide (18 ≤ a) from rfl]
    by_cases z : 18 ≤ a
    · rw [if_neg (fun e => by have := (n_lt (b := 18) (by omega) (by omega)).mp e; omega), if_pos (decide_eq_true z)]
    · rw [if_pos (show nI a < (18 : Int32) from (n_lt (b := 18) (by omega) (by omega)).mpr (by omega)), if_neg (fun e => z (of_decide_eq_true e))]
  | 2, _ =>
    rw [if_neg (by decide), if_pos (by decide)]
    rw [show kindb 2 off a h = decide (6 ≤ a ∧ a ≤ 15) from rfl]
    by_cases z : 6 ≤ a ∧ a ≤ 15
    · rw [if_neg (fun e => by have := (n_lt (b := 6) (by omega) (by omega)).mp e; omega), if_neg (fun e => by have := (n_lt (a := 15) (by omega) (by omega)).mp e; omega), if_pos (decide_eq_true z)]
    · rw [if_neg (c := decide (6 ≤ a ∧ a ≤ 15) = true) (fun e => z (of_decide_eq_true e))]
      by_cases y : nI a < (6 : Int32)
      · rw [if_pos y]
      · rw [if_neg y, if_pos]
        have y2 : ¬ a < 6 := fun w => y ((n_lt (b := 6) (by omega) (by omega)).mpr w)
        exact (n_lt (a := 15) (by omega) (by omega)).mpr (by omega)
  | 3, _ =>
    rw [if_neg (by decide), if_neg (by decide), if_pos (by decide)]
    rw [show kindb 3 off a h = decide (h / 4 = off) from rfl]
    by_cases z : h / 4 = off
    · rw [if_pos (by rw [z]), if_pos (decide_eq_true z)]
    · rw [if_neg (fun e => z ((n_eq (by omega) (by omega)).mp e)), if_neg (fun e => z (of_decide_eq_true e))]
theorem kind_m (hd : d ≤ 30000) (hI1 : Ia 1 = nI d) (hL : LF R1 Rk) (hR : ∀ c, c ≠ 24 → c ≠ 25 → c ≠ 26 → R c = R1 c) (hC : CL (nI d) Rk) (hp : p < 24) (hr : r < 5) (hk : k < 4) (ek : R 22 r = nI k) (ho : off < 4) (eo : R 23 r = nI off) : f_X6_belongs Ia R (nI r) (nI p) = some (if Rk 1 p = 1 ∧ kindb k off (agv (Rk 7) d p) (Rk 2 p).toNatClampNeg = true then 1 else 0) := by
  have ha := agv_lt (g := Rk 7) (p := p) hd
  have hage : f_X6_ageOf Ia R (nI p) (nI d) = some (if Rk 1 p = 1 then nI (agv (Rk 7) d p) else -1) := by
    rw [← age_m (I := Ia) hd hL hC hp]
    unfold f_X6_ageOf
    rw [hR 12 (by omega) (by omega) (by omega), hR 17 (by omega) (by omega) (by omega)]
  unfold f_X6_belongs
  rw [hI1, hage, ob1_some]
  by_cases hl : Rk 1 p = 1
  · obtain ⟨h, hh, eh⟩ := hC.hl p hp hl
    have e13 : R 13 p = nI h := by rw [hR 13 (by omega) (by omega) (by omega), ← hL.hm p hp]; exact eh
    have hq : (Rk 1 p = 1 ∧ kindb k off (agv (Rk 7) d p) (Rk 2 p).toNatClampNeg = true) ↔ kindb k off (agv (Rk 7) d p) h = true :=
      ⟨fun z => by have := z.2; rwa [eh, nI_tn (by omega)] at this, fun z => ⟨hl, by rw [eh, nI_tn (by omega)]; exact z⟩⟩
    rw [if_pos hl, if_neg (nI_m1 (by omega)), og_nI hr (by omega), nI_tn (by omega), ek, ol_eq, og_nI hp (by omega), og_nI hr (by omega), nI_tn (bd4 hp), eo, e13]
    have fin : ∀ z : Option Int32, z = some (if kindb k off (agv (Rk 7) d p) h = true then 1 else 0) → z = some (if Rk 1 p = 1 ∧ kindb k off (agv (Rk 7) d p) (Rk 2 p).toNatClampNeg = true then 1 else 0) := fun z hz => by
      rw [hz]
      by_cases y : kindb k off (agv (Rk 7) d p) h = true
      · rw [if_pos y, if_pos (hq.mpr y)]
      · rw [if_neg y, if_neg (fun w => y (hq.mp w))]
    apply fin
    generalize agv (Rk 7) d p = a at ha
    match k, hk with
    | 0, _ => rw [if_neg (by decide), if_neg (by decide), if_neg (by decide)]; rfl
    | 1, _ =>
      rw [if_pos (by decide)]
      rw [show kindb 1 off a h = decide (18 ≤ a) from rfl]
      by_cases z : 18 ≤ a
      · rw [if_neg (fun e => by have := (n_lt (b := 18) (by omega) (by omega)).mp e; omega), if_pos (decide_eq_true z)]
      · rw [if_pos (show nI a < (18 : Int32) from (n_lt (b := 18) (by omega) (by omega)).mpr (by omega)), if_neg (fun e => z (of_decide_eq_true e))]
    | 2, _ =>
      rw [if_neg (by decide), if_pos (by decide)]
      unfold f_X6_within
      rw [show kindb 2 off a h = decide (6 ≤ a ∧ a ≤ 15) from rfl]
      by_cases z : 6 ≤ a ∧ a ≤ 15
      · rw [if_neg (fun e => by have := (n_lt (b := 6) (by omega) (by omega)).mp e; omega), if_neg (fun e => by have := (n_lt (a := 15) (by omega) (by omega)).mp e; omega), if_pos (decide_eq_true z), ob1_some, oz_1]
      · rw [if_neg (c := decide (6 ≤ a ∧ a ≤ 15) = true) (fun e => z (of_decide_eq_true e))]
        by_cases y : nI a < (6 : Int32)
        · rw [if_pos y, ob1_some, oz_0]
        · have y2 : ¬ a < 6 := fun w => y ((n_lt (b := 6) (by omega) (by omega)).mpr w)
          rw [if_neg y, if_pos (show (15 : Int32) < nI a from (n_lt (a := 15) (by omega) (by omega)).mpr (by omega)), ob1_some, oz_0]
    | 3, _ =>
      rw [if_neg (by decide), if_neg (by decide), if_pos (by decide)]
      rw [show kindb 3 off a h = decide (h / 4 = off) from rfl, show nI h / 4 = nI (h / 4) from nI_div (b := 4) (by omega) (by omega)]
      by_cases z : h / 4 = off
      · rw [if_pos (by rw [z]), if_pos (decide_eq_true z)]
      · rw [if_neg (fun e => z ((n_eq (by omega) (by omega)).mp e)), if_neg (fun e => z (of_decide_eq_true e))]
  · rw [if_neg hl, if_pos rfl, if_neg (fun z => hl z.1)]
/-- the message that is due, in both -/
theorem due_both (hd : d ≤ 30000) (hk0 : Ik 0 = nI d) (hI1 : Ia 1 = nI d) (hL : LF R1 Rk) (hR : ∀ c, c ≠ 24 → c ≠ 25 → c ≠ 26 → R c = R1 c) (hC : CL (nI d) Rk) (hp : p < 24) (hr : r < 5) (ro : RO1 R M r nr Ir Rr) :
    (f_X5_dueTo nr Ix Rx Ik Rk cmk Ir Rr (nI p) = some (-1) ∧ f_X6_tidings Ia R (nI r) (nI p) = some 0) ∨ (∃ h x, h < 16 ∧ 1 ≤ x ∧ x ≤ 3 ∧ f_X5_dueTo nr Ix Rx Ik Rk cmk Ir Rr (nI p) = some (nI (1000 * p + 10 * h + x)) ∧ f_X6_tidings Ia R (nI r) (nI p) = some (nI (1000 * p + 10 * h + x)) ∧ (x ≠ 2 → R 13 p = nI h)) := by
  obtain ⟨o0, o1, ⟨k, hk, ek⟩, ⟨off, ho, eo⟩, o24, -, -, -, -, -, -, ov⟩ := ro
  have hix : (24 : Int32) * nI r + nI p = nI (24 * r + p) := by rw [show (24 : Int32) = nI 24 from rfl, nI_mul, nI_ad]
  have e13 : R 13 p = Rk 2 p := by rw [hR 13 (by omega) (by omega) (by omega)]; exact (hL.hm p hp).symm
  have hm := kind_m (Ia := Ia) hd hI1 hL hR hC hp hr hk ek ho eo
  have w1 : ∀ (h x : Nat), f_X4_write (nI p) (nI h) (nI x) = some (nI (1000 * p + 10 * h + x)) := fun h x => by
    unfold f_X4_write
    rw [show (1000 : Int32) = nI 1000 from rfl, show (10 : Int32) = nI 10 from rfl, nI_mul, nI_mul, nI_ad, nI_ad]
  have m1 : ∀ (h x : Nat), ((1000 : Int32) * nI p + 10 * nI h) + nI x = nI (1000 * p + 10 * h + x) := fun h x => by
    rw [show (1000 : Int32) = nI 1000 from rfl, show (10 : Int32) = nI 10 from rfl, nI_mul, nI_mul, nI_ad, nI_ad]
  have m2 : (1000 : Int32) * nI p + 2 = nI (1000 * p + 10 * 0 + 2) := by
    rw [show (1000 : Int32) = nI 1000 from rfl, show (2 : Int32) = nI 2 from rfl, nI_mul, nI_ad]
  unfold f_X5_dueTo f_X6_tidings
  rw [hix, og_nI (by omega) (by omega), nI_tn (by omega), atv_nI hp (by omega), o24 p hp, ol_eq, ol_eq, hm, ob1_ite]
  have j30 : ∀ (y had : Int32), f_X5_dueTo_j30 nr Ix Rx Ik Rk cmk Ir Rr (nI p) had y = if y = had then some (-1) else if had = -1 then f_X4_write (nI p) y 1 else if y = -1 then f_X4_write (nI p) 0 2 else f_X4_write (nI p) y 3 := fun y had => by
    unfold f_X5_dueTo_j30
    simp only [ob1_id]
  have hdw : f_X2_dwellingOf Ik Rk cmk (nI p) = some (Rk 2 p) := by
    unfold f_X2_dwellingOf
    rw [atv_nI hp (by omega)]
  have hv := ov p hp
  generalize R 24 (24 * r + p) = had at hv ⊢
  -- who is not of it
  have out : ∃ z1 z2 : Option Int32, z1 = (if (-1 : Int32) = had then some (-1) else if had = -1 then f_X4_write (nI p) (-1) 1 else if (-1 : Int32) = -1 then f_X4_write (nI p) 0 2 else f_X4_write (nI p) (-1) 3) ∧ z2 = (if had = -1 then some 0 else some ((1000 : Int32) * nI p + 2)) ∧ ((z1 = some (-1) ∧ z2 = some 0) ∨ (∃ h x, h < 16 ∧ 1 ≤ x ∧ x ≤ 3 ∧ z1 = some (nI (1000 * p + 10 * h + x)) ∧ z2 = some (nI (1000 * p + 10 * h + x)) ∧ (x ≠ 2 → R 13 p = nI h))) := by
    refine ⟨_, _, rfl, rfl, ?_⟩
    by_cases e : had = -1
    · rw [if_pos e.symm, if_pos e]; exact Or.inl ⟨rfl, rfl⟩
    · rw [if_neg (fun z => e z.symm), if_neg e, if_neg e, if_pos rfl, m2]
      exact Or.inr ⟨0, 2, by omega, by omega, by omega, w1 0 2, rfl, fun z => absurd rfl z⟩
  obtain ⟨z1, z2, ez1, ez2, hz⟩ := out
  by_cases hl : Rk 1 p = 1
  · obtain ⟨h, hh, eh⟩ := hC.hl p hp hl
    rw [kind_c hd hk0 hC hp hk (o0.trans ek) ho (o1.trans eo) hl hh eh, ob1_ite]
    by_cases hb : kindb k off (agv (Rk 7) d p) h = true
    · have hB : Rk 1 p = 1 ∧ kindb k off (agv (Rk 7) d p) (Rk 2 p).toNatClampNeg = true := ⟨hl, by rw [eh, nI_tn (by omega)]; exact hb⟩
      rw [if_pos hb, if_neg one0, if_pos hB, if_neg one0, hdw, ob1_some, j30, og_nI hp (by omega), og_nI hp (by omega), nI_tn (bd4 hp), e13, eh]
      by_cases e : nI h = had
      · rw [if_pos e, if_pos e.symm]; exact Or.inl ⟨rfl, rfl⟩
      · have e' : ¬ had = nI h := fun z => e z.symm
        rw [if_neg e, if_neg e']
        by_cases e2 : had = -1
        · rw [if_pos e2, if_pos e2]
          exact Or.inr ⟨h, 1, hh, by omega, by omega, w1 h 1, congrArg some (m1 h 1), fun _ => rfl⟩
        · rw [if_neg e2, if_neg e2, if_neg (nI_m1 (by omega))]
          exact Or.inr ⟨h, 3, hh, by omega, by omega, w1 h 3, congrArg some (m1 h 3), fun _ => rfl⟩
    · have hB' : ¬ (Rk 1 p = 1 ∧ kindb k off (agv (Rk 7) d p) (Rk 2 p).toNatClampNeg = true) := fun z => hb (by have := z.2; rwa [eh, nI_tn (by omega)] at this)
      rw [if_neg hb, if_pos (show (0 : Int32) = 0 from rfl), if_neg hB', if_pos (show (0 : Int32) = 0 from rfl), j30, ← ez1, ← ez2]
      exact hz
  · have hno : f_X5_isOfKind nr Ix Rx Ik Rk cmk Ir Rr (nI p) = some 0 := by
      unfold f_X5_isOfKind
      rw [isLiving_at, ob1_ite, atv_nI hp (by omega), if_neg hl, if_pos rfl]
    have hB' : ¬ (Rk 1 p = 1 ∧ kindb k off (agv (Rk 7) d p) (Rk 2 p).toNatClampNeg = true) := fun z => hl z.1
    rw [hno, ob1_some, if_pos (show (0 : Int32) = 0 from rfl), if_neg hB', if_pos (show (0 : Int32) = 0 from rfl), j30, ← ez1, ← ez2]
    exact hz
/-- a message goes to another roll -/
theorem RO1.same {i : Nat} {R' : RI} {v x : Int32} (h : RO1 R M i nr Ir Rr) (hi : i ≠ r) (hi5 : i < 5) (hr5 : r < 5) (hp : p < 24) (h22 : R' 22 = R 22) (h23 : R' 23 = R 23) (h24 : R' 24 = upd (R 24) (24 * r + p) x) (h25 : R' 25 = upd (R 25) M (nI r)) (h26 : R' 26 = upd (R 26) M v) : RO1 R' (M + 1) i nr Ir Rr := by
  obtain ⟨o0, o1, ok, oo, o24, o2, on1, on2, ogt, om, oa, ov⟩ := h
  have em : msgs R' i (M + 1) = msgs R i M := by
    show msgs R' i M ++ (if R' 25 M = nI i then [R' 26 M] else []) = msgs R i M
    rw [h25, upd_same, if_neg (fun e => hi ((n_eq (by omega) (by omega)).mp e).symm), List.append_nil]
    exact msgs_lt M (fun j hj => by rw [h25, h26, upd_ne (by omega), upd_ne (by omega)]; exact ⟨rfl, rfl⟩)
  have e24 : ∀ q, q < 24 → R' 24 (24 * i + q) = R 24 (24 * i + q) := fun q hq => by rw [h24, upd_ne (by omega)]
  unfold RO1
  rw [em, h22, h23]
  exact ⟨o0, o1, ok, oo, fun q hq => by rw [e24 q hq]; exact o24 q hq, o2, on1, on2, ogt, om, fun q hq => by rw [e24 q hq]; exact oa q hq, fun q hq => by rw [e24 q hq]; exact ov q hq⟩
/-- a message goes to this roll -/
theorem RO1.push {R' : RI} {h x : Nat} (ho : RO1 R M r nr Ir Rr) (hr5 : r < 5) (hp : p < 24) (hh : h < 16) (hx : x ≤ 3) (hcap : (msgs R r M).length < nr) (h22 : R' 22 = R 22) (h23 : R' 23 = R 23) (h24 : R' 24 = upd (R 24) (24 * r + p) (if x = 2 then -1 else nI h)) (h25 : R' 25 = upd (R 25) M (nI r)) (h26 : R' 26 = upd (R 26) M (nI (1000 * p + 10 * h + x))) :
    (msgs R' r (M + 1)).length = (msgs R r M).length + 1 ∧ RO1 R' (M + 1) r nr (va_up Ir 2 (nI ((msgs R r M).length + 1))) (va_up (va_up Rr 1 (upd (Rr 1) (msgs R r M).length (nI (1000 * p + 10 * h + x)))) 0 (upd (Rr 0) p (if x = 2 then -1 else nI h))) := by
  obtain ⟨o0, o1, ok, oo, o24, o2, on1, on2, ogt, om, oa, ov⟩ := ho
  have em : msgs R' r (M + 1) = msgs R r M ++ [nI (1000 * p + 10 * h + x)] := by
    show msgs R' r M ++ (if R' 25 M = nI r then [R' 26 M] else []) = _
    rw [h25, upd_same, if_pos rfl, h26, upd_same]
    congr 1
    exact msgs_lt M (fun j hj => by rw [h25, h26, upd_ne (by omega), upd_ne (by omega)]; exact ⟨rfl, rfl⟩)
  have el : (msgs R' r (M + 1)).length = (msgs R r M).length + 1 := by rw [em, List.length_append]; rfl
  have hdec := msg_dec hp hh hx
  have ev : ∀ q, q < 24 → R' 24 (24 * r + q) = if q = p then (if x = 2 then -1 else nI h) else R 24 (24 * r + q) := fun q hq => by
    rw [h24, upd_at]
    by_cases e : q = p
    · rw [if_pos e, if_pos (by omega)]
    · rw [if_neg e, if_neg (by omega)]
  refine ⟨el, ?_⟩
  unfold RO1
  rw [el, h22, h23]
  refine ⟨(up_ne (show (0 : Nat) ≠ 2 by omega)).trans o0, (up_ne (show (1 : Nat) ≠ 2 by omega)).trans o1, ok, oo, fun q hq => ?_, up_same, on1, on2, by omega, fun j hj => ?_, fun q hq => ?_, fun q hq => ?_⟩
  · rw [ev q hq, up_same, upd_at]
    by_cases e : q = p
    · rw [if_pos e, if_pos e]
    · rw [if_neg e, if_neg e]; exact o24 q hq
  · rw [em, up_ne (show (1 : Nat) ≠ 0 by omega), up_same, upd_at]
    by_cases e : j = (msgs R r M).length
    · rw [if_pos e, e, List.getElem?_append_right (Nat.le_refl _), Nat.sub_self]
      rfl
    · rw [if_neg e, List.getElem?_append_left (by omega)]
      exact om j (by omega)
  · rw [em, ev q hq]
    unfold anew
    rw [List.foldl_append]
    show anewF q (anew (msgs R r M) q) (nI (1000 * p + 10 * h + x)) = _
    unfold anewF
    by_cases e : q = p
    · rw [if_pos ((hdec.2.2.2.1 q hq).mpr e), if_pos e]
      by_cases z : x = 2
      · rw [if_pos (hdec.2.2.1.mpr z), if_pos z]
      · rw [if_neg (fun y => z (hdec.2.2.1.mp y)), if_neg z]; exact hdec.2.2.2.2
    · rw [if_neg (fun y => e ((hdec.2.2.2.1 q hq).mp y)), if_neg e]; exact oa q hq
  · rw [ev q hq]
    by_cases e : q = p
    · rw [if_pos e]
      by_cases z : x = 2
      · rw [if_pos z]; exact Or.inl rfl
      · rw [if_neg z]; exact Or.inr ⟨h, hh, rfl⟩
    · rw [if_neg e]; exact ov q hq
theorem RO1.grow (ho : RO1 R M r nr Ir Rr) (hn : nr < 12288) : RO1 R M r (gn nr) Ir (va_up Rr 1 (va_cpy (Rr 1) (fun _ => 0) 0 0 nr)) ∧ nr + 1 ≤ gn nr ∧ (nr + 24 ≤ gn nr ∨ gn nr = 12288) := by
  obtain ⟨o0, o1, ok, oo, o24, o2, on1, on2, ogt, om, oa, ov⟩ := ho
  have hg : nr + 1 ≤ gn nr ∧ gn nr ≤ 12288 ∧ (nr + 24 ≤ gn nr ∨ gn nr = 12288) := by
    unfold gn
    split <;> omega
  refine ⟨⟨o0, o1, ok, oo, o24, o2, by omega, hg.2.1, by omega, fun j hj => ?_, oa, ov⟩, hg.1, hg.2.2⟩
  rw [up_same]
  unfold va_cpy
  rw [if_pos ⟨Nat.zero_le j, by omega⟩, Nat.zero_add, Nat.sub_zero]
  exact om j hj
theorem take_j {v h x : Nat} (ev : v = 1000 * p + 10 * h + x) (hp : p < 24) (hh : h < 16) (hx : x ≤ 3) {got : Nat} (hg : got < nr) (hn : nr ≤ 12288) (h2 : Ir 2 = nI got) : f_X4_take_j16 nr Ir Rr (nI v) = some (va_up Ir 2 (nI (got + 1)), va_up (va_up Rr 1 (upd (Rr 1) got (nI v))) 0 (upd (Rr 0) p (if x = 2 then -1 else nI h))) := by
  obtain ⟨d1, d2, -⟩ := msg_dec hp hh hx
  rw [← ev] at d1 d2
  unfold f_X4_take_j16 ogn
  rw [h2, if_neg (fun e => by have := (n_le (by omega) (by omega)).mp e; omega), if_pos (by omega)]
  simp only [ol_eq]
  rw [d1, ob1_some, d2, ob1_some, putv_nI (by omega) (by omega), putv_nI hp (by omega), nI_s1, up_ne (show (0 : Nat) ≠ 1 by omega)]
end one
end PRo
