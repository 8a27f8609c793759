

set_option maxHeartbeats 4000000 in
set_option maxRecDepth 100000 in
def f_X6_actOf_j33 (R : RI) (I : OI) (x1 : Int32) (x2 : Int32) (y0 : Int32) : Option (Int32 × OI) :=
  ob2 (f_X6_refused R I y0) (fun r3 I4 => if r3 = 0 then (if x2 = 0 then (og x1 150 (some (R 0 x1.toNatClampNeg, I4))) else (if x2 = 1 then (og x1 150 (some (R 1 x1.toNatClampNeg, I4))) else (if x2 = 2 then (og x1 150 (some (R 2 x1.toNatClampNeg, I4))) else (if x2 = 3 then (og x1 150 (some (R 3 x1.toNatClampNeg, I4))) else (og x1 150 (some (R 7 x1.toNatClampNeg, I4))))))) else (some (0, I4)))
def f_X6_actOf (R : RI) (I : OI) (x1 : Int32) (x2 : Int32) : Option (Int32 × OI) :=
  ob1 (f_X6_within x1 0 ((I 2) - 1)) (fun r1 => if r1 = 0 then (f_X6_actOf_j33 R I x1 x2 1) else (ob1 (f_X6_within x2 0 4) (fun r2 => if r2 = 0 then (f_X6_actOf_j33 R I x1 x2 2) else (f_X6_actOf_j33 R I x1 x2 0))))
set_option maxHeartbeats 4000000 in
set_option maxRecDepth 100000 in
def f_X6_asOf_j45 (N : Nat) (I : OI) (R : RI) (x1 : Int32) (x2 : Int32) (x3 : Int32) (x4 : Int32) (y0 : Int32) : Option (Int32 × OI × RI) :=
  ob2 (f_X6_refused R I y0) (fun r3 I4 => if r3 = 0 then (ob1 (f_X6_goThrough N I4 R x3 x4) (fun R5 => ob2 (f_X6_tells N I4 R5 x1 x2 x3) (fun r6 R7 => some (r6, I4, R7)))) else (some (0, I4, R)))
def f_X6_asOf (N : Nat) (I : OI) (R : RI) (x1 : Int32) (x2 : Int32) (x3 : Int32) (x4 : Int32) : Option (Int32 × OI × RI) :=
  ob1 (f_X6_isPerson I R x1) (fun r1 => if r1 = 0 then (f_X6_asOf_j45 N I R x1 x2 x3 x4 1) else (ob1 (f_X6_within x2 0 6) (fun r2 => if r2 = 0 then (f_X6_asOf_j45 N I R x1 x2 x3 x4 2) else (ob1 (f_X6_isDay I R x3) (fun r8 => if r8 = 0 then (f_X6_asOf_j45 N I R x1 x2 x3 x4 2) else (ob1 (f_X6_isDay I R x4) (fun r9 => if r9 = 0 then (f_X6_asOf_j45 N I R x1 x2 x3 x4 2) else (f_X6_asOf_j45 N I R x1 x2 x3 x4 0))))))))
def f_X6_now (N : Nat) (I : OI) (R : RI) (x1 : Int32) (x2 : Int32) : Option (Int32 × OI × RI) :=
  ob3 (f_X6_asOf N I R x1 x2 (I 1) (I 1)) (fun r1 I2 R3 => some (r1, I2, R3))
set_option maxHeartbeats 4000000 in
set_option maxRecDepth 100000 in
def f_X6_households_l61b (N : Nat) (k61 : OI → RI → Int32 → Int32 → Int32 → Option (Int32 × OI × RI)) (I : OI) (R : RI) (x1 : Int32) (x4 : Int32) (x5 : Int32) : Option (Int32 × OI × RI) :=
  if (I 4) ≤ x5 then (some (x4, I, R)) else (og x5 24 (if (R 13 x5.toNatClampNeg) = x1 then (og x5 24 (if (R 20 x5.toNatClampNeg) = x5 then (ol (x4 + 1) (fun v11 => ol (x5 + Int32.ofInt 1) (fun v12 => k61 I R x1 v11 v12))) else (ol (x4 + 0) (fun v9 => ol (x5 + Int32.ofInt 1) (fun v10 => k61 I R x1 v9 v10))))) else (ol (x4 + 0) (fun v7 => ol (x5 + Int32.ofInt 1) (fun v8 => k61 I R x1 v7 v8)))))
set_option maxHeartbeats 4000000 in
set_option maxRecDepth 100000 in
def f_X6_households_l61 (N : Nat) : Nat → OI → RI → Int32 → Int32 → Int32 → Option (Int32 × OI × RI)
  | 0 => fun _ _ _ _ _ => none
  | n9 + 1 => f_X6_households_l61b N (f_X6_households_l61 N n9)
set_option maxHeartbeats 4000000 in
set_option maxRecDepth 100000 in
def f_X6_households_j36 (N : Nat) (I : OI) (R : RI) (x1 : Int32) (x2 : Int32) (x3 : Int32) (y0 : Int32) : Option (Int32 × OI × RI) :=
  ob2 (f_X6_refused R I y0) (fun r3 I4 => if r3 = 0 then (ob1 (f_X6_goThrough N I4 R x2 x3) (fun R5 => ob1 (f_X6_settle N I4 R5 x2) (fun R6 => f_X6_households_l61 N N I4 R6 x1 0 0))) else (some (0, I4, R)))
def f_X6_households (N : Nat) (I : OI) (R : RI) (x1 : Int32) (x2 : Int32) (x3 : Int32) : Option (Int32 × OI × RI) :=
  ob1 (f_X6_within x1 0 15) (fun r1 => if r1 = 0 then (f_X6_households_j36 N I R x1 x2 x3 1) else (ob1 (f_X6_isDay I R x2) (fun r2 => if r2 = 0 then (f_X6_households_j36 N I R x1 x2 x3 2) else (ob1 (f_X6_isDay I R x3) (fun r13 => if r13 = 0 then (f_X6_households_j36 N I R x1 x2 x3 2) else (f_X6_households_j36 N I R x1 x2 x3 0))))))
set_option maxHeartbeats 4000000 in
set_option maxRecDepth 100000 in
def f_X6_money_l99b (N : Nat) (k80 : OI → RI → Int32 → Int32 → Int32 → Int32 → Int32 → Int32 → Option (Int32 × OI × RI)) (k99 : OI → RI → Int32 → Int32 → Int32 → Int32 → Int32 → Int32 → Int32 → Option (Int32 × OI × RI)) (I : OI) (R : RI) (x1 : Int32) (x2 : Int32) (x3 : Int32) (x4 : Int32) (x6 : Int32) (x7 : Int32) (x8 : Int32) : Option (Int32 × OI × RI) :=
  if (I 4) ≤ x8 then (ol (x7 + Int32.ofInt 1) (fun v5 => k80 I R x1 x2 x3 x4 x6 v5)) else (og x8 24 (if (R 13 x8.toNatClampNeg) = (-1) then (ol (x6 + 0) (fun v6 => ol (x8 + Int32.ofInt 1) (fun v7 => k99 I R x1 x2 x3 x4 v6 x7 v7))) else (og x8 24 (if ((R 13 x8.toNatClampNeg) / 4) = x1 then (ol (x6 + 1) (fun v10 => ol (x8 + Int32.ofInt 1) (fun v11 => k99 I R x1 x2 x3 x4 v10 x7 v11))) else (ol (x6 + 0) (fun v8 => ol (x8 + Int32.ofInt 1) (fun v9 => k99 I R x1 x2 x3 x4 v8 x7 v9)))))))
set_option maxHeartbeats 4000000 in
set_option maxRecDepth 100000 in
def f_X6_money_l99 (N : Nat) (k80 : OI → RI → Int32 → Int32 → Int32 → Int32 → Int32 → Int32 → Option (Int32 × OI × RI)) : Nat → OI → RI → Int32 → Int32 → Int32 → Int32 → Int32 → Int32 → Int32 → Option (Int32 × OI × RI)
  | 0 => fun _ _ _ _ _ _ _ _ _ => none
  | n9 + 1 => f_X6_money_l99b N k80 (f_X6_money_l99 N k80 n9)
set_option maxHeartbeats 4000000 in
set_option maxRecDepth 100000 in
def f_X6_money_l80b (N : Nat) (k80 : OI → RI → Int32 → Int32 → Int32 → Int32 → Int32 → Int32 → Option (Int32 × OI × RI)) (I : OI) (R : RI) (x1 : Int32) (x2 : Int32) (x3 : Int32) (x4 : Int32) (x6 : Int32) (x7 : Int32) : Option (Int32 × OI × RI) :=
  if (x2 + x3) ≤ x7 then (some (x6, I, R)) else (ob1 (f_X6_goThrough N I R x7 x4) (fun R4 => f_X6_money_l99 N k80 N I R4 x1 x2 x3 x4 x6 x7 0))
set_option maxHeartbeats 4000000 in
set_option maxRecDepth 100000 in
def f_X6_money_l80 (N : Nat) : Nat → OI → RI → Int32 → Int32 → Int32 → Int32 → Int32 → Int32 → Option (Int32 × OI × RI)
  | 0 => fun _ _ _ _ _ _ _ _ => none
  | n9 + 1 => f_X6_money_l80b N (f_X6_money_l80 N n9)
set_option maxHeartbeats 4000000 in
set_option maxRecDepth 100000 in
def f_X6_money_j66 (N : Nat) (I : OI) (R : RI) (x1 : Int32) (x2 : Int32) (x3 : Int32) (x4 : Int32) (y0 : Int32) : Option (Int32 × OI × RI) :=
  ob2 (f_X6_refused R I y0) (fun r2 I3 => if r2 = 0 then (f_X6_money_l80 N N I3 R x1 x2 x3 x4 0 x2) else (some (0, I3, R)))
set_option maxHeartbeats 4000000 in
set_option maxRecDepth 100000 in
def f_X6_money_j40 (N : Nat) (I : OI) (R : RI) (x1 : Int32) (x2 : Int32) (x3 : Int32) (x4 : Int32) (y0 : Int32) : Option (Int32 × OI × RI) :=
  ob1 (f_X6_within x1 0 3) (fun r1 => if r1 = 0 then (f_X6_money_j66 N I R x1 x2 x3 x4 1) else (if y0 = 0 then (f_X6_money_j66 N I R x1 x2 x3 x4 2) else (f_X6_money_j66 N I R x1 x2 x3 x4 0)))
def f_X6_money (N : Nat) (I : OI) (R : RI) (x1 : Int32) (x2 : Int32) (x3 : Int32) (x4 : Int32) : Option (Int32 × OI × RI) :=
  if x2 < 0 then (f_X6_money_j40 N I R x1 x2 x3 x4 0) else (ob1 (f_X6_within x3 1 60) (fun r12 => if r12 = 0 then (f_X6_money_j40 N I R x1 x2 x3 x4 0) else (if (((I 1) - x3) + 1) < x2 then (f_X6_money_j40 N I R x1 x2 x3 x4 0) else (ob1 (f_X6_isDay I R x4) (fun r13 => if r13 = 0 then (f_X6_money_j40 N I R x1 x2 x3 x4 0) else (f_X6_money_j40 N I R x1 x2 x3 x4 1))))))
set_option maxHeartbeats 4000000 in
set_option maxRecDepth 100000 in
def f_X6_changed_l125b (N : Nat) (k110 : OI → RI → Int32 → Int32 → Int32 → Option (Int32 × OI × RI)) (k125 : OI → RI → Int32 → Int32 → Int32 → Int32 → Int32 → Option (Int32 × OI × RI)) (I : OI) (R : RI) (x1 : Int32) (x4 : Int32) (x5 : Int32) (x6 : Int32) (x7 : Int32) : Option (Int32 × OI × RI) :=
  if 5 ≤ x7 then (if x6 = 0 then (ol (x4 + 1) (fun v6 => ol (x5 + Int32.ofInt 1) (fun v7 => k110 I R x1 v6 v7))) else (ol (x4 + 0) (fun v8 => ol (x5 + Int32.ofInt 1) (fun v9 => k110 I R x1 v8 v9)))) else (if x6 = 0 then (ol (x7 + Int32.ofInt 1) (fun v10 => k125 I R x1 x4 x5 0 v10)) else (og ((5 * x5) + x7) 120 (ob2 (f_X6_tells N I R x5 x7 x1) (fun r11 R12 => if (R 21 ((5 * x5) + x7).toNatClampNeg) = r11 then (ol (x7 + Int32.ofInt 1) (fun v14 => k125 I R12 x1 x4 x5 1 v14)) else (ol (x7 + Int32.ofInt 1) (fun v13 => k125 I R12 x1 x4 x5 0 v13))))))
set_option maxHeartbeats 4000000 in
set_option maxRecDepth 100000 in
def f_X6_changed_l125 (N : Nat) (k110 : OI → RI → Int32 → Int32 → Int32 → Option (Int32 × OI × RI)) : Nat → OI → RI → Int32 → Int32 → Int32 → Int32 → Int32 → Option (Int32 × OI × RI)
  | 0 => fun _ _ _ _ _ _ _ => none
  | n9 + 1 => f_X6_changed_l125b N k110 (f_X6_changed_l125 N k110 n9)
set_option maxHeartbeats 4000000 in
set_option maxRecDepth 100000 in
def f_X6_changed_l110b (N : Nat) (k110 : OI → RI → Int32 → Int32 → Int32 → Option (Int32 × OI × RI)) (I : OI) (R : RI) (x1 : Int32) (x4 : Int32) (x5 : Int32) : Option (Int32 × OI × RI) :=
  if (I 4) ≤ x5 then (some (x4, I, R)) else (f_X6_changed_l125 N k110 N I R x1 x4 x5 1 0)
set_option maxHeartbeats 4000000 in
set_option maxRecDepth 100000 in
def f_X6_changed_l110 (N : Nat) : Nat → OI → RI → Int32 → Int32 → Int32 → Option (Int32 × OI × RI)
  | 0 => fun _ _ _ _ _ => none
  | n9 + 1 => f_X6_changed_l110b N (f_X6_changed_l110 N n9)
set_option maxHeartbeats 4000000 in
set_option maxRecDepth 100000 in
def f_X6_changed_l59b (N : Nat) (k47 : OI → RI → Int32 → Int32 → Int32 → Option (Int32 × OI × RI)) (k59 : OI → RI → Int32 → Int32 → Int32 → Int32 → Option (Int32 × OI × RI)) (I : OI) (R : RI) (x1 : Int32) (x3 : Int32) (x4 : Int32) (x5 : Int32) : Option (Int32 × OI × RI) :=
  if 5 ≤ x5 then (ol (x4 + Int32.ofInt 1) (fun v15 => k47 I R x1 x3 v15)) else (ob2 (f_X6_tells N I R x4 x5 x1) (fun r16 R17 => og ((5 * x4) + x5) 120 (ol (va_up R17 21 (upd (R17 21) ((5 * x4) + x5).toNatClampNeg r16)) (fun R18 => ol (x5 + Int32.ofInt 1) (fun v19 => k59 I R18 x1 x3 x4 v19)))))
set_option maxHeartbeats 4000000 in
set_option maxRecDepth 100000 in
def f_X6_changed_l59 (N : Nat) (k47 : OI → RI → Int32 → Int32 → Int32 → Option (Int32 × OI × RI)) : Nat → OI → RI → Int32 → Int32 → Int32 → Int32 → Option (Int32 × OI × RI)
  | 0 => fun _ _ _ _ _ _ => none
  | n9 + 1 => f_X6_changed_l59b N k47 (f_X6_changed_l59 N k47 n9)
set_option maxHeartbeats 4000000 in
set_option maxRecDepth 100000 in
def f_X6_changed_l47b (N : Nat) (k47 : OI → RI → Int32 → Int32 → Int32 → Option (Int32 × OI × RI)) (I : OI) (R : RI) (x1 : Int32) (x3 : Int32) (x4 : Int32) : Option (Int32 × OI × RI) :=
  if (I 4) ≤ x4 then (ob1 (f_X6_goThrough N I R x1 x3) (fun R5 => f_X6_changed_l110 N N I R5 x1 0 0)) else (f_X6_changed_l59 N k47 N I R x1 x3 x4 0)
set_option maxHeartbeats 4000000 in
set_option maxRecDepth 100000 in
def f_X6_changed_l47 (N : Nat) : Nat → OI → RI → Int32 → Int32 → Int32 → Option (Int32 × OI × RI)
  | 0 => fun _ _ _ _ _ => none
  | n9 + 1 => f_X6_changed_l47b N (f_X6_changed_l47 N n9)
set_option maxHeartbeats 4000000 in
set_option maxRecDepth 100000 in
def f_X6_changed_j30 (N : Nat) (I : OI) (R : RI) (x1 : Int32) (x2 : Int32) (x3 : Int32) (y0 : Int32) : Option (Int32 × OI × RI) :=
  ob2 (f_X6_refused R I y0) (fun r2 I3 => if r2 = 0 then (ob1 (f_X6_goThrough N I3 R x1 x2) (fun R4 => f_X6_changed_l47 N N I3 R4 x1 x3 0)) else (some (0, I3, R)))
def f_X6_changed (N : Nat) (I : OI) (R : RI) (x1 : Int32) (x2 : Int32) (x3 : Int32) : Option (Int32 × OI × RI) :=
  ob1 (f_X6_isDay I R x1) (fun r1 => if r1 = 0 then (f_X6_changed_j30 N I R x1 x2 x3 1) else (ob1 (f_X6_isDay I R x2) (fun r20 => if r20 = 0 then (f_X6_changed_j30 N I R x1 x2 x3 1) else (ob1 (f_X6_isDay I R x3) (fun r21 => if r21 = 0 then (f_X6_changed_j30 N I R x1 x2 x3 1) else (f_X6_changed_j30 N I R x1 x2 x3 0))))))
def f_X6_isSomebody (I : OI) (R : RI) (x1 : Int32) : Option Int32 :=
  og x1 24 (if (R 12 x1.toNatClampNeg) = 1 then (some 1) else (og x1 24 (if (R 12 x1.toNatClampNeg) = 2 then (some 1) else (some 0))))
set_option maxHeartbeats 4000000 in
set_option maxRecDepth 100000 in
def f_X6_origin_j78 (N : Nat) (I : OI) (R : RI) (x1 : Int32) (y0 : Int32) : Option (Int32 × OI × RI) :=
  ob1 (f_X6_isSomebody I R x1) (fun r6 => if r6 = 0 then (some ((-1), I, R)) else (og x1 24 (if (R 19 x1.toNatClampNeg) = 0 then (og x1 24 (some (R 18 x1.toNatClampNeg, I, R))) else (if y0 = 0 then (some ((-2), I, R)) else (og x1 24 (some (R 18 x1.toNatClampNeg, I, R)))))))
set_option maxHeartbeats 4000000 in
set_option maxRecDepth 100000 in
def f_X6_origin_j27 (N : Nat) (I : OI) (R : RI) (x1 : Int32) (x2 : Int32) (y0 : Int32) : Option (Int32 × OI × RI) :=
  ob2 (f_X6_refused R I y0) (fun r2 I3 => if r2 = 0 then (ob1 (f_X6_goThrough N I3 R (I3 1) (I3 1)) (fun R4 => ob1 (f_X6_leadsTo N I3 R4 x2) (fun r5 => if r5 = (-1) then (f_X6_origin_j78 N I3 R4 x1 0) else (if r5 = x1 then (f_X6_origin_j78 N I3 R4 x1 1) else (og x1 24 (if r5 = (R4 16 x1.toNatClampNeg) then (f_X6_origin_j78 N I3 R4 x1 1) else (f_X6_origin_j78 N I3 R4 x1 0))))))) else (some (0, I3, R)))
def f_X6_origin (N : Nat) (I : OI) (R : RI) (x1 : Int32) (x2 : Int32) : Option (Int32 × OI × RI) :=
  ob1 (f_X6_isPerson I R x1) (fun r1 => if r1 = 0 then (f_X6_origin_j27 N I R x1 x2 1) else (if x2 = (-1) then (f_X6_origin_j27 N I R x1 x2 0) else (ob1 (f_X6_isPerson I R x2) (fun r7 => if r7 = 0 then (f_X6_origin_j27 N I R x1 x2 1) else (f_X6_origin_j27 N I R x1 x2 0)))))
set_option maxHeartbeats 4000000 in
set_option maxRecDepth 100000 in
def f_X6_like_j106 (I : OI) (R : RI) (x1 : Int32) (x2 : Int32) (y0 : Int32) (y1 : Int32) : Option Int32 :=
  og x1 24 (if (R 13 x1.toNatClampNeg) = (-1) then (some ((y1 + y0) + 0)) else (og x1 24 (og x2 24 (if (R 13 x1.toNatClampNeg) = (R 13 x2.toNatClampNeg) then (some ((y1 + y0) + 2)) else (some ((y1 + y0) + 0))))))
set_option maxHeartbeats 4000000 in
set_option maxRecDepth 100000 in
def f_X6_like_j82 (I : OI) (R : RI) (x1 : Int32) (x2 : Int32) (y0 : Int32) : Option Int32 :=
  og x1 24 (og x2 24 (if (R 14 x1.toNatClampNeg) = (R 14 x2.toNatClampNeg) then (f_X6_like_j106 I R x1 x2 3 y0) else (f_X6_like_j106 I R x1 x2 0 y0)))
set_option maxHeartbeats 4000000 in
set_option maxRecDepth 100000 in
def f_X6_like_j62 (I : OI) (R : RI) (x1 : Int32) (x2 : Int32) (y0 : Int32) : Option Int32 :=
  if y0 = 0 then (f_X6_like_j82 I R x1 x2 5) else (if 31 < y0 then (f_X6_like_j82 I R x1 x2 0) else (f_X6_like_j82 I R x1 x2 2))
def f_X6_like (I : OI) (R : RI) (x1 : Int32) (x2 : Int32) : Option Int32 :=
  ob1 (f_X6_isSomebody I R x1) (fun r1 => if r1 = 0 then (some 0) else (ob1 (f_X6_isSomebody I R x2) (fun r2 => if r2 = 0 then (some 0) else (og x1 24 (og x2 24 (if (R 17 x1.toNatClampNeg) ≤ (R 17 x2.toNatClampNeg) then (og x2 24 (og x1 24 (f_X6_like_j62 I R x1 x2 ((R 17 x2.toNatClampNeg) - (R 17 x1.toNatClampNeg))))) else (og x1 24 (og x2 24 (f_X6_like_j62 I R x1 x2 ((R 17 x1.toNatClampNeg) - (R 17 x2.toNatClampNeg)))))))))))
