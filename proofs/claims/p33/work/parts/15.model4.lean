

set_option maxHeartbeats 4000000 in
set_option maxRecDepth 100000 in
def f_X6_likeness_j41 (N : Nat) (I : OI) (R : RI) (x1 : Int32) (x2 : Int32) (y0 : Int32) : Option (Int32 × OI × RI) :=
  ob2 (f_X6_refused R I y0) (fun r2 I3 => if r2 = 0 then (ob1 (f_X6_goThrough N I3 R (I3 1) (I3 1)) (fun R4 => ob1 (f_X6_like I3 R4 x1 x2) (fun r5 => some (r5, I3, R4)))) else (some (0, I3, R)))
set_option maxHeartbeats 4000000 in
set_option maxRecDepth 100000 in
def f_X6_likeness_j21 (N : Nat) (I : OI) (R : RI) (x1 : Int32) (x2 : Int32) (y0 : Int32) : Option (Int32 × OI × RI) :=
  if y0 = 0 then (f_X6_likeness_j41 N I R x1 x2 1) else (if x1 = x2 then (f_X6_likeness_j41 N I R x1 x2 2) else (f_X6_likeness_j41 N I R x1 x2 0))
def f_X6_likeness (N : Nat) (I : OI) (R : RI) (x1 : Int32) (x2 : Int32) : Option (Int32 × OI × RI) :=
  ob1 (f_X6_isPerson I R x1) (fun r1 => if r1 = 0 then (f_X6_likeness_j21 N I R x1 x2 0) else (ob1 (f_X6_isPerson I R x2) (fun r6 => if r6 = 0 then (f_X6_likeness_j21 N I R x1 x2 0) else (f_X6_likeness_j21 N I R x1 x2 1))))
set_option maxHeartbeats 4000000 in
set_option maxRecDepth 100000 in
def f_X6_doubleOf_l36b (N : Nat) (k36 : OI → RI → Int32 → Int32 → Option (Int32 × OI × RI)) (I : OI) (R : RI) (x1 : Int32) (x2 : Int32) : Option (Int32 × OI × RI) :=
  if (I 4) ≤ x2 then (some ((-1), I, R)) else (if x2 = x1 then (ol (x2 + Int32.ofInt 1) (fun v5 => k36 I R x1 v5)) else (ob1 (f_X6_like I R x1 x2) (fun r6 => if r6 < 8 then (ol (x2 + Int32.ofInt 1) (fun v7 => k36 I R x1 v7)) else (some (x2, I, R)))))
set_option maxHeartbeats 4000000 in
set_option maxRecDepth 100000 in
def f_X6_doubleOf_l36 (N : Nat) : Nat → OI → RI → Int32 → Int32 → Option (Int32 × OI × RI)
  | 0 => fun _ _ _ _ => none
  | n9 + 1 => f_X6_doubleOf_l36b N (f_X6_doubleOf_l36 N n9)
set_option maxHeartbeats 4000000 in
set_option maxRecDepth 100000 in
def f_X6_doubleOf_j14 (N : Nat) (I : OI) (R : RI) (x1 : Int32) (y0 : Int32) : Option (Int32 × OI × RI) :=
  ob2 (f_X6_refused R I y0) (fun r2 I3 => if r2 = 0 then (ob1 (f_X6_goThrough N I3 R (I3 1) (I3 1)) (fun R4 => f_X6_doubleOf_l36 N N I3 R4 x1 0)) else (some (0, I3, R)))
def f_X6_doubleOf (N : Nat) (I : OI) (R : RI) (x1 : Int32) : Option (Int32 × OI × RI) :=
  ob1 (f_X6_isPerson I R x1) (fun r1 => if r1 = 0 then (f_X6_doubleOf_j14 N I R x1 1) else (f_X6_doubleOf_j14 N I R x1 0))
set_option maxHeartbeats 4000000 in
set_option maxRecDepth 100000 in
def f_X6_renumber_j27 (N : Nat) (I : OI) (R : RI) (x1 : Int32) (y0 : Int32) : Option (Int32 × OI × RI) :=
  ob2 (f_X6_refused R I y0) (fun r2 I3 => if r2 = 0 then (ob3 (f_X6_giveTo N I3 R x1) (fun r4 I5 R6 => some (r4, I5, R6))) else (some (0, I3, R)))
def f_X6_renumber (N : Nat) (I : OI) (R : RI) (x1 : Int32) : Option (Int32 × OI × RI) :=
  ob1 (f_X6_isPerson I R x1) (fun r1 => if r1 = 0 then (f_X6_renumber_j27 N I R x1 1) else (if (I 5) = 60 then (f_X6_renumber_j27 N I R x1 2) else (f_X6_renumber_j27 N I R x1 0)))
set_option maxHeartbeats 4000000 in
set_option maxRecDepth 100000 in
def f_X6_number_l26b (N : Nat) (R : RI) (k26 : OI → Int32 → Int32 → Int32 → Option (Int32 × OI)) (I : OI) (x1 : Int32) (x2 : Int32) (x3 : Int32) : Option (Int32 × OI) :=
  if (I 5) ≤ x3 then (some (x2, I)) else (og x3 60 (if (R 10 x3.toNatClampNeg) = x1 then (og x3 60 (ol (R 9 x3.toNatClampNeg) (fun v5 => ol (x3 + Int32.ofInt 1) (fun v6 => k26 I x1 v5 v6)))) else (ol (x3 + Int32.ofInt 1) (fun v4 => k26 I x1 x2 v4))))
set_option maxHeartbeats 4000000 in
set_option maxRecDepth 100000 in
def f_X6_number_l26 (N : Nat) (R : RI) : Nat → OI → Int32 → Int32 → Int32 → Option (Int32 × OI)
  | 0 => fun _ _ _ _ => none
  | n9 + 1 => f_X6_number_l26b N R (f_X6_number_l26 N R n9)
set_option maxHeartbeats 4000000 in
set_option maxRecDepth 100000 in
def f_X6_number_j14 (N : Nat) (R : RI) (I : OI) (x1 : Int32) (y0 : Int32) : Option (Int32 × OI) :=
  ob2 (f_X6_refused R I y0) (fun r2 I3 => if r2 = 0 then (f_X6_number_l26 N R N I3 x1 0 0) else (some (0, I3)))
def f_X6_number (N : Nat) (R : RI) (I : OI) (x1 : Int32) : Option (Int32 × OI) :=
  ob1 (f_X6_isPerson I R x1) (fun r1 => if r1 = 0 then (f_X6_number_j14 N R I x1 1) else (f_X6_number_j14 N R I x1 0))
set_option maxHeartbeats 4000000 in
set_option maxRecDepth 100000 in
def f_X6_bearer_l55b (N : Nat) (R : RI) (k55 : OI → Int32 → Int32 → Int32 → Option (Int32 × OI)) (I : OI) (x1 : Int32) (x3 : Int32) (x4 : Int32) : Option (Int32 × OI) :=
  if (I 5) ≤ x4 then (some (x3, I)) else (og x4 60 (if (R 9 x4.toNatClampNeg) = x1 then (og x4 60 (ol (R 10 x4.toNatClampNeg) (fun v5 => ol (x4 + Int32.ofInt 1) (fun v6 => k55 I x1 v5 v6)))) else (ol (x4 + Int32.ofInt 1) (fun v4 => k55 I x1 x3 v4))))
set_option maxHeartbeats 4000000 in
set_option maxRecDepth 100000 in
def f_X6_bearer_l55 (N : Nat) (R : RI) : Nat → OI → Int32 → Int32 → Int32 → Option (Int32 × OI)
  | 0 => fun _ _ _ _ => none
  | n9 + 1 => f_X6_bearer_l55b N R (f_X6_bearer_l55 N R n9)
set_option maxHeartbeats 4000000 in
set_option maxRecDepth 100000 in
def f_X6_bearer_j42 (N : Nat) (R : RI) (I : OI) (x1 : Int32) (y0 : Int32) : Option (Int32 × OI) :=
  ob2 (f_X6_refused R I y0) (fun r2 I3 => if r2 = 0 then (f_X6_bearer_l55 N R N I3 x1 (-1) 0) else (some (0, I3)))
set_option maxHeartbeats 4000000 in
set_option maxRecDepth 100000 in
def f_X6_bearer_j31 (N : Nat) (R : RI) (I : OI) (x1 : Int32) (y0 : Int32) : Option (Int32 × OI) :=
  if y0 = 0 then (f_X6_bearer_j42 N R I x1 1) else (f_X6_bearer_j42 N R I x1 0)
def f_X6_bearer (N : Nat) (R : RI) (I : OI) (x1 : Int32) : Option (Int32 × OI) :=
  ob1 (f_X6_within x1 10010 99999) (fun r1 => if r1 = 0 then (f_X6_bearer_j31 N R I x1 0) else (ob1 (f_X6_checkOf (x1 / 10)) (fun r7 => if r7 = (x1 - x1 / 10 * 10) then (f_X6_bearer_j31 N R I x1 1) else (f_X6_bearer_j31 N R I x1 0))))
def f_X6_isRoll (I : OI) (R : RI) (x1 : Int32) : Option Int32 :=
  ob1 (f_X6_within x1 0 ((I 7) - 1)) (fun r1 => oz r1 (some r1))
set_option maxHeartbeats 4000000 in
set_option maxRecDepth 100000 in
def f_X6_roll_j40 (I : OI) (R : RI) (x1 : Int32) (x2 : Int32) (y0 : Int32) : Option (Int32 × OI × RI) :=
  ob2 (f_X6_refused R I y0) (fun r3 I4 => if r3 = 0 then (og (I4 7) 5 (ol (va_up R 22 (upd (R 22) (I4 7).toNatClampNeg x1)) (fun R5 => og (I4 7) 5 (ol (va_up R5 23 (upd (R5 23) (I4 7).toNatClampNeg x2)) (fun R6 => ol (va_up I4 7 ((I4 7) + 1)) (fun I7 => some ((I7 7) - 1, I7, R6))))))) else (some (0, I4, R)))
def f_X6_roll (I : OI) (R : RI) (x1 : Int32) (x2 : Int32) : Option (Int32 × OI × RI) :=
  ob1 (f_X6_within x2 0 3) (fun r1 => if r1 = 0 then (f_X6_roll_j40 I R x1 x2 1) else (ob1 (f_X6_within x1 0 3) (fun r2 => if r2 = 0 then (f_X6_roll_j40 I R x1 x2 2) else (if (I 7) = 5 then (f_X6_roll_j40 I R x1 x2 3) else (f_X6_roll_j40 I R x1 x2 0)))))
def f_X6_belongs (I : OI) (R : RI) (x1 : Int32) (x2 : Int32) : Option Int32 :=
  ob1 (f_X6_ageOf I R x2 (I 1)) (fun r1 => if r1 = (-1) then (some 0) else (og x1 5 (ol (R 22 x1.toNatClampNeg) (fun v2 => if v2 = 1 then (if r1 < 18 then (some 0) else (some 1)) else (if v2 = 2 then (ob1 (f_X6_within r1 6 15) (fun r3 => oz r3 (some r3))) else (if v2 = 3 then (og x2 24 (og x1 5 (if ((R 13 x2.toNatClampNeg) / 4) = (R 23 x1.toNatClampNeg) then (some 1) else (some 0)))) else (some 1)))))))
def f_X6_tidings (I : OI) (R : RI) (x1 : Int32) (x2 : Int32) : Option Int32 :=
  og ((24 * x1) + x2) 120 (ol (R 24 ((24 * x1) + x2).toNatClampNeg) (fun v1 => ob1 (f_X6_belongs I R x1 x2) (fun r2 => if r2 = 0 then (if v1 = (-1) then (some 0) else (some ((1000 * x2) + 2))) else (og x2 24 (if v1 = (R 13 x2.toNatClampNeg) then (some 0) else (og x2 24 (if v1 = (-1) then (some (((1000 * x2) + (10 * (R 13 x2.toNatClampNeg))) + 1)) else (some (((1000 * x2) + (10 * (R 13 x2.toNatClampNeg))) + 3)))))))))
