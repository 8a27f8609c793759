

def f_X6_thrown (I : OI) (R : RI) : Option Int32 :=
  some (I 0)
def f_X6_refused (R : RI) (I : OI) (x1 : Int32) : Option (Int32 × OI) :=
  ol (va_up I 0 x1) (fun I1 => if x1 = 0 then (some (0, I1)) else (some (1, I1)))
def f_X6_within (x0 : Int32) (x1 : Int32) (x2 : Int32) : Option Int32 :=
  if x0 < x1 then (some 0) else (if x2 < x0 then (some 0) else (some 1))
def f_X6_isPerson (I : OI) (R : RI) (x1 : Int32) : Option Int32 :=
  ob1 (f_X6_within x1 0 ((I 4) - 1)) (fun r1 => oz r1 (some r1))
def f_X6_isDay (I : OI) (R : RI) (x1 : Int32) : Option Int32 :=
  ob1 (f_X6_within x1 0 (I 1)) (fun r1 => oz r1 (some r1))
set_option maxHeartbeats 4000000 in
set_option maxRecDepth 100000 in
def f_X6_pass_j33 (R : RI) (I : OI) (x1 : Int32) (y0 : Int32) : Option (Int32 × OI) :=
  ob2 (f_X6_refused R I y0) (fun r2 I3 => if r2 = 0 then (ol (va_up I3 1 ((I3 1) + x1)) (fun I4 => some (I4 1, I4))) else (some (0, I3)))
def f_X6_pass (R : RI) (I : OI) (x1 : Int32) : Option (Int32 × OI) :=
  ob1 (f_X6_within x1 1 5000) (fun r1 => if r1 = 0 then (f_X6_pass_j33 R I x1 1) else (if ((I 1) + x1) ≤ 30000 then (f_X6_pass_j33 R I x1 0) else (f_X6_pass_j33 R I x1 2)))
set_option maxHeartbeats 4000000 in
set_option maxRecDepth 100000 in
def f_X6_tell_j164 (N : Nat) (I : OI) (R : RI) : Option (Int32 × OI × RI) :=
  ol (va_up I 2 ((I 2) + 1)) (fun I9 => some ((I9 2) - 1, I9, R))
set_option maxHeartbeats 4000000 in
set_option maxRecDepth 100000 in
def f_X6_tell_j143 (N : Nat) (I : OI) (R : RI) (x7 : Int32) : Option (Int32 × OI × RI) :=
  og x7 150 (ol (va_up R 8 (upd (R 8) x7.toNatClampNeg (I 2))) (fun R11 => ol (va_up I 3 ((I 3) + 1)) (fun I12 => f_X6_tell_j164 N I12 R11)))
set_option maxHeartbeats 4000000 in
set_option maxRecDepth 100000 in
def f_X6_tell_l98b (N : Nat) (k98 : OI → RI → Int32 → Int32 → Option (Int32 × OI × RI)) (I : OI) (R : RI) (x2 : Int32) (x7 : Int32) : Option (Int32 × OI × RI) :=
  if x7 ≤ 0 then (f_X6_tell_j143 N I R x7) else (og (x7 - 1) 150 (og (R 8 (x7 - 1).toNatClampNeg) 150 (if (R 2 (R 8 (x7 - 1).toNatClampNeg).toNatClampNeg) ≤ x2 then (f_X6_tell_j143 N I R x7) else (og (x7 - 1) 150 (og x7 150 (ol (va_up R 8 (upd (R 8) x7.toNatClampNeg (R 8 (x7 - 1).toNatClampNeg))) (fun R13 => ol (x7 + Int32.ofInt (-1)) (fun v14 => k98 I R13 x2 v14))))))))
set_option maxHeartbeats 4000000 in
set_option maxRecDepth 100000 in
def f_X6_tell_l98 (N : Nat) : Nat → OI → RI → Int32 → Int32 → Option (Int32 × OI × RI)
  | 0 => fun _ _ _ _ => none
  | n9 + 1 => f_X6_tell_l98b N (f_X6_tell_l98 N n9)
def f_X6_tell (N : Nat) (I : OI) (R : RI) (x1 : Int32) (x2 : Int32) (x3 : Int32) (x4 : Int32) (x5 : Int32) (x6 : Int32) : Option (Int32 × OI × RI) :=
  og (I 2) 150 (ol (va_up R 0 (upd (R 0) (I 2).toNatClampNeg x1)) (fun R1 => og (I 2) 150 (ol (va_up R1 1 (upd (R1 1) (I 2).toNatClampNeg (I 1))) (fun R2 => og (I 2) 150 (ol (va_up R2 2 (upd (R2 2) (I 2).toNatClampNeg x2)) (fun R3 => og (I 2) 150 (ol (va_up R3 3 (upd (R3 3) (I 2).toNatClampNeg x3)) (fun R4 => og (I 2) 150 (ol (va_up R4 4 (upd (R4 4) (I 2).toNatClampNeg x4)) (fun R5 => og (I 2) 150 (ol (va_up R5 5 (upd (R5 5) (I 2).toNatClampNeg x5)) (fun R6 => og (I 2) 150 (ol (va_up R6 6 (upd (R6 6) (I 2).toNatClampNeg x6)) (fun R7 => og (I 2) 150 (ol (va_up R7 7 (upd (R7 7) (I 2).toNatClampNeg (-1))) (fun R8 => if 7 ≤ x1 then (f_X6_tell_j164 N I R8) else (ol (I 3) (fun v10 => f_X6_tell_l98 N N I R8 x2 v10))))))))))))))))))
def f_X6_checkOf (x0 : Int32) : Option Int32 :=
  ol (x0 / 100) (fun v1 => ol (x0 / 10) (fun v2 => ol ((((2 * (x0 / 1000)) + (3 * (v1 - v1 / 10 * 10))) + (4 * (v2 - v2 / 10 * 10))) + (5 * (x0 - x0 / 10 * 10))) (fun v3 => some (v3 - v3 / 11 * 11))))
set_option maxHeartbeats 4000000 in
set_option maxRecDepth 100000 in
def f_X6_giveTo_l10b (N : Nat) (k10 : OI → RI → Int32 → Option (Int32 × OI × RI)) (I : OI) (R : RI) (x1 : Int32) : Option (Int32 × OI × RI) :=
  ob1 (f_X6_checkOf (I 6)) (fun r2 => if r2 = 10 then (ol (va_up I 6 ((I 6) + 1)) (fun I7 => k10 I7 R x1)) else (ob1 (f_X6_checkOf (I 6)) (fun r3 => og (I 5) 60 (ol (va_up R 9 (upd (R 9) (I 5).toNatClampNeg ((10 * (I 6)) + r3))) (fun R4 => og (I 5) 60 (ol (va_up R4 10 (upd (R4 10) (I 5).toNatClampNeg x1)) (fun R5 => ol (va_up I 5 ((I 5) + 1)) (fun I6 => og ((I6 5) - 1) 60 (some (R5 9 ((I6 5) - 1).toNatClampNeg, I6, R5))))))))))
set_option maxHeartbeats 4000000 in
set_option maxRecDepth 100000 in
def f_X6_giveTo_l10 (N : Nat) : Nat → OI → RI → Int32 → Option (Int32 × OI × RI)
  | 0 => fun _ _ _ => none
  | n9 + 1 => f_X6_giveTo_l10b N (f_X6_giveTo_l10 N n9)
def f_X6_giveTo (N : Nat) (I : OI) (R : RI) (x1 : Int32) : Option (Int32 × OI × RI) :=
  ol (va_up I 6 ((I 6) + 1)) (fun I1 => f_X6_giveTo_l10 N N I1 R x1)
