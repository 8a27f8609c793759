

set_option maxHeartbeats 4000000 in
set_option maxRecDepth 100000 in
def f_X6_birth_j109 (N : Nat) (I : OI) (R : RI) (x1 : Int32) (x2 : Int32) (x3 : Int32) (x4 : Int32) (y0 : Int32) : Option (Int32 × OI × RI) :=
  ob2 (f_X6_refused R I y0) (fun r3 I4 => if r3 = 0 then (ob3 (f_X6_tell N I4 R 0 x1 (I4 4) x2 x3 x4) (fun r5 I6 R7 => ob3 (f_X6_giveTo N I6 R7 (I6 4)) (fun r8 I9 R10 => ol (va_up I9 4 ((I9 4) + 1)) (fun I11 => some ((I11 4) - 1, I11, R10))))) else (some (0, I4, R)))
set_option maxHeartbeats 4000000 in
set_option maxRecDepth 100000 in
def f_X6_birth_j55 (N : Nat) (I : OI) (R : RI) (x1 : Int32) (x2 : Int32) (x3 : Int32) (x4 : Int32) (x5 : Int32) (y0 : Int32) : Option (Int32 × OI × RI) :=
  if x5 = 0 then (f_X6_birth_j109 N I R x1 x2 x3 x4 1) else (if y0 = 0 then (f_X6_birth_j109 N I R x1 x2 x3 x4 2) else (if (I 4) = 24 then (f_X6_birth_j109 N I R x1 x2 x3 x4 3) else (if (I 2) = 150 then (f_X6_birth_j109 N I R x1 x2 x3 x4 3) else (if (I 5) = 60 then (f_X6_birth_j109 N I R x1 x2 x3 x4 3) else (f_X6_birth_j109 N I R x1 x2 x3 x4 0)))))
set_option maxHeartbeats 4000000 in
set_option maxRecDepth 100000 in
def f_X6_birth_j28 (N : Nat) (I : OI) (R : RI) (x1 : Int32) (x2 : Int32) (x3 : Int32) (x4 : Int32) (y0 : Int32) : Option (Int32 × OI × RI) :=
  ob1 (f_X6_isDay I R x1) (fun r2 => if r2 = 0 then (f_X6_birth_j55 N I R x1 x2 x3 x4 y0 0) else (ob1 (f_X6_within x4 0 999) (fun r12 => if r12 = 0 then (f_X6_birth_j55 N I R x1 x2 x3 x4 y0 0) else (f_X6_birth_j55 N I R x1 x2 x3 x4 y0 1))))
set_option maxHeartbeats 4000000 in
set_option maxRecDepth 100000 in
def f_X6_birth_j13 (N : Nat) (I : OI) (R : RI) (x1 : Int32) (x2 : Int32) (x3 : Int32) (x4 : Int32) : Option (Int32 × OI × RI) :=
  ob1 (f_X6_within x3 0 15) (fun r1 => if r1 = 0 then (f_X6_birth_j28 N I R x1 x2 x3 x4 0) else (f_X6_birth_j28 N I R x1 x2 x3 x4 1))
def f_X6_birth (N : Nat) (I : OI) (R : RI) (x1 : Int32) (x2 : Int32) (x3 : Int32) (x4 : Int32) : Option (Int32 × OI × RI) :=
  if x2 = (-1) then (f_X6_birth_j13 N I R x1 x2 x3 x4) else (ob1 (f_X6_isPerson I R x2) (fun r13 => if r13 = 0 then (f_X6_birth_j28 N I R x1 x2 x3 x4 0) else (f_X6_birth_j13 N I R x1 x2 x3 x4)))
set_option maxHeartbeats 4000000 in
set_option maxRecDepth 100000 in
def f_X6_move_j62 (N : Nat) (I : OI) (R : RI) (x1 : Int32) (x2 : Int32) (x3 : Int32) (y0 : Int32) : Option (Int32 × OI × RI) :=
  ob2 (f_X6_refused R I y0) (fun r3 I4 => if r3 = 0 then (ob3 (f_X6_tell N I4 R 1 x2 x1 (-1) x3 (-1)) (fun r5 I6 R7 => some (r5, I6, R7))) else (some (0, I4, R)))
set_option maxHeartbeats 4000000 in
set_option maxRecDepth 100000 in
def f_X6_move_j23 (N : Nat) (I : OI) (R : RI) (x1 : Int32) (x2 : Int32) (x3 : Int32) (y0 : Int32) : Option (Int32 × OI × RI) :=
  if y0 = 0 then (f_X6_move_j62 N I R x1 x2 x3 1) else (ob1 (f_X6_isDay I R x2) (fun r2 => if r2 = 0 then (f_X6_move_j62 N I R x1 x2 x3 2) else (if (I 2) = 150 then (f_X6_move_j62 N I R x1 x2 x3 3) else (f_X6_move_j62 N I R x1 x2 x3 0))))
def f_X6_move (N : Nat) (I : OI) (R : RI) (x1 : Int32) (x2 : Int32) (x3 : Int32) : Option (Int32 × OI × RI) :=
  ob1 (f_X6_isPerson I R x1) (fun r1 => if r1 = 0 then (f_X6_move_j23 N I R x1 x2 x3 0) else (ob1 (f_X6_within x3 0 15) (fun r8 => if r8 = 0 then (f_X6_move_j23 N I R x1 x2 x3 0) else (f_X6_move_j23 N I R x1 x2 x3 1))))
set_option maxHeartbeats 4000000 in
set_option maxRecDepth 100000 in
def f_X6_naming_j63 (N : Nat) (I : OI) (R : RI) (x1 : Int32) (x2 : Int32) (x3 : Int32) (y0 : Int32) : Option (Int32 × OI × RI) :=
  ob2 (f_X6_refused R I y0) (fun r3 I4 => if r3 = 0 then (ob3 (f_X6_tell N I4 R 2 x2 x1 (-1) (-1) x3) (fun r5 I6 R7 => some (r5, I6, R7))) else (some (0, I4, R)))
set_option maxHeartbeats 4000000 in
set_option maxRecDepth 100000 in
def f_X6_naming_j24 (N : Nat) (I : OI) (R : RI) (x1 : Int32) (x2 : Int32) (x3 : Int32) (y0 : Int32) : Option (Int32 × OI × RI) :=
  ob1 (f_X6_isPerson I R x1) (fun r2 => if r2 = 0 then (f_X6_naming_j63 N I R x1 x2 x3 1) else (if y0 = 0 then (f_X6_naming_j63 N I R x1 x2 x3 2) else (if (I 2) = 150 then (f_X6_naming_j63 N I R x1 x2 x3 3) else (f_X6_naming_j63 N I R x1 x2 x3 0))))
def f_X6_naming (N : Nat) (I : OI) (R : RI) (x1 : Int32) (x2 : Int32) (x3 : Int32) : Option (Int32 × OI × RI) :=
  ob1 (f_X6_isDay I R x2) (fun r1 => if r1 = 0 then (f_X6_naming_j24 N I R x1 x2 x3 0) else (ob1 (f_X6_within x3 0 999) (fun r8 => if r8 = 0 then (f_X6_naming_j24 N I R x1 x2 x3 0) else (f_X6_naming_j24 N I R x1 x2 x3 1))))
set_option maxHeartbeats 4000000 in
set_option maxRecDepth 100000 in
def f_X6_tie_j94 (N : Nat) (I : OI) (R : RI) (x1 : Int32) (x2 : Int32) (x3 : Int32) (x4 : Int32) (y0 : Int32) : Option (Int32 × OI × RI) :=
  ob2 (f_X6_refused R I y0) (fun r3 I4 => if r3 = 0 then (ob3 (f_X6_tell N I4 R x1 x4 x2 x3 (-1) (-1)) (fun r5 I6 R7 => some (r5, I6, R7))) else (some (0, I4, R)))
set_option maxHeartbeats 4000000 in
set_option maxRecDepth 100000 in
def f_X6_tie_j58 (N : Nat) (I : OI) (R : RI) (x1 : Int32) (x2 : Int32) (x3 : Int32) (x4 : Int32) (x5 : Int32) (y0 : Int32) : Option (Int32 × OI × RI) :=
  if x5 = 0 then (f_X6_tie_j94 N I R x1 x2 x3 x4 1) else (if y0 = 0 then (f_X6_tie_j94 N I R x1 x2 x3 x4 2) else (if (I 2) = 150 then (f_X6_tie_j94 N I R x1 x2 x3 x4 3) else (f_X6_tie_j94 N I R x1 x2 x3 x4 0)))
set_option maxHeartbeats 4000000 in
set_option maxRecDepth 100000 in
def f_X6_tie_j39 (N : Nat) (I : OI) (R : RI) (x1 : Int32) (x2 : Int32) (x3 : Int32) (x4 : Int32) (x5 : Int32) : Option (Int32 × OI × RI) :=
  ob1 (f_X6_isDay I R x4) (fun r2 => if r2 = 0 then (f_X6_tie_j58 N I R x1 x2 x3 x4 x5 0) else (if x2 = x3 then (f_X6_tie_j58 N I R x1 x2 x3 x4 x5 0) else (f_X6_tie_j58 N I R x1 x2 x3 x4 x5 1)))
set_option maxHeartbeats 4000000 in
set_option maxRecDepth 100000 in
def f_X6_tie_j21 (N : Nat) (I : OI) (R : RI) (x1 : Int32) (x2 : Int32) (x3 : Int32) (x4 : Int32) (y0 : Int32) : Option (Int32 × OI × RI) :=
  if x1 = 3 then (f_X6_tie_j39 N I R x1 x2 x3 x4 y0) else (if x1 = 4 then (f_X6_tie_j39 N I R x1 x2 x3 x4 y0) else (if x1 = 6 then (f_X6_tie_j39 N I R x1 x2 x3 x4 y0) else (f_X6_tie_j58 N I R x1 x2 x3 x4 y0 0)))
def f_X6_tie (N : Nat) (I : OI) (R : RI) (x1 : Int32) (x2 : Int32) (x3 : Int32) (x4 : Int32) : Option (Int32 × OI × RI) :=
  ob1 (f_X6_isPerson I R x2) (fun r1 => if r1 = 0 then (f_X6_tie_j21 N I R x1 x2 x3 x4 0) else (ob1 (f_X6_isPerson I R x3) (fun r8 => if r8 = 0 then (f_X6_tie_j21 N I R x1 x2 x3 x4 0) else (f_X6_tie_j21 N I R x1 x2 x3 x4 1))))
set_option maxHeartbeats 4000000 in
set_option maxRecDepth 100000 in
def f_X6_death_j40 (N : Nat) (I : OI) (R : RI) (x1 : Int32) (x2 : Int32) (y0 : Int32) : Option (Int32 × OI × RI) :=
  ob2 (f_X6_refused R I y0) (fun r3 I4 => if r3 = 0 then (ob3 (f_X6_tell N I4 R 5 x2 x1 (-1) (-1) (-1)) (fun r5 I6 R7 => some (r5, I6, R7))) else (some (0, I4, R)))
def f_X6_death (N : Nat) (I : OI) (R : RI) (x1 : Int32) (x2 : Int32) : Option (Int32 × OI × RI) :=
  ob1 (f_X6_isPerson I R x1) (fun r1 => if r1 = 0 then (f_X6_death_j40 N I R x1 x2 1) else (ob1 (f_X6_isDay I R x2) (fun r2 => if r2 = 0 then (f_X6_death_j40 N I R x1 x2 2) else (if (I 2) = 150 then (f_X6_death_j40 N I R x1 x2 3) else (f_X6_death_j40 N I R x1 x2 0)))))
set_option maxHeartbeats 4000000 in
set_option maxRecDepth 100000 in
def f_X6_join_j55 (N : Nat) (I : OI) (R : RI) (x1 : Int32) (x2 : Int32) (y0 : Int32) : Option (Int32 × OI × RI) :=
  ob2 (f_X6_refused R I y0) (fun r2 I3 => if r2 = 0 then (ob3 (f_X6_tell N I3 R 7 (-1) x1 x2 (-1) (-1)) (fun r4 I5 R6 => some (r4, I5, R6))) else (some (0, I3, R)))
set_option maxHeartbeats 4000000 in
set_option maxRecDepth 100000 in
def f_X6_join_j21 (N : Nat) (I : OI) (R : RI) (x1 : Int32) (x2 : Int32) (y0 : Int32) : Option (Int32 × OI × RI) :=
  if y0 = 0 then (f_X6_join_j55 N I R x1 x2 1) else (if x1 < x2 then (if (I 2) = 150 then (f_X6_join_j55 N I R x1 x2 3) else (f_X6_join_j55 N I R x1 x2 0)) else (f_X6_join_j55 N I R x1 x2 2))
def f_X6_join (N : Nat) (I : OI) (R : RI) (x1 : Int32) (x2 : Int32) : Option (Int32 × OI × RI) :=
  ob1 (f_X6_isPerson I R x1) (fun r1 => if r1 = 0 then (f_X6_join_j21 N I R x1 x2 0) else (ob1 (f_X6_isPerson I R x2) (fun r7 => if r7 = 0 then (f_X6_join_j21 N I R x1 x2 0) else (f_X6_join_j21 N I R x1 x2 1))))
set_option maxHeartbeats 4000000 in
set_option maxRecDepth 100000 in
def f_X6_strike_j57 (N : Nat) (I : OI) (R : RI) (x1 : Int32) (y0 : Int32) : Option (Int32 × OI × RI) :=
  ob2 (f_X6_refused R I y0) (fun r2 I3 => if r2 = 0 then (og x1 150 (ol (va_up R 7 (upd (R 7) x1.toNatClampNeg (I3 2))) (fun R4 => ob3 (f_X6_tell N I3 R4 8 (-1) (-1) x1 (-1) (-1)) (fun r5 I6 R7 => some (r5, I6, R7))))) else (some (0, I3, R)))
def f_X6_strike (N : Nat) (I : OI) (R : RI) (x1 : Int32) : Option (Int32 × OI × RI) :=
  ob1 (f_X6_within x1 0 ((I 2) - 1)) (fun r1 => if r1 = 0 then (f_X6_strike_j57 N I R x1 1) else (og x1 150 (if (R 0 x1.toNatClampNeg) = 8 then (f_X6_strike_j57 N I R x1 2) else (og x1 150 (if (R 7 x1.toNatClampNeg) = (-1) then (if (I 2) = 150 then (f_X6_strike_j57 N I R x1 2) else (f_X6_strike_j57 N I R x1 0)) else (f_X6_strike_j57 N I R x1 2))))))
def f_X6_isKnown (I : OI) (R : RI) (x1 : Int32) (x2 : Int32) : Option Int32 :=
  og x1 150 (if x2 < (R 1 x1.toNatClampNeg) then (some 0) else (og x1 150 (if (R 7 x1.toNatClampNeg) = (-1) then (some 1) else (og x1 150 (og (R 7 x1.toNatClampNeg) 150 (if (R 1 (R 7 x1.toNatClampNeg).toNatClampNeg) ≤ x2 then (some 0) else (some 1)))))))
set_option maxHeartbeats 4000000 in
set_option maxRecDepth 100000 in
def f_X6_leadsTo_l2b (N : Nat) (I : OI) (R : RI) (k2 : Int32 → Option Int32) (x2 : Int32) : Option Int32 :=
  if x2 = (-1) then (some x2) else (og x2 24 (if (R 11 x2.toNatClampNeg) = (-1) then (some x2) else (og x2 24 (ol (R 11 x2.toNatClampNeg) (fun v1 => k2 v1)))))
set_option maxHeartbeats 4000000 in
set_option maxRecDepth 100000 in
def f_X6_leadsTo_l2 (N : Nat) (I : OI) (R : RI) : Nat → Int32 → Option Int32
  | 0 => fun _ => none
  | n9 + 1 => f_X6_leadsTo_l2b N I R (f_X6_leadsTo_l2 N I R n9)
def f_X6_leadsTo (N : Nat) (I : OI) (R : RI) (x1 : Int32) : Option Int32 :=
  f_X6_leadsTo_l2 N I R N x1
