

set_option maxHeartbeats 4000000 in
set_option maxRecDepth 100000 in
def f_X6_send_j119 (N : Nat) (k17 : OI → RI → Int32 → Int32 → Int32 → Int32 → Option (Int32 × OI × RI)) (I : OI) (R : RI) (x1 : Int32) (x2 : Int32) (x3 : Int32) (x4 : Int32) (y0 : Int32) (y1 : Int32) : Option (Int32 × OI × RI) :=
  og y1 120 (ol (va_up R 24 (upd (R 24) y1.toNatClampNeg y0)) (fun R9 => ol (x4 + Int32.ofInt 1) (fun v10 => k17 I R9 x1 x2 x3 v10)))
set_option maxHeartbeats 4000000 in
set_option maxRecDepth 100000 in
def f_X6_send_j46 (N : Nat) (k17 : OI → RI → Int32 → Int32 → Int32 → Int32 → Option (Int32 × OI × RI)) (I : OI) (R : RI) (x1 : Int32) (x2 : Int32) (x4 : Int32) (x5 : Int32) (y0 : Int32) (y1 : Int32) : Option (Int32 × OI × RI) :=
  ol (y1 + y0) (fun v3 => if x5 = 0 then (ol (x4 + Int32.ofInt 1) (fun v4 => k17 I R x1 x2 v3 v4)) else (if x2 = 0 then (ol (x4 + Int32.ofInt 1) (fun v5 => k17 I R x1 x2 v3 v5)) else (og (I 8) 16384 (ol (va_up R 26 (upd (R 26) (I 8).toNatClampNeg x5)) (fun R6 => og (I 8) 16384 (ol (va_up R6 25 (upd (R6 25) (I 8).toNatClampNeg x1)) (fun R7 => ol (va_up I 8 ((I 8) + 1)) (fun I8 => if (x5 - x5 / 10 * 10) = 2 then (f_X6_send_j119 N k17 I8 R7 x1 x2 v3 x4 (-1) ((24 * x1) + x4)) else (og x4 24 (f_X6_send_j119 N k17 I8 R7 x1 x2 v3 x4 (R7 13 x4.toNatClampNeg) ((24 * x1) + x4)))))))))))
set_option maxHeartbeats 4000000 in
set_option maxRecDepth 100000 in
def f_X6_send_l17b (N : Nat) (k17 : OI → RI → Int32 → Int32 → Int32 → Int32 → Option (Int32 × OI × RI)) (I : OI) (R : RI) (x1 : Int32) (x2 : Int32) (x3 : Int32) (x4 : Int32) : Option (Int32 × OI × RI) :=
  if (I 4) ≤ x4 then (some (x3, I, R)) else (ob1 (f_X6_tidings I R x1 x4) (fun r2 => if r2 = 0 then (f_X6_send_j46 N k17 I R x1 x2 x4 r2 0 x3) else (f_X6_send_j46 N k17 I R x1 x2 x4 r2 1 x3)))
set_option maxHeartbeats 4000000 in
set_option maxRecDepth 100000 in
def f_X6_send_l17 (N : Nat) : Nat → OI → RI → Int32 → Int32 → Int32 → Int32 → Option (Int32 × OI × RI)
  | 0 => fun _ _ _ _ _ _ => none
  | n9 + 1 => f_X6_send_l17b N (f_X6_send_l17 N n9)
def f_X6_send (N : Nat) (I : OI) (R : RI) (x1 : Int32) (x2 : Int32) : Option (Int32 × OI × RI) :=
  ob1 (f_X6_goThrough N I R (I 1) (I 1)) (fun R1 => f_X6_send_l17 N N I R1 x1 x2 0 0)
set_option maxHeartbeats 4000000 in
set_option maxRecDepth 100000 in
def f_X6_deliver_j14 (N : Nat) (I : OI) (R : RI) (x1 : Int32) (y0 : Int32) : Option (Int32 × OI × RI) :=
  ob2 (f_X6_refused R I y0) (fun r2 I3 => if r2 = 0 then (ob3 (f_X6_send N I3 R x1 1) (fun r4 I5 R6 => some (r4, I5, R6))) else (some (0, I3, R)))
def f_X6_deliver (N : Nat) (I : OI) (R : RI) (x1 : Int32) : Option (Int32 × OI × RI) :=
  ob1 (f_X6_isRoll I R x1) (fun r1 => if r1 = 0 then (f_X6_deliver_j14 N I R x1 1) else (f_X6_deliver_j14 N I R x1 0))
set_option maxHeartbeats 4000000 in
set_option maxRecDepth 100000 in
def f_X6_owes_j14 (N : Nat) (I : OI) (R : RI) (x1 : Int32) (y0 : Int32) : Option (Int32 × OI × RI) :=
  ob2 (f_X6_refused R I y0) (fun r2 I3 => if r2 = 0 then (ob3 (f_X6_send N I3 R x1 0) (fun r4 I5 R6 => some (r4, I5, R6))) else (some (0, I3, R)))
def f_X6_owes (N : Nat) (I : OI) (R : RI) (x1 : Int32) : Option (Int32 × OI × RI) :=
  ob1 (f_X6_isRoll I R x1) (fun r1 => if r1 = 0 then (f_X6_owes_j14 N I R x1 1) else (f_X6_owes_j14 N I R x1 0))
set_option maxHeartbeats 4000000 in
set_option maxRecDepth 100000 in
def f_X6_message_j101 (N : Nat) (R : RI) (I : OI) (x4 : Int32) (y0 : Int32) : Option (Int32 × OI) :=
  ob2 (f_X6_refused R I y0) (fun r1 I2 => if r1 = 0 then (og x4 16384 (some (R 26 x4.toNatClampNeg, I2))) else (some (0, I2)))
set_option maxHeartbeats 4000000 in
set_option maxRecDepth 100000 in
def f_X6_message_j89 (N : Nat) (R : RI) (I : OI) (x4 : Int32) : Option (Int32 × OI) :=
  if x4 = (-1) then (f_X6_message_j101 N R I x4 1) else (f_X6_message_j101 N R I x4 0)
set_option maxHeartbeats 4000000 in
set_option maxRecDepth 100000 in
def f_X6_message_j68 (N : Nat) (R : RI) (k8 : OI → Int32 → Int32 → Int32 → Int32 → Int32 → Option (Int32 × OI)) (I : OI) (x1 : Int32) (x2 : Int32) (x3 : Int32) (x5 : Int32) (x6 : Int32) (y0 : Int32) : Option (Int32 × OI) :=
  if x6 = 0 then (ol (x3 - 0) (fun v4 => ol (x5 + Int32.ofInt 1) (fun v5 => k8 I x1 x2 v4 y0 v5))) else (ol (x3 - 1) (fun v6 => ol (x5 + Int32.ofInt 1) (fun v7 => k8 I x1 x2 v6 y0 v7)))
set_option maxHeartbeats 4000000 in
set_option maxRecDepth 100000 in
def f_X6_message_j51 (N : Nat) (R : RI) (k8 : OI → Int32 → Int32 → Int32 → Int32 → Int32 → Option (Int32 × OI)) (I : OI) (x1 : Int32) (x2 : Int32) (x3 : Int32) (x5 : Int32) (y0 : Int32) : Option (Int32 × OI) :=
  if y0 = 0 then (f_X6_message_j68 N R k8 I x1 x2 x3 x5 y0 (-1)) else (if x3 = 0 then (f_X6_message_j68 N R k8 I x1 x2 x3 x5 y0 x5) else (f_X6_message_j68 N R k8 I x1 x2 x3 x5 y0 (-1)))
set_option maxHeartbeats 4000000 in
set_option maxRecDepth 100000 in
def f_X6_message_l8b (N : Nat) (R : RI) (k8 : OI → Int32 → Int32 → Int32 → Int32 → Int32 → Option (Int32 × OI)) (I : OI) (x1 : Int32) (x2 : Int32) (x3 : Int32) (x4 : Int32) (x5 : Int32) : Option (Int32 × OI) :=
  if (I 8) ≤ x5 then (f_X6_message_j89 N R I x4) else (ob1 (f_X6_isRoll I R x1) (fun r3 => if r3 = 0 then (f_X6_message_j89 N R I x4) else (if x2 < 0 then (f_X6_message_j89 N R I x4) else (if x4 = (-1) then (og x5 16384 (if (R 25 x5.toNatClampNeg) = x1 then (f_X6_message_j51 N R k8 I x1 x2 x3 x5 1) else (f_X6_message_j51 N R k8 I x1 x2 x3 x5 0))) else (f_X6_message_j89 N R I x4)))))
set_option maxHeartbeats 4000000 in
set_option maxRecDepth 100000 in
def f_X6_message_l8 (N : Nat) (R : RI) : Nat → OI → Int32 → Int32 → Int32 → Int32 → Int32 → Option (Int32 × OI)
  | 0 => fun _ _ _ _ _ _ => none
  | n9 + 1 => f_X6_message_l8b N R (f_X6_message_l8 N R n9)
def f_X6_message (N : Nat) (R : RI) (I : OI) (x1 : Int32) (x2 : Int32) : Option (Int32 × OI) :=
  f_X6_message_l8 N R N I x1 x2 x2 (-1) 0
set_option maxHeartbeats 4000000 in
set_option maxRecDepth 100000 in
def f_X6_holds_j32 (R : RI) (I : OI) (x1 : Int32) (x2 : Int32) (y0 : Int32) : Option (Int32 × OI) :=
  ob2 (f_X6_refused R I y0) (fun r2 I3 => if r2 = 0 then (og ((24 * x1) + x2) 120 (some (R 24 ((24 * x1) + x2).toNatClampNeg, I3))) else (some (0, I3)))
set_option maxHeartbeats 4000000 in
set_option maxRecDepth 100000 in
def f_X6_holds_j21 (R : RI) (I : OI) (x1 : Int32) (x2 : Int32) (y0 : Int32) : Option (Int32 × OI) :=
  if y0 = 0 then (f_X6_holds_j32 R I x1 x2 1) else (f_X6_holds_j32 R I x1 x2 0)
def f_X6_holds (R : RI) (I : OI) (x1 : Int32) (x2 : Int32) : Option (Int32 × OI) :=
  ob1 (f_X6_isRoll I R x1) (fun r1 => if r1 = 0 then (f_X6_holds_j21 R I x1 x2 0) else (ob1 (f_X6_isPerson I R x2) (fun r4 => if r4 = 0 then (f_X6_holds_j21 R I x1 x2 0) else (f_X6_holds_j21 R I x1 x2 1))))
def f_X6_holdsAnew (R : RI) (I : OI) (x1 : Int32) (x2 : Int32) : Option (Int32 × OI) :=
  ob2 (f_X6_holds R I x1 x2) (fun r1 I2 => some (r1, I2))
set_option maxHeartbeats 4000000 in
set_option maxRecDepth 100000 in
def f_X6_bar_j14 (I : OI) (R : RI) (x1 : Int32) (x2 : Int32) (y0 : Int32) : Option (Int32 × OI × RI) :=
  ob2 (f_X6_refused R I y0) (fun r2 I3 => if r2 = 0 then (og x1 24 (ol (R 27 x1.toNatClampNeg) (fun v4 => og x1 24 (ol (va_up R 27 (upd (R 27) x1.toNatClampNeg (vp_nar .boolean x2))) (fun R5 => oz v4 (some (v4, I3, R5))))))) else (some (0, I3, R)))
def f_X6_bar (I : OI) (R : RI) (x1 : Int32) (x2 : Int32) : Option (Int32 × OI × RI) :=
  ob1 (f_X6_isPerson I R x1) (fun r1 => if r1 = 0 then (f_X6_bar_j14 I R x1 x2 1) else (f_X6_bar_j14 I R x1 x2 0))
set_option maxHeartbeats 4000000 in
set_option maxRecDepth 100000 in
def f_X6_look_j27 (N : Nat) (I : OI) (R : RI) (x1 : Int32) (x2 : Int32) (y0 : Int32) : Option (Int32 × OI × RI) :=
  ob2 (f_X6_refused R I y0) (fun r3 I4 => if r3 = 0 then (og x2 24 (og x2 24 (ol (va_up R 28 (upd (R 28) x2.toNatClampNeg ((R 28 x2.toNatClampNeg) + 1))) (fun R5 => ob1 (f_X6_goThrough N I4 R5 (I4 1) (I4 1)) (fun R6 => og x2 24 (if (R6 27 x2.toNatClampNeg) = 0 then (og x2 24 (some (R6 13 x2.toNatClampNeg, I4, R6))) else (if x1 = 0 then (og x2 24 (some (R6 13 x2.toNatClampNeg, I4, R6))) else (some ((-2), I4, R6))))))))) else (some (0, I4, R)))
def f_X6_look (N : Nat) (I : OI) (R : RI) (x1 : Int32) (x2 : Int32) : Option (Int32 × OI × RI) :=
  ob1 (f_X6_isPerson I R x2) (fun r1 => if r1 = 0 then (f_X6_look_j27 N I R x1 x2 1) else (ob1 (f_X6_within x1 0 3) (fun r2 => if r2 = 0 then (f_X6_look_j27 N I R x1 x2 2) else (f_X6_look_j27 N I R x1 x2 0))))
set_option maxHeartbeats 4000000 in
set_option maxRecDepth 100000 in
def f_X6_looks_j14 (R : RI) (I : OI) (x1 : Int32) (y0 : Int32) : Option (Int32 × OI) :=
  ob2 (f_X6_refused R I y0) (fun r2 I3 => if r2 = 0 then (og x1 24 (some (R 28 x1.toNatClampNeg, I3))) else (some (0, I3)))
def f_X6_looks (R : RI) (I : OI) (x1 : Int32) : Option (Int32 × OI) :=
  ob1 (f_X6_isPerson I R x1) (fun r1 => if r1 = 0 then (f_X6_looks_j14 R I x1 1) else (f_X6_looks_j14 R I x1 0))
