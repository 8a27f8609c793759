

def f_X6_part (I : OI) (R : RI) (x1 : Int32) : Option RI :=
  og x1 24 (if (R 15 x1.toNatClampNeg) = (-1) then (some R) else (og x1 24 (og (R 15 x1.toNatClampNeg) 24 (ol (va_up R 15 (upd (R 15) (R 15 x1.toNatClampNeg).toNatClampNeg (-1))) (fun R1 => og x1 24 (ol (va_up R1 15 (upd (R1 15) x1.toNatClampNeg (-1))) (fun R2 => some R2)))))))
set_option maxHeartbeats 4000000 in
set_option maxRecDepth 100000 in
def f_X6_tied_j46 (I : OI) (R : RI) (x1 : Int32) (x2 : Int32) (x3 : Int32) : Option RI :=
  if x1 = 3 then (og x2 24 (if (R 15 x2.toNatClampNeg) = (-1) then (og x3 24 (if (R 15 x3.toNatClampNeg) = (-1) then (og x2 24 (ol (va_up R 15 (upd (R 15) x2.toNatClampNeg x3)) (fun R1 => og x3 24 (ol (va_up R1 15 (upd (R1 15) x3.toNatClampNeg x2)) (fun R2 => some R2))))) else (some R))) else (some R))) else (some R)
def f_X6_tied (I : OI) (R : RI) (x1 : Int32) (x2 : Int32) (x3 : Int32) : Option RI :=
  if x1 = 6 then (og x2 24 (ol (va_up R 16 (upd (R 16) x2.toNatClampNeg x3)) (fun R4 => og x2 24 (ol (va_up R4 19 (upd (R4 19) x2.toNatClampNeg (vp_nar .boolean 1))) (fun R5 => some R5))))) else (if x1 = 4 then (og x2 24 (if (R 15 x2.toNatClampNeg) = x3 then (ob1 (f_X6_part I R x2) (fun R3 => some R3)) else (f_X6_tied_j46 I R x1 x2 x3))) else (f_X6_tied_j46 I R x1 x2 x3))
set_option maxHeartbeats 4000000 in
set_option maxRecDepth 100000 in
def f_X6_count_j188 (I : OI) (R : RI) (y0 : Int32) (y1 : Int32) : Option RI :=
  og y1 24 (ol (va_up R 14 (upd (R 14) y1.toNatClampNeg y0)) (fun R6 => some R6))
set_option maxHeartbeats 4000000 in
set_option maxRecDepth 100000 in
def f_X6_count_j157 (I : OI) (R : RI) (x1 : Int32) (x2 : Int32) (y0 : Int32) (y1 : Int32) : Option RI :=
  og y1 24 (ol (va_up R 13 (upd (R 13) y1.toNatClampNeg y0)) (fun R5 => og x1 150 (if (R5 0 x1.toNatClampNeg) = 2 then (og x1 150 (f_X6_count_j188 I R5 (R5 6 x1.toNatClampNeg) x2)) else (og x2 24 (f_X6_count_j188 I R5 (R5 14 x2.toNatClampNeg) x2)))))
set_option maxHeartbeats 4000000 in
set_option maxRecDepth 100000 in
def f_X6_count_j91 (I : OI) (R : RI) (x2 : Int32) (y0 : Int32) (y1 : Int32) : Option RI :=
  og y1 24 (ol (va_up R 16 (upd (R 16) y1.toNatClampNeg y0)) (fun R11 => og x2 24 (og x2 24 (ol (va_up R11 18 (upd (R11 18) x2.toNatClampNeg (R11 16 x2.toNatClampNeg))) (fun R12 => some R12)))))
def f_X6_count (I : OI) (R : RI) (x1 : Int32) (x2 : Int32) (x3 : Int32) : Option RI :=
  og x1 150 (if (R 0 x1.toNatClampNeg) = 0 then (og x2 24 (if (R 12 x2.toNatClampNeg) = 0 then (og x2 24 (ol (va_up R 12 (upd (R 12) x2.toNatClampNeg 1)) (fun R7 => og x1 150 (og x2 24 (ol (va_up R7 13 (upd (R7 13) x2.toNatClampNeg (R7 5 x1.toNatClampNeg))) (fun R8 => og x1 150 (og x2 24 (ol (va_up R8 14 (upd (R8 14) x2.toNatClampNeg (R8 6 x1.toNatClampNeg))) (fun R9 => og x1 150 (og x2 24 (ol (va_up R9 17 (upd (R9 17) x2.toNatClampNeg (R9 2 x1.toNatClampNeg))) (fun R10 => if x3 = (-1) then (f_X6_count_j91 I R10 x2 (-1) x2) else (if x3 = x2 then (f_X6_count_j91 I R10 x2 (-1) x2) else (og x3 24 (if (R10 12 x3.toNatClampNeg) = 1 then (f_X6_count_j91 I R10 x2 x3 x2) else (f_X6_count_j91 I R10 x2 (-1) x2)))))))))))))))) else (some R))) else (og x2 24 (if (R 12 x2.toNatClampNeg) = 1 then (og x1 150 (if 3 ≤ (R 0 x1.toNatClampNeg) then (og x1 150 (if (R 0 x1.toNatClampNeg) = 5 then (ob1 (f_X6_part I R x2) (fun R2 => og x2 24 (ol (va_up R2 12 (upd (R2 12) x2.toNatClampNeg 2)) (fun R3 => og x2 24 (ol (va_up R3 13 (upd (R3 13) x2.toNatClampNeg (-1))) (fun R4 => some R4)))))) else (og x3 24 (if (R 12 x3.toNatClampNeg) = 1 then (if x2 = x3 then (some R) else (og x1 150 (ob1 (f_X6_tied I R (R 0 x1.toNatClampNeg) x2 x3) (fun R1 => some R1)))) else (some R))))) else (og x1 150 (if (R 0 x1.toNatClampNeg) = 1 then (og x1 150 (f_X6_count_j157 I R x1 x2 (R 5 x1.toNatClampNeg) x2)) else (og x2 24 (f_X6_count_j157 I R x1 x2 (R 13 x2.toNatClampNeg) x2)))))) else (some R))))
set_option maxHeartbeats 4000000 in
set_option maxRecDepth 100000 in
def f_X6_goThrough_j238 (N : Nat) (I : OI) (k205 : RI → Int32 → Option RI) (R : RI) (x3 : Int32) (y0 : Int32) (y1 : Int32) : Option RI :=
  og y1 24 (ol (va_up R 12 (upd (R 12) y1.toNatClampNeg y0)) (fun R1 => ol (x3 + Int32.ofInt 1) (fun v2 => k205 R1 v2)))
set_option maxHeartbeats 4000000 in
set_option maxRecDepth 100000 in
def f_X6_goThrough_l205b (N : Nat) (I : OI) (k205 : RI → Int32 → Option RI) (R : RI) (x3 : Int32) : Option RI :=
  if (I 4) ≤ x3 then (some R) else (og x3 24 (if (R 11 x3.toNatClampNeg) = (-1) then (og x3 24 (f_X6_goThrough_j238 N I k205 R x3 (R 12 x3.toNatClampNeg) x3)) else (f_X6_goThrough_j238 N I k205 R x3 3 x3)))
set_option maxHeartbeats 4000000 in
set_option maxRecDepth 100000 in
def f_X6_goThrough_l205 (N : Nat) (I : OI) : Nat → RI → Int32 → Option RI
  | 0 => fun _ _ => none
  | n9 + 1 => f_X6_goThrough_l205b N I (f_X6_goThrough_l205 N I n9)
set_option maxHeartbeats 4000000 in
set_option maxRecDepth 100000 in
def f_X6_goThrough_l132b (N : Nat) (I : OI) (k132 : RI → Int32 → Int32 → Int32 → Option RI) (R : RI) (x1 : Int32) (x2 : Int32) (x3 : Int32) : Option RI :=
  if (I 3) ≤ x3 then (f_X6_goThrough_l205 N I N R 0) else (og x3 150 (ol (R 8 x3.toNatClampNeg) (fun v3 => og v3 150 (if x1 < (R 2 v3.toNatClampNeg) then (ol (x3 + Int32.ofInt 1) (fun v4 => k132 R x1 x2 v4)) else (ob1 (f_X6_isKnown I R v3 x2) (fun r5 => if r5 = 0 then (ol (x3 + Int32.ofInt 1) (fun v6 => k132 R x1 x2 v6)) else (og v3 150 (ob1 (f_X6_leadsTo N I R (R 3 v3.toNatClampNeg)) (fun r7 => og v3 150 (ob1 (f_X6_leadsTo N I R (R 4 v3.toNatClampNeg)) (fun r8 => ob1 (f_X6_count I R v3 r7 r8) (fun R9 => ol (x3 + Int32.ofInt 1) (fun v10 => k132 R9 x1 x2 v10)))))))))))))
set_option maxHeartbeats 4000000 in
set_option maxRecDepth 100000 in
def f_X6_goThrough_l132 (N : Nat) (I : OI) : Nat → RI → Int32 → Int32 → Int32 → Option RI
  | 0 => fun _ _ _ _ => none
  | n9 + 1 => f_X6_goThrough_l132b N I (f_X6_goThrough_l132 N I n9)
set_option maxHeartbeats 4000000 in
set_option maxRecDepth 100000 in
def f_X6_goThrough_l79b (N : Nat) (I : OI) (k79 : RI → Int32 → Int32 → Int32 → Option RI) (R : RI) (x1 : Int32) (x2 : Int32) (x3 : Int32) : Option RI :=
  if (I 2) ≤ x3 then (f_X6_goThrough_l132 N I N R x1 x2 0) else (og x3 150 (if (R 0 x3.toNatClampNeg) = 7 then (ob1 (f_X6_isKnown I R x3 x2) (fun r12 => if r12 = 0 then (ol (x3 + Int32.ofInt 1) (fun v13 => k79 R x1 x2 v13)) else (og x3 150 (og x3 150 (og (R 4 x3.toNatClampNeg) 24 (ol (va_up R 11 (upd (R 11) (R 4 x3.toNatClampNeg).toNatClampNeg (R 3 x3.toNatClampNeg))) (fun R14 => ol (x3 + Int32.ofInt 1) (fun v15 => k79 R14 x1 x2 v15)))))))) else (ol (x3 + Int32.ofInt 1) (fun v11 => k79 R x1 x2 v11))))
set_option maxHeartbeats 4000000 in
set_option maxRecDepth 100000 in
def f_X6_goThrough_l79 (N : Nat) (I : OI) : Nat → RI → Int32 → Int32 → Int32 → Option RI
  | 0 => fun _ _ _ _ => none
  | n9 + 1 => f_X6_goThrough_l79b N I (f_X6_goThrough_l79 N I n9)
set_option maxHeartbeats 4000000 in
set_option maxRecDepth 100000 in
def f_X6_goThrough_l2b (N : Nat) (I : OI) (k2 : RI → Int32 → Int32 → Int32 → Option RI) (R : RI) (x1 : Int32) (x2 : Int32) (x3 : Int32) : Option RI :=
  if 24 ≤ x3 then (f_X6_goThrough_l79 N I N R x1 x2 0) else (og x3 24 (ol (va_up R 11 (upd (R 11) x3.toNatClampNeg (-1))) (fun R16 => og x3 24 (ol (va_up R16 12 (upd (R16 12) x3.toNatClampNeg 0)) (fun R17 => og x3 24 (ol (va_up R17 13 (upd (R17 13) x3.toNatClampNeg (-1))) (fun R18 => og x3 24 (ol (va_up R18 14 (upd (R18 14) x3.toNatClampNeg (-1))) (fun R19 => og x3 24 (ol (va_up R19 15 (upd (R19 15) x3.toNatClampNeg (-1))) (fun R20 => og x3 24 (ol (va_up R20 16 (upd (R20 16) x3.toNatClampNeg (-1))) (fun R21 => og x3 24 (ol (va_up R21 17 (upd (R21 17) x3.toNatClampNeg (-1))) (fun R22 => og x3 24 (ol (va_up R22 18 (upd (R22 18) x3.toNatClampNeg (-1))) (fun R23 => og x3 24 (ol (va_up R23 19 (upd (R23 19) x3.toNatClampNeg (vp_nar .boolean 0))) (fun R24 => ol (x3 + Int32.ofInt 1) (fun v25 => k2 R24 x1 x2 v25))))))))))))))))))))
set_option maxHeartbeats 4000000 in
set_option maxRecDepth 100000 in
def f_X6_goThrough_l2 (N : Nat) (I : OI) : Nat → RI → Int32 → Int32 → Int32 → Option RI
  | 0 => fun _ _ _ _ => none
  | n9 + 1 => f_X6_goThrough_l2b N I (f_X6_goThrough_l2 N I n9)
def f_X6_goThrough (N : Nat) (I : OI) (R : RI) (x1 : Int32) (x2 : Int32) : Option RI :=
  f_X6_goThrough_l2 N I N R x1 x2 0
def f_X6_ageOf (I : OI) (R : RI) (x1 : Int32) (x2 : Int32) : Option Int32 :=
  og x1 24 (if (R 12 x1.toNatClampNeg) = 1 then (og x1 24 (some ((x2 - (R 17 x1.toNatClampNeg)) / 365))) else (some (-1)))
def f_X6_isChild (I : OI) (R : RI) (x1 : Int32) (x2 : Int32) (x3 : Int32) : Option Int32 :=
  og x1 24 (if (R 16 x1.toNatClampNeg) = x2 then (ob1 (f_X6_ageOf I R x1 x3) (fun r1 => if 18 ≤ r1 then (some 0) else (og x1 24 (if (R 15 x1.toNatClampNeg) = (-1) then (some 1) else (some 0))))) else (some 0))
set_option maxHeartbeats 4000000 in
set_option maxRecDepth 100000 in
def f_X6_settle_j165 (N : Nat) (I : OI) (k39 : RI → Int32 → Int32 → Option RI) (k47 : RI → Int32 → Int32 → Int32 → Option RI) (k58 : RI → Int32 → Int32 → Int32 → Int32 → Option RI) (R : RI) (x1 : Int32) (x3 : Int32) (x4 : Int32) : Option RI :=
  og x4 24 (og x3 24 (ol (va_up R 20 (upd (R 20) x3.toNatClampNeg (R 20 x4.toNatClampNeg))) (fun R4 => ol (x4 + Int32.ofInt 1) (fun v5 => k58 R4 x1 1 x3 v5))))
set_option maxHeartbeats 4000000 in
set_option maxRecDepth 100000 in
def f_X6_settle_j109 (N : Nat) (I : OI) (k39 : RI → Int32 → Int32 → Option RI) (k47 : RI → Int32 → Int32 → Int32 → Option RI) (k58 : RI → Int32 → Int32 → Int32 → Int32 → Option RI) (R : RI) (x1 : Int32) (x2 : Int32) (x3 : Int32) (x4 : Int32) (y0 : Int32) : Option RI :=
  if y0 = 0 then (ol (x4 + Int32.ofInt 1) (fun v2 => k58 R x1 x2 x3 v2)) else (og x4 24 (og x3 24 (if (R 20 x3.toNatClampNeg) ≤ (R 20 x4.toNatClampNeg) then (ol (x4 + Int32.ofInt 1) (fun v3 => k58 R x1 x2 x3 v3)) else (og x3 24 (if (R 15 x3.toNatClampNeg) = x4 then (f_X6_settle_j165 N I k39 k47 k58 R x1 x3 x4) else (ob1 (f_X6_isChild I R x3 x4 x1) (fun r6 => if r6 = 0 then (ob1 (f_X6_isChild I R x4 x3 x1) (fun r7 => if r7 = 0 then (ol (x4 + Int32.ofInt 1) (fun v8 => k58 R x1 x2 x3 v8)) else (f_X6_settle_j165 N I k39 k47 k58 R x1 x3 x4))) else (f_X6_settle_j165 N I k39 k47 k58 R x1 x3 x4))))))))
set_option maxHeartbeats 4000000 in
set_option maxRecDepth 100000 in
def f_X6_settle_l58b (N : Nat) (I : OI) (k39 : RI → Int32 → Int32 → Option RI) (k47 : RI → Int32 → Int32 → Int32 → Option RI) (k58 : RI → Int32 → Int32 → Int32 → Int32 → Option RI) (R : RI) (x1 : Int32) (x2 : Int32) (x3 : Int32) (x4 : Int32) : Option RI :=
  if (I 4) ≤ x4 then (ol (x3 + Int32.ofInt 1) (fun v1 => k47 R x1 x2 v1)) else (og x3 24 (if (R 12 x3.toNatClampNeg) = 1 then (og x4 24 (if (R 12 x4.toNatClampNeg) = 1 then (og x3 24 (og x4 24 (if (R 13 x3.toNatClampNeg) = (R 13 x4.toNatClampNeg) then (f_X6_settle_j109 N I k39 k47 k58 R x1 x2 x3 x4 1) else (f_X6_settle_j109 N I k39 k47 k58 R x1 x2 x3 x4 0)))) else (f_X6_settle_j109 N I k39 k47 k58 R x1 x2 x3 x4 0))) else (f_X6_settle_j109 N I k39 k47 k58 R x1 x2 x3 x4 0)))
set_option maxHeartbeats 4000000 in
set_option maxRecDepth 100000 in
def f_X6_settle_l58 (N : Nat) (I : OI) (k39 : RI → Int32 → Int32 → Option RI) (k47 : RI → Int32 → Int32 → Int32 → Option RI) : Nat → RI → Int32 → Int32 → Int32 → Int32 → Option RI
  | 0 => fun _ _ _ _ _ => none
  | n9 + 1 => f_X6_settle_l58b N I k39 k47 (f_X6_settle_l58 N I k39 k47 n9)
set_option maxHeartbeats 4000000 in
set_option maxRecDepth 100000 in
def f_X6_settle_l47b (N : Nat) (I : OI) (k39 : RI → Int32 → Int32 → Option RI) (k47 : RI → Int32 → Int32 → Int32 → Option RI) (R : RI) (x1 : Int32) (x2 : Int32) (x3 : Int32) : Option RI :=
  if (I 4) ≤ x3 then (k39 R x1 x2) else (f_X6_settle_l58 N I k39 k47 N R x1 x2 x3 0)
set_option maxHeartbeats 4000000 in
set_option maxRecDepth 100000 in
def f_X6_settle_l47 (N : Nat) (I : OI) (k39 : RI → Int32 → Int32 → Option RI) : Nat → RI → Int32 → Int32 → Int32 → Option RI
  | 0 => fun _ _ _ _ => none
  | n9 + 1 => f_X6_settle_l47b N I k39 (f_X6_settle_l47 N I k39 n9)
set_option maxHeartbeats 4000000 in
set_option maxRecDepth 100000 in
def f_X6_settle_l39b (N : Nat) (I : OI) (k39 : RI → Int32 → Int32 → Option RI) (R : RI) (x1 : Int32) (x2 : Int32) : Option RI :=
  if x2 = 0 then (some R) else (f_X6_settle_l47 N I k39 N R x1 0 0)
set_option maxHeartbeats 4000000 in
set_option maxRecDepth 100000 in
def f_X6_settle_l39 (N : Nat) (I : OI) : Nat → RI → Int32 → Int32 → Option RI
  | 0 => fun _ _ _ => none
  | n9 + 1 => f_X6_settle_l39b N I (f_X6_settle_l39 N I n9)
set_option maxHeartbeats 4000000 in
set_option maxRecDepth 100000 in
def f_X6_settle_j30 (N : Nat) (I : OI) (k2 : RI → Int32 → Int32 → Option RI) (R : RI) (x1 : Int32) (x2 : Int32) (y0 : Int32) (y1 : Int32) : Option RI :=
  og y1 24 (ol (va_up R 20 (upd (R 20) y1.toNatClampNeg y0)) (fun R9 => ol (x2 + Int32.ofInt 1) (fun v10 => k2 R9 x1 v10)))
set_option maxHeartbeats 4000000 in
set_option maxRecDepth 100000 in
def f_X6_settle_l2b (N : Nat) (I : OI) (k2 : RI → Int32 → Int32 → Option RI) (R : RI) (x1 : Int32) (x2 : Int32) : Option RI :=
  if (I 4) ≤ x2 then (f_X6_settle_l39 N I N R x1 1) else (og x2 24 (if (R 12 x2.toNatClampNeg) = 1 then (f_X6_settle_j30 N I k2 R x1 x2 x2 x2) else (f_X6_settle_j30 N I k2 R x1 x2 (-1) x2)))
set_option maxHeartbeats 4000000 in
set_option maxRecDepth 100000 in
def f_X6_settle_l2 (N : Nat) (I : OI) : Nat → RI → Int32 → Int32 → Option RI
  | 0 => fun _ _ _ => none
  | n9 + 1 => f_X6_settle_l2b N I (f_X6_settle_l2 N I n9)
def f_X6_settle (N : Nat) (I : OI) (R : RI) (x1 : Int32) : Option RI :=
  f_X6_settle_l2 N I N R x1 0
def f_X6_tells (N : Nat) (I : OI) (R : RI) (x1 : Int32) (x2 : Int32) (x3 : Int32) : Option (Int32 × RI) :=
  if 3 ≤ x2 then (if 6 ≤ x2 then (ob1 (f_X6_settle N I R x3) (fun R1 => og x1 24 (some (R1 20 x1.toNatClampNeg, R1)))) else (if x2 = 3 then (og x1 24 (some (R 15 x1.toNatClampNeg, R))) else (if x2 = 4 then (og x1 24 (some (R 16 x1.toNatClampNeg, R))) else (ob1 (f_X6_ageOf I R x1 x3) (fun r2 => some (r2, R)))))) else (if x2 = 0 then (og x1 24 (some (R 12 x1.toNatClampNeg, R))) else (if x2 = 1 then (og x1 24 (some (R 13 x1.toNatClampNeg, R))) else (og x1 24 (some (R 14 x1.toNatClampNeg, R)))))
def f_X6_day (R : RI) (I : OI) : Option (Int32 × OI) :=
  ol (va_up I 0 0) (fun I1 => some (I1 1, I1))
