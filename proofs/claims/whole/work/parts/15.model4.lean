

set_option maxHeartbeats 4000000 in
set_option maxRecDepth 100000 in
def f_X6_likeness_j41 (N : Nat) (I : OI) (R : RI) (x1 : Int32) (x2 : Int32) (y0 : Int32) : Option (Int32 × OI × RI) :=
  ob2 (f_X6_refused R I y0) (fun r2 I3 => if r2 = 0 then (ob1 (f_X6_goThrough N I3 R (I3 1) (I3 1)) (fun R4 => ob1 (f_X6_like I3 R4 x1 x2) (fun r5 => some (r5, I3, R4)))) else (some (0, I3, R)))
set_option maxHeartbeats 4000000 in
set_option maxRecDepth 100000 in
def f_X6_likeness_j21 (N : Nat) (I : OI) (R : RI) (x1 : Int32) (x2 : Int32) (y0 : Int32) : Option (Int32 × OI × RI) :=
  if y0 = 0 then (f_X6_likeness_j41 N I R x1 x2 1) else (if x1 = x2 then (f_X6_likeness_j41 N I R x1 x2 2) else (f_X6_likeness_j41 N I R x1 x2 0))
def f_X6_likeness (N : Nat) (I : OI) (R : RI) (x1 : Int32) (x2 : Int32) : Option (Int32 × OI × RI) :=
  ob1 (f_X6_isPerson I R x1) (fun r1 => if r1 = 0 then (f_X6_likeness_j21 N I R x1 x2 0) else (ob1 (f_X6_isPerson I R x2) (fun r6 => if r6 = 0 then (f_X6_likeness_j21 N I R x1 x2 0) else (f_X6_likeness_j21 N I R x1 x2 1))))
abbrev rmX6_likeness : Room := { frames := 4, cells := 0, slots := 0, locals := 91 }
theorem in_X6_likeness_X6 : ∀ w ∈ u_ws RX6 TX6 38, w ∈ wsX6_likeness := in_of 68 rfl
theorem hy_X6_likeness : yX6_likeness.cls ≠ "java/lang/invoke/MethodHandle" ∧ yX6_likeness.cls ≠ "java/lang/invoke/VarHandle" ∧ (parseMethodDescriptor yX6_likeness.desc).map (fun d => d.parameters.length) = some 2 := by decide +kernel
theorem hyV_X6_likeness : yX6_likeness.cls = RX6 ∧ yX6_likeness.cls ≠ "java/lang/invoke/MethodHandle" ∧ yX6_likeness.cls ≠ "java/lang/invoke/VarHandle" ∧ (parseMethodDescriptor yX6_likeness.desc).map (fun d => d.parameters.length) = some 2 := ⟨rfl, hy_X6_likeness⟩
set_option maxHeartbeats 8000000 in
set_option maxRecDepth 100000 in
theorem c_X6_likeness (l : Launch) (G : va_G) (cI cZ cQ cU cJ : ClassId) (N : Nat) (o : Nat) (ad : Nat → Nat) (I : OI) (R : RI) (x1 : Int32) (x2 : Int32) (out : Int32 × OI × RI) (hf : f_X6_likeness N I R x1 x2 = some out) : Con l yX6_likeness wsX6_likeness rmX6_likeness G vwCl (tys cI cZ cQ cU cJ) nws [.ref o, .int x1, .int x2] (pf [mW cI cZ o ad I R]) (some (.int out.1)) (pf [mW cI cZ o ad out.2.1 out.2.2]) := by
  refine con_of (rv := fun out : Int32 × OI × RI => some (.int out.1)) (Wd := fun out : Int32 × OI × RI => pf [mW cI cZ o ad out.2.1 out.2.2]) (maxL := 4) (own := RX6) rfl (plainFor_of_name (by decide +kernel)) rfl (Nat.le_of_ble_eq_true rfl) ?_ hf
  intro p e s m args below meth c A C hret hname
  have j41 : ∀ (I : OI) (R : RI) (x1 : Int32) (x2 : Int32) (y0 : Int32), VJ p l e rmX6_likeness s m args below meth c 4 G vwCl A (QR below G vwCl A args s rmX6_likeness.cells rmX6_likeness.slots (fun out : Int32 × OI × RI => some (.int out.1)) (fun out : Int32 × OI × RI => pf [mW cI cZ o ad out.2.1 out.2.2])) 0 0 (f_X6_likeness_j41 N  I R x1 x2 y0) (pf [mW cI cZ o ad I R]) 41 [(0, .ref o), (1, .int x1), (2, .int x2)] [.int y0, .ref o] := by
    intro  I R x1 x2 y0
    unfold f_X6_likeness_j41
    refine VJ.callV2 C [.int y0] (pf [mW cI cZ o ad I R]) ([]) (fun r2 I3 => some (.int r2)) (fun r2 I3 => pf [mW cI cZ o ad I3 R]) (fun r2 I3 => pf [mW cI cZ o ad I3 R]) (fun r2 I3 => [.int r2]) 0 0 (fun _ h9 => c_X6_refused l G cI cZ cQ cU cJ o ad I R y0 _ h9) (vj_p0 _) (fun _ _ => vj_p0' _) 0 rfl rfl (cwV 1 C.1.2.2.2.2 gX6_likeness_X6_refused rfl rfl rfl hyV_X6_refused ⟨Nat.le_of_ble_eq_true rfl, Nat.le_of_ble_eq_true rfl⟩) rfl rfl (fun _ _ => rfl) (Nat.le_of_ble_eq_true rfl) dX6_likeness_41 ⟨Nat.le_of_ble_eq_true rfl, Nat.le_of_ble_eq_true rfl⟩ ⟨rfl, rfl⟩ (fun r2 I3 => ?_)
    refine VJ.if_eq C 49 dX6_likeness_44 (by decide) (fun _ => ?_) (fun _ => ?_)
    · refine VJ.aload_n C 0 dX6_likeness_49 rfl ?_
      refine VJ.aload_n C 0 dX6_likeness_50 rfl ?_
      refine VJ.get (C0 := RX6) (T := TX6) (N := 38) (ci := 6) C in_X6_likeness_X6 0 rfl rfl 1 (Nat.le_of_ble_eq_true rfl) (C.1.2.2.2.2 _ (List.mem_of_getElem? (i := 1) rfl)) (fun _ h9 => h9) (v := .int (I3 1)) rfl dX6_likeness_51 ?_
      refine VJ.aload_n C 0 dX6_likeness_54 rfl ?_
      refine VJ.get (C0 := RX6) (T := TX6) (N := 38) (ci := 6) C in_X6_likeness_X6 0 rfl rfl 1 (Nat.le_of_ble_eq_true rfl) (C.1.2.2.2.2 _ (List.mem_of_getElem? (i := 1) rfl)) (fun _ h9 => h9) (v := .int (I3 1)) rfl dX6_likeness_55 ?_
      refine VJ.callV1 C [.int (I3 1), .int (I3 1)] (pf [mW cI cZ o ad I3 R]) ([]) (fun R4 => none) (fun R4 => pf [mW cI cZ o ad I3 R4]) (fun R4 => pf [mW cI cZ o ad I3 R4]) (fun R4 => []) 0 0 (fun _ h9 => c_X6_goThrough l G cI cZ cQ cU cJ N o ad I3 R (I3 1) (I3 1) _ h9) (vj_p0 _) (fun _ => vj_p0' _) 0 rfl rfl (cwV 2 C.1.2.2.2.2 gX6_likeness_X6_goThrough rfl rfl rfl hyV_X6_goThrough ⟨Nat.le_of_ble_eq_true rfl, Nat.le_of_ble_eq_true rfl⟩) rfl rfl (fun _ => rfl) (Nat.le_of_ble_eq_true rfl) dX6_likeness_58 ⟨Nat.le_of_ble_eq_true rfl, Nat.le_of_ble_eq_true rfl⟩ ⟨rfl, rfl⟩ (fun R4 => ?_)
      refine VJ.aload_n C 0 dX6_likeness_61 rfl ?_
      refine VJ.iload_n C 1 dX6_likeness_62 rfl ?_
      refine VJ.iload_n C 2 dX6_likeness_63 rfl ?_
      refine VJ.callV1 C [.int x1, .int x2] (pf [mW cI cZ o ad I3 R4]) ([]) (fun r5 => some (.int r5)) (fun r5 => pf [mW cI cZ o ad I3 R4]) (fun r5 => pf [mW cI cZ o ad I3 R4]) (fun r5 => [.int r5]) 0 0 (fun _ h9 => c_X6_like l G cI cZ cQ cU cJ o ad I3 R4 x1 x2 _ h9) (vj_p0 _) (fun _ => vj_p0' _) 0 rfl rfl (cwV 2 C.1.2.2.2.2 gX6_likeness_X6_like rfl rfl rfl hyV_X6_like ⟨Nat.le_of_ble_eq_true rfl, Nat.le_of_ble_eq_true rfl⟩) rfl rfl (fun _ => rfl) (Nat.le_of_ble_eq_true rfl) dX6_likeness_64 ⟨Nat.le_of_ble_eq_true rfl, Nat.le_of_ble_eq_true rfl⟩ ⟨rfl, rfl⟩ (fun r5 => ?_)
      exact VJ.iret C hret rfl rfl dX6_likeness_67
    · refine VJ.iconst (v := 0) C dX6_likeness_47 (by decide) ?_
      exact VJ.iret C hret rfl rfl dX6_likeness_48
  have j21 : ∀ (I : OI) (R : RI) (x1 : Int32) (x2 : Int32) (y0 : Int32), VJ p l e rmX6_likeness s m args below meth c 4 G vwCl A (QR below G vwCl A args s rmX6_likeness.cells rmX6_likeness.slots (fun out : Int32 × OI × RI => some (.int out.1)) (fun out : Int32 × OI × RI => pf [mW cI cZ o ad out.2.1 out.2.2])) 0 0 (f_X6_likeness_j21 N  I R x1 x2 y0) (pf [mW cI cZ o ad I R]) 21 [(0, .ref o), (1, .int x1), (2, .int x2)] [.int y0] := by
    intro  I R x1 x2 y0
    unfold f_X6_likeness_j21
    refine VJ.istore_n C [(3, .int y0), (0, .ref o), (1, .int x1), (2, .int x2)] dX6_likeness_21 (Nat.le_of_ble_eq_true rfl) rfl ?_
    refine VJ.aload_n C 1 dX6_likeness_22 rfl ?_
    refine VJ.iload_n C 0 dX6_likeness_23 rfl ?_
    refine VJ.if_ne C 31 dX6_likeness_24 (by decide) (fun _ => ?_) (fun _ => ?_)
    · refine VJ.iload_n C 2 dX6_likeness_31 rfl ?_
      refine VJ.iload_n C 3 dX6_likeness_32 rfl ?_
      refine VJ.icmp_ne C 40 dX6_likeness_33 (by decide) (fun _ => ?_) (fun _ => ?_)
      · refine VJ.iconst (v := 0) C dX6_likeness_40 (by decide) ?_
        refine VJ.sub [1, 2, 3] rfl ?_
        exact j41 I R x1 x2 0
      · refine VJ.iconst (v := 2) C dX6_likeness_36 (by decide) ?_
        refine VJ.goto C 41 dX6_likeness_37 (by decide) ?_
        refine VJ.sub [1, 2, 3] rfl ?_
        exact j41 I R x1 x2 2
    · refine VJ.iconst (v := 1) C dX6_likeness_27 (by decide) ?_
      refine VJ.goto C 41 dX6_likeness_28 (by decide) ?_
      refine VJ.sub [1, 2, 3] rfl ?_
      exact j41 I R x1 x2 1
  unfold f_X6_likeness
  refine VJ.aload_n C 0 dX6_likeness_0 rfl ?_
  refine VJ.iload_n C 1 dX6_likeness_1 rfl ?_
  refine VJ.callV1 C [.int x1] (pf [mW cI cZ o ad I R]) ([]) (fun r1 => some (.int r1)) (fun r1 => pf [mW cI cZ o ad I R]) (fun r1 => pf [mW cI cZ o ad I R]) (fun r1 => [.int r1]) 0 0 (fun _ h9 => c_X6_isPerson l G cI cZ cQ cU cJ o ad I R x1 _ h9) (vj_p0 _) (fun _ => vj_p0' _) 0 rfl rfl (cwV 1 C.1.2.2.2.2 gX6_likeness_X6_isPerson rfl rfl rfl hyV_X6_isPerson ⟨Nat.le_of_ble_eq_true rfl, Nat.le_of_ble_eq_true rfl⟩) rfl rfl (fun _ => rfl) (Nat.le_of_ble_eq_true rfl) dX6_likeness_2 ⟨Nat.le_of_ble_eq_true rfl, Nat.le_of_ble_eq_true rfl⟩ ⟨rfl, rfl⟩ (fun r1 => ?_)
  refine VJ.if_eq C 20 dX6_likeness_5 (by decide) (fun _ => ?_) (fun _ => ?_)
  · refine VJ.iconst (v := 0) C dX6_likeness_20 (by decide) ?_
    exact j21 I R x1 x2 0
  · refine VJ.aload_n C 0 dX6_likeness_8 rfl ?_
    refine VJ.iload_n C 2 dX6_likeness_9 rfl ?_
    refine VJ.callV1 C [.int x2] (pf [mW cI cZ o ad I R]) ([]) (fun r6 => some (.int r6)) (fun r6 => pf [mW cI cZ o ad I R]) (fun r6 => pf [mW cI cZ o ad I R]) (fun r6 => [.int r6]) 0 0 (fun _ h9 => c_X6_isPerson l G cI cZ cQ cU cJ o ad I R x2 _ h9) (vj_p0 _) (fun _ => vj_p0' _) 0 rfl rfl (cwV 1 C.1.2.2.2.2 gX6_likeness_X6_isPerson rfl rfl rfl hyV_X6_isPerson ⟨Nat.le_of_ble_eq_true rfl, Nat.le_of_ble_eq_true rfl⟩) rfl rfl (fun _ => rfl) (Nat.le_of_ble_eq_true rfl) dX6_likeness_10 ⟨Nat.le_of_ble_eq_true rfl, Nat.le_of_ble_eq_true rfl⟩ ⟨rfl, rfl⟩ (fun r6 => ?_)
    refine VJ.if_eq C 20 dX6_likeness_13 (by decide) (fun _ => ?_) (fun _ => ?_)
    · refine VJ.iconst (v := 0) C dX6_likeness_20 (by decide) ?_
      exact j21 I R x1 x2 0
    · refine VJ.iconst (v := 1) C dX6_likeness_16 (by decide) ?_
      refine VJ.goto C 21 dX6_likeness_17 (by decide) ?_
      exact j21 I R x1 x2 1

set_option maxHeartbeats 4000000 in
set_option maxRecDepth 100000 in
def f_X6_doubleOf_l36b (N : Nat) (k36 : OI → RI → Int32 → Int32 → Option (Int32 × OI × RI)) (I : OI) (R : RI) (x1 : Int32) (x2 : Int32) : Option (Int32 × OI × RI) :=
  if (I 4) ≤ x2 then (some ((-1), I, R)) else (if x2 = x1 then (ol (x2 + Int32.ofInt 1) (fun v5 => k36 I R x1 v5)) else (ob1 (f_X6_like I R x1 x2) (fun r6 => if r6 < 8 then (ol (x2 + Int32.ofInt 1) (fun v7 => k36 I R x1 v7)) else (some (x2, I, R)))))
set_option maxHeartbeats 4000000 in
set_option maxRecDepth 100000 in
def f_X6_doubleOf_l36 (N : Nat) : Nat → OI → RI → Int32 → Int32 → Option (Int32 × OI × RI)
  | 0 => fun _ _ _ _ => none
  | n9 + 1 => f_X6_doubleOf_l36b N (f_X6_doubleOf_l36 N n9)
set_option maxHeartbeats 4000000 in
set_option maxRecDepth 100000 in
def f_X6_doubleOf_j14 (N : Nat) (I : OI) (R : RI) (x1 : Int32) (y0 : Int32) : Option (Int32 × OI × RI) :=
  ob2 (f_X6_refused R I y0) (fun r2 I3 => if r2 = 0 then (ob1 (f_X6_goThrough N I3 R (I3 1) (I3 1)) (fun R4 => f_X6_doubleOf_l36 N N I3 R4 x1 0)) else (some (0, I3, R)))
def f_X6_doubleOf (N : Nat) (I : OI) (R : RI) (x1 : Int32) : Option (Int32 × OI × RI) :=
  ob1 (f_X6_isPerson I R x1) (fun r1 => if r1 = 0 then (f_X6_doubleOf_j14 N I R x1 1) else (f_X6_doubleOf_j14 N I R x1 0))
abbrev rmX6_doubleOf : Room := { frames := 4, cells := 0, slots := 0, locals := 91 }
theorem in_X6_doubleOf_X6 : ∀ w ∈ u_ws RX6 TX6 38, w ∈ wsX6_doubleOf := in_of 68 rfl
theorem hy_X6_doubleOf : yX6_doubleOf.cls ≠ "java/lang/invoke/MethodHandle" ∧ yX6_doubleOf.cls ≠ "java/lang/invoke/VarHandle" ∧ (parseMethodDescriptor yX6_doubleOf.desc).map (fun d => d.parameters.length) = some 1 := by decide +kernel
theorem hyV_X6_doubleOf : yX6_doubleOf.cls = RX6 ∧ yX6_doubleOf.cls ≠ "java/lang/invoke/MethodHandle" ∧ yX6_doubleOf.cls ≠ "java/lang/invoke/VarHandle" ∧ (parseMethodDescriptor yX6_doubleOf.desc).map (fun d => d.parameters.length) = some 1 := ⟨rfl, hy_X6_doubleOf⟩
set_option maxHeartbeats 8000000 in
set_option maxRecDepth 100000 in
theorem c_X6_doubleOf (l : Launch) (G : va_G) (cI cZ cQ cU cJ : ClassId) (N : Nat) (o : Nat) (ad : Nat → Nat) (I : OI) (R : RI) (x1 : Int32) (out : Int32 × OI × RI) (hf : f_X6_doubleOf N I R x1 = some out) : Con l yX6_doubleOf wsX6_doubleOf rmX6_doubleOf G vwCl (tys cI cZ cQ cU cJ) nws [.ref o, .int x1] (pf [mW cI cZ o ad I R]) (some (.int out.1)) (pf [mW cI cZ o ad out.2.1 out.2.2]) := by
  refine con_of (rv := fun out : Int32 × OI × RI => some (.int out.1)) (Wd := fun out : Int32 × OI × RI => pf [mW cI cZ o ad out.2.1 out.2.2]) (maxL := 3) (own := RX6) rfl (plainFor_of_name (by decide +kernel)) rfl (Nat.le_of_ble_eq_true rfl) ?_ hf
  intro p e s m args below meth c A C hret hname
  have j36 : ∀ (n9 : Nat) (I : OI) (R : RI) (x1 : Int32) (x2 : Int32), VJ p l e rmX6_doubleOf s m args below meth c 3 G vwCl A (QR below G vwCl A args s rmX6_doubleOf.cells rmX6_doubleOf.slots (fun out : Int32 × OI × RI => some (.int out.1)) (fun out : Int32 × OI × RI => pf [mW cI cZ o ad out.2.1 out.2.2])) 0 0 (f_X6_doubleOf_l36 N  n9 I R x1 x2) (pf [mW cI cZ o ad I R]) 36 [(0, .ref o), (1, .int x1), (2, .int x2)] [] := by
    intro  n9
    induction n9 with
    | zero => intro I R x1 x2; exact VJ.fnone rfl
    | succ n9 i36 =>
      intro I R x1 x2
      refine VJ.eqf (f' := f_X6_doubleOf_l36b N  (f_X6_doubleOf_l36 N  n9) I R x1 x2) rfl ?_
      generalize f_X6_doubleOf_l36 N  n9 = k36 at i36 ⊢
      unfold f_X6_doubleOf_l36b
      refine VJ.iload_n C 2 dX6_doubleOf_36 rfl ?_
      refine VJ.aload_n C 0 dX6_doubleOf_37 rfl ?_
      refine VJ.get (C0 := RX6) (T := TX6) (N := 38) (ci := 6) C in_X6_doubleOf_X6 0 rfl rfl 13 (Nat.le_of_ble_eq_true rfl) (C.1.2.2.2.2 _ (List.mem_of_getElem? (i := 2) rfl)) (fun _ h9 => h9) (v := .int (I 4)) rfl dX6_doubleOf_38 ?_
      refine VJ.icmp_ge C 68 dX6_doubleOf_41 (by decide) (fun _ => ?_) (fun _ => ?_)
      · refine VJ.iconst (v := (-1)) C dX6_doubleOf_68 (by decide) ?_
        exact VJ.iret C hret rfl rfl dX6_doubleOf_69
      · refine VJ.iload_n C 2 dX6_doubleOf_44 rfl ?_
        refine VJ.iload_n C 1 dX6_doubleOf_45 rfl ?_
        refine VJ.icmp_eq C 62 dX6_doubleOf_46 (by decide) (fun _ => ?_) (fun _ => ?_)
        · refine VJ.iincN C 2 (fun v5 => [(2, .int v5), (0, .ref o), (1, .int x1)]) dX6_doubleOf_62 rfl (Nat.le_of_ble_eq_true rfl) (fun _ => rfl) (fun v5 => ?_)
          refine VJ.goto C 36 dX6_doubleOf_65 (by decide) ?_
          refine VJ.sub [1, 2, 0] rfl ?_
          exact i36 I R x1 v5
        · refine VJ.aload_n C 0 dX6_doubleOf_49 rfl ?_
          refine VJ.iload_n C 1 dX6_doubleOf_50 rfl ?_
          refine VJ.iload_n C 2 dX6_doubleOf_51 rfl ?_
          refine VJ.callV1 C [.int x1, .int x2] (pf [mW cI cZ o ad I R]) ([]) (fun r6 => some (.int r6)) (fun r6 => pf [mW cI cZ o ad I R]) (fun r6 => pf [mW cI cZ o ad I R]) (fun r6 => [.int r6]) 0 0 (fun _ h9 => c_X6_like l G cI cZ cQ cU cJ o ad I R x1 x2 _ h9) (vj_p0 _) (fun _ => vj_p0' _) 0 rfl rfl (cwV 2 C.1.2.2.2.2 gX6_doubleOf_X6_like rfl rfl rfl hyV_X6_like ⟨Nat.le_of_ble_eq_true rfl, Nat.le_of_ble_eq_true rfl⟩) rfl rfl (fun _ => rfl) (Nat.le_of_ble_eq_true rfl) dX6_doubleOf_52 ⟨Nat.le_of_ble_eq_true rfl, Nat.le_of_ble_eq_true rfl⟩ ⟨rfl, rfl⟩ (fun r6 => ?_)
          refine VJ.bipush (v := 8) C dX6_doubleOf_55 (by decide) ?_
          refine VJ.icmp_lt C 62 dX6_doubleOf_57 (by decide) (fun _ => ?_) (fun _ => ?_)
          · refine VJ.iincN C 2 (fun v7 => [(2, .int v7), (0, .ref o), (1, .int x1)]) dX6_doubleOf_62 rfl (Nat.le_of_ble_eq_true rfl) (fun _ => rfl) (fun v7 => ?_)
            refine VJ.goto C 36 dX6_doubleOf_65 (by decide) ?_
            refine VJ.sub [1, 2, 0] rfl ?_
            exact i36 I R x1 v7
          · refine VJ.iload_n C 2 dX6_doubleOf_60 rfl ?_
            exact VJ.iret C hret rfl rfl dX6_doubleOf_61
  have j14 : ∀ (I : OI) (R : RI) (x1 : Int32) (y0 : Int32), VJ p l e rmX6_doubleOf s m args below meth c 3 G vwCl A (QR below G vwCl A args s rmX6_doubleOf.cells rmX6_doubleOf.slots (fun out : Int32 × OI × RI => some (.int out.1)) (fun out : Int32 × OI × RI => pf [mW cI cZ o ad out.2.1 out.2.2])) 0 0 (f_X6_doubleOf_j14 N  I R x1 y0) (pf [mW cI cZ o ad I R]) 14 [(0, .ref o), (1, .int x1)] [.int y0, .ref o] := by
    intro  I R x1 y0
    unfold f_X6_doubleOf_j14
    refine VJ.callV2 C [.int y0] (pf [mW cI cZ o ad I R]) ([]) (fun r2 I3 => some (.int r2)) (fun r2 I3 => pf [mW cI cZ o ad I3 R]) (fun r2 I3 => pf [mW cI cZ o ad I3 R]) (fun r2 I3 => [.int r2]) 0 0 (fun _ h9 => c_X6_refused l G cI cZ cQ cU cJ o ad I R y0 _ h9) (vj_p0 _) (fun _ _ => vj_p0' _) 0 rfl rfl (cwV 1 C.1.2.2.2.2 gX6_doubleOf_X6_refused rfl rfl rfl hyV_X6_refused ⟨Nat.le_of_ble_eq_true rfl, Nat.le_of_ble_eq_true rfl⟩) rfl rfl (fun _ _ => rfl) (Nat.le_of_ble_eq_true rfl) dX6_doubleOf_14 ⟨Nat.le_of_ble_eq_true rfl, Nat.le_of_ble_eq_true rfl⟩ ⟨rfl, rfl⟩ (fun r2 I3 => ?_)
    refine VJ.if_eq C 22 dX6_doubleOf_17 (by decide) (fun _ => ?_) (fun _ => ?_)
    · refine VJ.aload_n C 0 dX6_doubleOf_22 rfl ?_
      refine VJ.aload_n C 0 dX6_doubleOf_23 rfl ?_
      refine VJ.get (C0 := RX6) (T := TX6) (N := 38) (ci := 6) C in_X6_doubleOf_X6 0 rfl rfl 1 (Nat.le_of_ble_eq_true rfl) (C.1.2.2.2.2 _ (List.mem_of_getElem? (i := 1) rfl)) (fun _ h9 => h9) (v := .int (I3 1)) rfl dX6_doubleOf_24 ?_
      refine VJ.aload_n C 0 dX6_doubleOf_27 rfl ?_
      refine VJ.get (C0 := RX6) (T := TX6) (N := 38) (ci := 6) C in_X6_doubleOf_X6 0 rfl rfl 1 (Nat.le_of_ble_eq_true rfl) (C.1.2.2.2.2 _ (List.mem_of_getElem? (i := 1) rfl)) (fun _ h9 => h9) (v := .int (I3 1)) rfl dX6_doubleOf_28 ?_
      refine VJ.callV1 C [.int (I3 1), .int (I3 1)] (pf [mW cI cZ o ad I3 R]) ([]) (fun R4 => none) (fun R4 => pf [mW cI cZ o ad I3 R4]) (fun R4 => pf [mW cI cZ o ad I3 R4]) (fun R4 => []) 0 0 (fun _ h9 => c_X6_goThrough l G cI cZ cQ cU cJ N o ad I3 R (I3 1) (I3 1) _ h9) (vj_p0 _) (fun _ => vj_p0' _) 0 rfl rfl (cwV 2 C.1.2.2.2.2 gX6_doubleOf_X6_goThrough rfl rfl rfl hyV_X6_goThrough ⟨Nat.le_of_ble_eq_true rfl, Nat.le_of_ble_eq_true rfl⟩) rfl rfl (fun _ => rfl) (Nat.le_of_ble_eq_true rfl) dX6_doubleOf_31 ⟨Nat.le_of_ble_eq_true rfl, Nat.le_of_ble_eq_true rfl⟩ ⟨rfl, rfl⟩ (fun R4 => ?_)
      refine VJ.iconst (v := 0) C dX6_doubleOf_34 (by decide) ?_
      refine VJ.istore_n C [(2, .int 0), (0, .ref o), (1, .int x1)] dX6_doubleOf_35 (Nat.le_of_ble_eq_true rfl) rfl ?_
      refine VJ.sub [1, 2, 0] rfl ?_
      exact j36 N I3 R4 x1 0
    · refine VJ.iconst (v := 0) C dX6_doubleOf_20 (by decide) ?_
      exact VJ.iret C hret rfl rfl dX6_doubleOf_21
  unfold f_X6_doubleOf
  refine VJ.aload_n C 0 dX6_doubleOf_0 rfl ?_
  refine VJ.aload_n C 0 dX6_doubleOf_1 rfl ?_
  refine VJ.iload_n C 1 dX6_doubleOf_2 rfl ?_
  refine VJ.callV1 C [.int x1] (pf [mW cI cZ o ad I R]) ([]) (fun r1 => some (.int r1)) (fun r1 => pf [mW cI cZ o ad I R]) (fun r1 => pf [mW cI cZ o ad I R]) (fun r1 => [.int r1, .ref o]) 0 0 (fun _ h9 => c_X6_isPerson l G cI cZ cQ cU cJ o ad I R x1 _ h9) (vj_p0 _) (fun _ => vj_p0' _) 0 rfl rfl (cwV 1 C.1.2.2.2.2 gX6_doubleOf_X6_isPerson rfl rfl rfl hyV_X6_isPerson ⟨Nat.le_of_ble_eq_true rfl, Nat.le_of_ble_eq_true rfl⟩) rfl rfl (fun _ => rfl) (Nat.le_of_ble_eq_true rfl) dX6_doubleOf_3 ⟨Nat.le_of_ble_eq_true rfl, Nat.le_of_ble_eq_true rfl⟩ ⟨rfl, rfl⟩ (fun r1 => ?_)
  refine VJ.if_eq C 13 dX6_doubleOf_6 (by decide) (fun _ => ?_) (fun _ => ?_)
  · refine VJ.iconst (v := 1) C dX6_doubleOf_13 (by decide) ?_
    exact j14 I R x1 1
  · refine VJ.iconst (v := 0) C dX6_doubleOf_9 (by decide) ?_
    refine VJ.goto C 14 dX6_doubleOf_10 (by decide) ?_
    exact j14 I R x1 0

set_option maxHeartbeats 4000000 in
set_option maxRecDepth 100000 in
def f_X6_renumber_j27 (N : Nat) (I : OI) (R : RI) (x1 : Int32) (y0 : Int32) : Option (Int32 × OI × RI) :=
  ob2 (f_X6_refused R I y0) (fun r2 I3 => if r2 = 0 then (ob3 (f_X6_giveTo N I3 R x1) (fun r4 I5 R6 => some (r4, I5, R6))) else (some (0, I3, R)))
def f_X6_renumber (N : Nat) (I : OI) (R : RI) (x1 : Int32) : Option (Int32 × OI × RI) :=
  ob1 (f_X6_isPerson I R x1) (fun r1 => if r1 = 0 then (f_X6_renumber_j27 N I R x1 1) else (if (I 5) = 60 then (f_X6_renumber_j27 N I R x1 2) else (f_X6_renumber_j27 N I R x1 0)))
abbrev rmX6_renumber : Room := { frames := 2, cells := 0, slots := 0, locals := 43 }
theorem in_X6_renumber_X6 : ∀ w ∈ u_ws RX6 TX6 38, w ∈ wsX6_renumber := in_of 26 rfl
theorem hy_X6_renumber : yX6_renumber.cls ≠ "java/lang/invoke/MethodHandle" ∧ yX6_renumber.cls ≠ "java/lang/invoke/VarHandle" ∧ (parseMethodDescriptor yX6_renumber.desc).map (fun d => d.parameters.length) = some 1 := by decide +kernel
theorem hyV_X6_renumber : yX6_renumber.cls = RX6 ∧ yX6_renumber.cls ≠ "java/lang/invoke/MethodHandle" ∧ yX6_renumber.cls ≠ "java/lang/invoke/VarHandle" ∧ (parseMethodDescriptor yX6_renumber.desc).map (fun d => d.parameters.length) = some 1 := ⟨rfl, hy_X6_renumber⟩
set_option maxHeartbeats 8000000 in
set_option maxRecDepth 100000 in
theorem c_X6_renumber (l : Launch) (G : va_G) (cI cZ cQ cU cJ : ClassId) (N : Nat) (o : Nat) (ad : Nat → Nat) (I : OI) (R : RI) (x1 : Int32) (out : Int32 × OI × RI) (hf : f_X6_renumber N I R x1 = some out) : Con l yX6_renumber wsX6_renumber rmX6_renumber G vwCl (tys cI cZ cQ cU cJ) nws [.ref o, .int x1] (pf [mW cI cZ o ad I R]) (some (.int out.1)) (pf [mW cI cZ o ad out.2.1 out.2.2]) := by
  refine con_of (rv := fun out : Int32 × OI × RI => some (.int out.1)) (Wd := fun out : Int32 × OI × RI => pf [mW cI cZ o ad out.2.1 out.2.2]) (maxL := 2) (own := RX6) rfl (plainFor_of_name (by decide +kernel)) rfl (Nat.le_of_ble_eq_true rfl) ?_ hf
  intro p e s m args below meth c A C hret hname
  have j27 : ∀ (I : OI) (R : RI) (x1 : Int32) (y0 : Int32), VJ p l e rmX6_renumber s m args below meth c 2 G vwCl A (QR below G vwCl A args s rmX6_renumber.cells rmX6_renumber.slots (fun out : Int32 × OI × RI => some (.int out.1)) (fun out : Int32 × OI × RI => pf [mW cI cZ o ad out.2.1 out.2.2])) 0 0 (f_X6_renumber_j27 N  I R x1 y0) (pf [mW cI cZ o ad I R]) 27 [(0, .ref o), (1, .int x1)] [.int y0, .ref o] := by
    intro  I R x1 y0
    unfold f_X6_renumber_j27
    refine VJ.callV2 C [.int y0] (pf [mW cI cZ o ad I R]) ([]) (fun r2 I3 => some (.int r2)) (fun r2 I3 => pf [mW cI cZ o ad I3 R]) (fun r2 I3 => pf [mW cI cZ o ad I3 R]) (fun r2 I3 => [.int r2]) 0 0 (fun _ h9 => c_X6_refused l G cI cZ cQ cU cJ o ad I R y0 _ h9) (vj_p0 _) (fun _ _ => vj_p0' _) 0 rfl rfl (cwV 1 C.1.2.2.2.2 gX6_renumber_X6_refused rfl rfl rfl hyV_X6_refused ⟨Nat.le_of_ble_eq_true rfl, Nat.le_of_ble_eq_true rfl⟩) rfl rfl (fun _ _ => rfl) (Nat.le_of_ble_eq_true rfl) dX6_renumber_27 ⟨Nat.le_of_ble_eq_true rfl, Nat.le_of_ble_eq_true rfl⟩ ⟨rfl, rfl⟩ (fun r2 I3 => ?_)
    refine VJ.if_eq C 35 dX6_renumber_30 (by decide) (fun _ => ?_) (fun _ => ?_)
    · refine VJ.aload_n C 0 dX6_renumber_35 rfl ?_
      refine VJ.iload_n C 1 dX6_renumber_36 rfl ?_
      refine VJ.callV3 C [.int x1] (pf [mW cI cZ o ad I3 R]) ([]) (fun r4 I5 R6 => some (.int r4)) (fun r4 I5 R6 => pf [mW cI cZ o ad I5 R6]) (fun r4 I5 R6 => pf [mW cI cZ o ad I5 R6]) (fun r4 I5 R6 => [.int r4]) 0 0 (fun _ h9 => c_X6_giveTo l G cI cZ cQ cU cJ N o ad I3 R x1 _ h9) (vj_p0 _) (fun _ _ _ => vj_p0' _) 0 rfl rfl (cwV 1 C.1.2.2.2.2 gX6_renumber_X6_giveTo rfl rfl rfl hyV_X6_giveTo ⟨Nat.le_of_ble_eq_true rfl, Nat.le_of_ble_eq_true rfl⟩) rfl rfl (fun _ _ _ => rfl) (Nat.le_of_ble_eq_true rfl) dX6_renumber_37 ⟨Nat.le_of_ble_eq_true rfl, Nat.le_of_ble_eq_true rfl⟩ ⟨rfl, rfl⟩ (fun r4 I5 R6 => ?_)
      exact VJ.iret C hret rfl rfl dX6_renumber_40
    · refine VJ.iconst (v := 0) C dX6_renumber_33 (by decide) ?_
      exact VJ.iret C hret rfl rfl dX6_renumber_34
  unfold f_X6_renumber
  refine VJ.aload_n C 0 dX6_renumber_0 rfl ?_
  refine VJ.aload_n C 0 dX6_renumber_1 rfl ?_
  refine VJ.iload_n C 1 dX6_renumber_2 rfl ?_
  refine VJ.callV1 C [.int x1] (pf [mW cI cZ o ad I R]) ([]) (fun r1 => some (.int r1)) (fun r1 => pf [mW cI cZ o ad I R]) (fun r1 => pf [mW cI cZ o ad I R]) (fun r1 => [.int r1, .ref o]) 0 0 (fun _ h9 => c_X6_isPerson l G cI cZ cQ cU cJ o ad I R x1 _ h9) (vj_p0 _) (fun _ => vj_p0' _) 0 rfl rfl (cwV 1 C.1.2.2.2.2 gX6_renumber_X6_isPerson rfl rfl rfl hyV_X6_isPerson ⟨Nat.le_of_ble_eq_true rfl, Nat.le_of_ble_eq_true rfl⟩) rfl rfl (fun _ => rfl) (Nat.le_of_ble_eq_true rfl) dX6_renumber_3 ⟨Nat.le_of_ble_eq_true rfl, Nat.le_of_ble_eq_true rfl⟩ ⟨rfl, rfl⟩ (fun r1 => ?_)
  refine VJ.if_ne C 13 dX6_renumber_6 (by decide) (fun _ => ?_) (fun _ => ?_)
  · refine VJ.aload_n C 0 dX6_renumber_13 rfl ?_
    refine VJ.get (C0 := RX6) (T := TX6) (N := 38) (ci := 6) C in_X6_renumber_X6 0 rfl rfl 14 (Nat.le_of_ble_eq_true rfl) (C.1.2.2.2.2 _ (List.mem_of_getElem? (i := 1) rfl)) (fun _ h9 => h9) (v := .int (I 5)) rfl dX6_renumber_14 ?_
    refine VJ.bipush (v := 60) C dX6_renumber_17 (by decide) ?_
    refine VJ.icmp_ne C 26 dX6_renumber_19 (by decide) (fun _ => ?_) (fun _ => ?_)
    · refine VJ.iconst (v := 0) C dX6_renumber_26 (by decide) ?_
      exact j27 I R x1 0
    · refine VJ.iconst (v := 2) C dX6_renumber_22 (by decide) ?_
      refine VJ.goto C 27 dX6_renumber_23 (by decide) ?_
      exact j27 I R x1 2
  · refine VJ.iconst (v := 1) C dX6_renumber_9 (by decide) ?_
    refine VJ.goto C 27 dX6_renumber_10 (by decide) ?_
    exact j27 I R x1 1

set_option maxHeartbeats 4000000 in
set_option maxRecDepth 100000 in
def f_X6_number_l26b (N : Nat) (R : RI) (k26 : OI → Int32 → Int32 → Int32 → Option (Int32 × OI)) (I : OI) (x1 : Int32) (x2 : Int32) (x3 : Int32) : Option (Int32 × OI) :=
  if (I 5) ≤ x3 then (some (x2, I)) else (og x3 60 (if (R 10 x3.toNatClampNeg) = x1 then (og x3 60 (ol (R 9 x3.toNatClampNeg) (fun v5 => ol (x3 + Int32.ofInt 1) (fun v6 => k26 I x1 v5 v6)))) else (ol (x3 + Int32.ofInt 1) (fun v4 => k26 I x1 x2 v4))))
set_option maxHeartbeats 4000000 in
set_option maxRecDepth 100000 in
def f_X6_number_l26 (N : Nat) (R : RI) : Nat → OI → Int32 → Int32 → Int32 → Option (Int32 × OI)
  | 0 => fun _ _ _ _ => none
  | n9 + 1 => f_X6_number_l26b N R (f_X6_number_l26 N R n9)
set_option maxHeartbeats 4000000 in
set_option maxRecDepth 100000 in
def f_X6_number_j14 (N : Nat) (R : RI) (I : OI) (x1 : Int32) (y0 : Int32) : Option (Int32 × OI) :=
  ob2 (f_X6_refused R I y0) (fun r2 I3 => if r2 = 0 then (f_X6_number_l26 N R N I3 x1 0 0) else (some (0, I3)))
def f_X6_number (N : Nat) (R : RI) (I : OI) (x1 : Int32) : Option (Int32 × OI) :=
  ob1 (f_X6_isPerson I R x1) (fun r1 => if r1 = 0 then (f_X6_number_j14 N R I x1 1) else (f_X6_number_j14 N R I x1 0))
abbrev rmX6_number : Room := { frames := 2, cells := 0, slots := 0, locals := 43 }
theorem in_X6_number_X6 : ∀ w ∈ u_ws RX6 TX6 38, w ∈ wsX6_number := in_of 18 rfl
theorem hy_X6_number : yX6_number.cls ≠ "java/lang/invoke/MethodHandle" ∧ yX6_number.cls ≠ "java/lang/invoke/VarHandle" ∧ (parseMethodDescriptor yX6_number.desc).map (fun d => d.parameters.length) = some 1 := by decide +kernel
theorem hyV_X6_number : yX6_number.cls = RX6 ∧ yX6_number.cls ≠ "java/lang/invoke/MethodHandle" ∧ yX6_number.cls ≠ "java/lang/invoke/VarHandle" ∧ (parseMethodDescriptor yX6_number.desc).map (fun d => d.parameters.length) = some 1 := ⟨rfl, hy_X6_number⟩
set_option maxHeartbeats 8000000 in
set_option maxRecDepth 100000 in
theorem c_X6_number (l : Launch) (G : va_G) (cI cZ cQ cU cJ : ClassId) (N : Nat) (o : Nat) (ad : Nat → Nat) (I : OI) (R : RI) (x1 : Int32) (out : Int32 × OI) (hf : f_X6_number N R I x1 = some out) : Con l yX6_number wsX6_number rmX6_number G vwCl (tys cI cZ cQ cU cJ) nws [.ref o, .int x1] (pf [mW cI cZ o ad I R]) (some (.int out.1)) (pf [mW cI cZ o ad out.2 R]) := by
  refine con_of (rv := fun out : Int32 × OI => some (.int out.1)) (Wd := fun out : Int32 × OI => pf [mW cI cZ o ad out.2 R]) (maxL := 4) (own := RX6) rfl (plainFor_of_name (by decide +kernel)) rfl (Nat.le_of_ble_eq_true rfl) ?_ hf
  intro p e s m args below meth c A C hret hname
  have j26 : ∀ (n9 : Nat) (I : OI) (x1 : Int32) (x2 : Int32) (x3 : Int32), VJ p l e rmX6_number s m args below meth c 4 G vwCl A (QR below G vwCl A args s rmX6_number.cells rmX6_number.slots (fun out : Int32 × OI => some (.int out.1)) (fun out : Int32 × OI => pf [mW cI cZ o ad out.2 R])) 0 0 (f_X6_number_l26 N R  n9 I x1 x2 x3) (pf [mW cI cZ o ad I R]) 26 [(0, .ref o), (1, .int x1), (2, .int x2), (3, .int x3)] [] := by
    intro  n9
    induction n9 with
    | zero => intro I x1 x2 x3; exact VJ.fnone rfl
    | succ n9 i26 =>
      intro I x1 x2 x3
      refine VJ.eqf (f' := f_X6_number_l26b N R  (f_X6_number_l26 N R  n9) I x1 x2 x3) rfl ?_
      generalize f_X6_number_l26 N R  n9 = k26 at i26 ⊢
      unfold f_X6_number_l26b
      refine VJ.iload_n C 3 dX6_number_26 rfl ?_
      refine VJ.aload_n C 0 dX6_number_27 rfl ?_
      refine VJ.get (C0 := RX6) (T := TX6) (N := 38) (ci := 6) C in_X6_number_X6 0 rfl rfl 14 (Nat.le_of_ble_eq_true rfl) (C.1.2.2.2.2 _ (List.mem_of_getElem? (i := 1) rfl)) (fun _ h9 => h9) (v := .int (I 5)) rfl dX6_number_28 ?_
      refine VJ.icmp_ge C 61 dX6_number_31 (by decide) (fun _ => ?_) (fun _ => ?_)
      · refine VJ.iload_n C 2 dX6_number_61 rfl ?_
        exact VJ.iret C hret rfl rfl dX6_number_62
      · refine VJ.aload_n C 0 dX6_number_34 rfl ?_
        refine VJ.get (C0 := RX6) (T := TX6) (N := 38) (ci := 6) C in_X6_number_X6 0 rfl rfl 17 (Nat.le_of_ble_eq_true rfl) (C.1.2.2.2.2 _ (List.mem_of_getElem? (i := 2) rfl)) (fun _ h9 => h9) (v := .ref (ad 10)) rfl dX6_number_35 ?_
        refine VJ.iload_n C 3 dX6_number_38 rfl ?_
        refine VJ.iald C 11 0 rfl rfl dX6_number_39 ?_
        refine VJ.iload_n C 1 dX6_number_40 rfl ?_
        refine VJ.icmp_ne C 53 dX6_number_41 (by decide) (fun _ => ?_) (fun _ => ?_)
        · refine VJ.iload_n C 2 dX6_number_53 rfl ?_
          refine VJ.istore_n C [(2, .int x2), (0, .ref o), (1, .int x1), (3, .int x3)] dX6_number_54 (Nat.le_of_ble_eq_true rfl) rfl ?_
          refine VJ.iincN C 3 (fun v4 => [(3, .int v4), (2, .int x2), (0, .ref o), (1, .int x1)]) dX6_number_55 rfl (Nat.le_of_ble_eq_true rfl) (fun _ => rfl) (fun v4 => ?_)
          refine VJ.goto C 26 dX6_number_58 (by decide) ?_
          refine VJ.sub [2, 3, 1, 0] rfl ?_
          exact i26 I x1 x2 v4
        · refine VJ.aload_n C 0 dX6_number_44 rfl ?_
          refine VJ.get (C0 := RX6) (T := TX6) (N := 38) (ci := 6) C in_X6_number_X6 0 rfl rfl 16 (Nat.le_of_ble_eq_true rfl) (C.1.2.2.2.2 _ (List.mem_of_getElem? (i := 3) rfl)) (fun _ h9 => h9) (v := .ref (ad 9)) rfl dX6_number_45 ?_
          refine VJ.iload_n C 3 dX6_number_48 rfl ?_
          refine VJ.iald C 10 0 rfl rfl dX6_number_49 ?_
          refine VJ.goto C 54 dX6_number_50 (by decide) ?_
          refine VJ.topi C (fun v5 => ?_)
          refine VJ.istore_n C [(2, .int v5), (0, .ref o), (1, .int x1), (3, .int x3)] dX6_number_54 (Nat.le_of_ble_eq_true rfl) rfl ?_
          refine VJ.iincN C 3 (fun v6 => [(3, .int v6), (2, .int v5), (0, .ref o), (1, .int x1)]) dX6_number_55 rfl (Nat.le_of_ble_eq_true rfl) (fun _ => rfl) (fun v6 => ?_)
          refine VJ.goto C 26 dX6_number_58 (by decide) ?_
          refine VJ.sub [2, 3, 1, 0] rfl ?_
          exact i26 I x1 v5 v6
  have j14 : ∀ (I : OI) (x1 : Int32) (y0 : Int32), VJ p l e rmX6_number s m args below meth c 4 G vwCl A (QR below G vwCl A args s rmX6_number.cells rmX6_number.slots (fun out : Int32 × OI => some (.int out.1)) (fun out : Int32 × OI => pf [mW cI cZ o ad out.2 R])) 0 0 (f_X6_number_j14 N R  I x1 y0) (pf [mW cI cZ o ad I R]) 14 [(0, .ref o), (1, .int x1)] [.int y0, .ref o] := by
    intro  I x1 y0
    unfold f_X6_number_j14
    refine VJ.callV2 C [.int y0] (pf [mW cI cZ o ad I R]) ([]) (fun r2 I3 => some (.int r2)) (fun r2 I3 => pf [mW cI cZ o ad I3 R]) (fun r2 I3 => pf [mW cI cZ o ad I3 R]) (fun r2 I3 => [.int r2]) 0 0 (fun _ h9 => c_X6_refused l G cI cZ cQ cU cJ o ad I R y0 _ h9) (vj_p0 _) (fun _ _ => vj_p0' _) 0 rfl rfl (cwV 1 C.1.2.2.2.2 gX6_number_X6_refused rfl rfl rfl hyV_X6_refused ⟨Nat.le_of_ble_eq_true rfl, Nat.le_of_ble_eq_true rfl⟩) rfl rfl (fun _ _ => rfl) (Nat.le_of_ble_eq_true rfl) dX6_number_14 ⟨Nat.le_of_ble_eq_true rfl, Nat.le_of_ble_eq_true rfl⟩ ⟨rfl, rfl⟩ (fun r2 I3 => ?_)
    refine VJ.if_eq C 22 dX6_number_17 (by decide) (fun _ => ?_) (fun _ => ?_)
    · refine VJ.iconst (v := 0) C dX6_number_22 (by decide) ?_
      refine VJ.istore_n C [(2, .int 0), (0, .ref o), (1, .int x1)] dX6_number_23 (Nat.le_of_ble_eq_true rfl) rfl ?_
      refine VJ.iconst (v := 0) C dX6_number_24 (by decide) ?_
      refine VJ.istore_n C [(3, .int 0), (2, .int 0), (0, .ref o), (1, .int x1)] dX6_number_25 (Nat.le_of_ble_eq_true rfl) rfl ?_
      refine VJ.sub [2, 3, 1, 0] rfl ?_
      exact j26 N I3 x1 0 0
    · refine VJ.iconst (v := 0) C dX6_number_20 (by decide) ?_
      exact VJ.iret C hret rfl rfl dX6_number_21
  unfold f_X6_number
  refine VJ.aload_n C 0 dX6_number_0 rfl ?_
  refine VJ.aload_n C 0 dX6_number_1 rfl ?_
  refine VJ.iload_n C 1 dX6_number_2 rfl ?_
  refine VJ.callV1 C [.int x1] (pf [mW cI cZ o ad I R]) ([]) (fun r1 => some (.int r1)) (fun r1 => pf [mW cI cZ o ad I R]) (fun r1 => pf [mW cI cZ o ad I R]) (fun r1 => [.int r1, .ref o]) 0 0 (fun _ h9 => c_X6_isPerson l G cI cZ cQ cU cJ o ad I R x1 _ h9) (vj_p0 _) (fun _ => vj_p0' _) 0 rfl rfl (cwV 1 C.1.2.2.2.2 gX6_number_X6_isPerson rfl rfl rfl hyV_X6_isPerson ⟨Nat.le_of_ble_eq_true rfl, Nat.le_of_ble_eq_true rfl⟩) rfl rfl (fun _ => rfl) (Nat.le_of_ble_eq_true rfl) dX6_number_3 ⟨Nat.le_of_ble_eq_true rfl, Nat.le_of_ble_eq_true rfl⟩ ⟨rfl, rfl⟩ (fun r1 => ?_)
  refine VJ.if_eq C 13 dX6_number_6 (by decide) (fun _ => ?_) (fun _ => ?_)
  · refine VJ.iconst (v := 1) C dX6_number_13 (by decide) ?_
    exact j14 I x1 1
  · refine VJ.iconst (v := 0) C dX6_number_9 (by decide) ?_
    refine VJ.goto C 14 dX6_number_10 (by decide) ?_
    exact j14 I x1 0

set_option maxHeartbeats 4000000 in
set_option maxRecDepth 100000 in
def f_X6_bearer_l55b (N : Nat) (R : RI) (k55 : OI → Int32 → Int32 → Int32 → Option (Int32 × OI)) (I : OI) (x1 : Int32) (x3 : Int32) (x4 : Int32) : Option (Int32 × OI) :=
  if (I 5) ≤ x4 then (some (x3, I)) else (og x4 60 (if (R 9 x4.toNatClampNeg) = x1 then (og x4 60 (ol (R 10 x4.toNatClampNeg) (fun v5 => ol (x4 + Int32.ofInt 1) (fun v6 => k55 I x1 v5 v6)))) else (ol (x4 + Int32.ofInt 1) (fun v4 => k55 I x1 x3 v4))))
set_option maxHeartbeats 4000000 in
set_option maxRecDepth 100000 in
def f_X6_bearer_l55 (N : Nat) (R : RI) : Nat → OI → Int32 → Int32 → Int32 → Option (Int32 × OI)
  | 0 => fun _ _ _ _ => none
  | n9 + 1 => f_X6_bearer_l55b N R (f_X6_bearer_l55 N R n9)
set_option maxHeartbeats 4000000 in
set_option maxRecDepth 100000 in
def f_X6_bearer_j42 (N : Nat) (R : RI) (I : OI) (x1 : Int32) (y0 : Int32) : Option (Int32 × OI) :=
  ob2 (f_X6_refused R I y0) (fun r2 I3 => if r2 = 0 then (f_X6_bearer_l55 N R N I3 x1 (-1) 0) else (some (0, I3)))
set_option maxHeartbeats 4000000 in
set_option maxRecDepth 100000 in
def f_X6_bearer_j31 (N : Nat) (R : RI) (I : OI) (x1 : Int32) (y0 : Int32) : Option (Int32 × OI) :=
  if y0 = 0 then (f_X6_bearer_j42 N R I x1 1) else (f_X6_bearer_j42 N R I x1 0)
def f_X6_bearer (N : Nat) (R : RI) (I : OI) (x1 : Int32) : Option (Int32 × OI) :=
  ob1 (f_X6_within x1 10010 99999) (fun r1 => if r1 = 0 then (f_X6_bearer_j31 N R I x1 0) else (ob1 (f_X6_checkOf (x1 / 10)) (fun r7 => if r7 = (x1 - x1 / 10 * 10) then (f_X6_bearer_j31 N R I x1 1) else (f_X6_bearer_j31 N R I x1 0))))
abbrev rmX6_bearer : Room := { frames := 1, cells := 0, slots := 0, locals := 22 }
theorem in_X6_bearer_X6 : ∀ w ∈ u_ws RX6 TX6 38, w ∈ wsX6_bearer := in_of 17 rfl
theorem hy_X6_bearer : yX6_bearer.cls ≠ "java/lang/invoke/MethodHandle" ∧ yX6_bearer.cls ≠ "java/lang/invoke/VarHandle" ∧ (parseMethodDescriptor yX6_bearer.desc).map (fun d => d.parameters.length) = some 1 := by decide +kernel
theorem hyV_X6_bearer : yX6_bearer.cls = RX6 ∧ yX6_bearer.cls ≠ "java/lang/invoke/MethodHandle" ∧ yX6_bearer.cls ≠ "java/lang/invoke/VarHandle" ∧ (parseMethodDescriptor yX6_bearer.desc).map (fun d => d.parameters.length) = some 1 := ⟨rfl, hy_X6_bearer⟩
set_option maxHeartbeats 8000000 in
set_option maxRecDepth 100000 in
theorem c_X6_bearer (l : Launch) (G : va_G) (cI cZ cQ cU cJ : ClassId) (N : Nat) (o : Nat) (ad : Nat → Nat) (I : OI) (R : RI) (x1 : Int32) (out : Int32 × OI) (hf : f_X6_bearer N R I x1 = some out) : Con l yX6_bearer wsX6_bearer rmX6_bearer G vwCl (tys cI cZ cQ cU cJ) nws [.ref o, .int x1] (pf [mW cI cZ o ad I R]) (some (.int out.1)) (pf [mW cI cZ o ad out.2 R]) := by
  refine con_of (rv := fun out : Int32 × OI => some (.int out.1)) (Wd := fun out : Int32 × OI => pf [mW cI cZ o ad out.2 R]) (maxL := 5) (own := RX6) rfl (plainFor_of_name (by decide +kernel)) rfl (Nat.le_of_ble_eq_true rfl) ?_ hf
  intro p e s m args below meth c A C hret hname
  have j55 : ∀ (n9 : Nat) (I : OI) (x1 : Int32) (x3 : Int32) (x4 : Int32), VJ p l e rmX6_bearer s m args below meth c 5 G vwCl A (QR below G vwCl A args s rmX6_bearer.cells rmX6_bearer.slots (fun out : Int32 × OI => some (.int out.1)) (fun out : Int32 × OI => pf [mW cI cZ o ad out.2 R])) 0 0 (f_X6_bearer_l55 N R  n9 I x1 x3 x4) (pf [mW cI cZ o ad I R]) 55 [(0, .ref o), (1, .int x1), (3, .int x3), (4, .int x4)] [] := by
    intro  n9
    induction n9 with
    | zero => intro I x1 x3 x4; exact VJ.fnone rfl
    | succ n9 i55 =>
      intro I x1 x3 x4
      refine VJ.eqf (f' := f_X6_bearer_l55b N R  (f_X6_bearer_l55 N R  n9) I x1 x3 x4) rfl ?_
      generalize f_X6_bearer_l55 N R  n9 = k55 at i55 ⊢
      unfold f_X6_bearer_l55b
      refine VJ.iload C 3 dX6_bearer_55 rfl ?_
      refine VJ.aload_n C 0 dX6_bearer_57 rfl ?_
      refine VJ.get (C0 := RX6) (T := TX6) (N := 38) (ci := 6) C in_X6_bearer_X6 0 rfl rfl 14 (Nat.le_of_ble_eq_true rfl) (C.1.2.2.2.2 _ (List.mem_of_getElem? (i := 2) rfl)) (fun _ h9 => h9) (v := .int (I 5)) rfl dX6_bearer_58 ?_
      refine VJ.icmp_ge C 93 dX6_bearer_61 (by decide) (fun _ => ?_) (fun _ => ?_)
      · refine VJ.iload_n C 2 dX6_bearer_93 rfl ?_
        exact VJ.iret C hret rfl rfl dX6_bearer_94
      · refine VJ.aload_n C 0 dX6_bearer_64 rfl ?_
        refine VJ.get (C0 := RX6) (T := TX6) (N := 38) (ci := 6) C in_X6_bearer_X6 0 rfl rfl 16 (Nat.le_of_ble_eq_true rfl) (C.1.2.2.2.2 _ (List.mem_of_getElem? (i := 3) rfl)) (fun _ h9 => h9) (v := .ref (ad 9)) rfl dX6_bearer_65 ?_
        refine VJ.iload C 3 dX6_bearer_68 rfl ?_
        refine VJ.iald C 10 0 rfl rfl dX6_bearer_70 ?_
        refine VJ.iload_n C 1 dX6_bearer_71 rfl ?_
        refine VJ.icmp_ne C 85 dX6_bearer_72 (by decide) (fun _ => ?_) (fun _ => ?_)
        · refine VJ.iload_n C 2 dX6_bearer_85 rfl ?_
          refine VJ.istore_n C [(3, .int x3), (0, .ref o), (1, .int x1), (4, .int x4)] dX6_bearer_86 (Nat.le_of_ble_eq_true rfl) rfl ?_
          refine VJ.iincN C 3 (fun v4 => [(4, .int v4), (3, .int x3), (0, .ref o), (1, .int x1)]) dX6_bearer_87 rfl (Nat.le_of_ble_eq_true rfl) (fun _ => rfl) (fun v4 => ?_)
          refine VJ.goto C 55 dX6_bearer_90 (by decide) ?_
          refine VJ.sub [2, 3, 1, 0] rfl ?_
          exact i55 I x1 x3 v4
        · refine VJ.aload_n C 0 dX6_bearer_75 rfl ?_
          refine VJ.get (C0 := RX6) (T := TX6) (N := 38) (ci := 6) C in_X6_bearer_X6 0 rfl rfl 17 (Nat.le_of_ble_eq_true rfl) (C.1.2.2.2.2 _ (List.mem_of_getElem? (i := 4) rfl)) (fun _ h9 => h9) (v := .ref (ad 10)) rfl dX6_bearer_76 ?_
          refine VJ.iload C 3 dX6_bearer_79 rfl ?_
          refine VJ.iald C 11 0 rfl rfl dX6_bearer_81 ?_
          refine VJ.goto C 86 dX6_bearer_82 (by decide) ?_
          refine VJ.topi C (fun v5 => ?_)
          refine VJ.istore_n C [(3, .int v5), (0, .ref o), (1, .int x1), (4, .int x4)] dX6_bearer_86 (Nat.le_of_ble_eq_true rfl) rfl ?_
          refine VJ.iincN C 3 (fun v6 => [(4, .int v6), (3, .int v5), (0, .ref o), (1, .int x1)]) dX6_bearer_87 rfl (Nat.le_of_ble_eq_true rfl) (fun _ => rfl) (fun v6 => ?_)
          refine VJ.goto C 55 dX6_bearer_90 (by decide) ?_
          refine VJ.sub [2, 3, 1, 0] rfl ?_
          exact i55 I x1 v5 v6
  have j42 : ∀ (I : OI) (x1 : Int32) (y0 : Int32), VJ p l e rmX6_bearer s m args below meth c 5 G vwCl A (QR below G vwCl A args s rmX6_bearer.cells rmX6_bearer.slots (fun out : Int32 × OI => some (.int out.1)) (fun out : Int32 × OI => pf [mW cI cZ o ad out.2 R])) 0 0 (f_X6_bearer_j42 N R  I x1 y0) (pf [mW cI cZ o ad I R]) 42 [(0, .ref o), (1, .int x1)] [.int y0, .ref o] := by
    intro  I x1 y0
    unfold f_X6_bearer_j42
    refine VJ.callV2 C [.int y0] (pf [mW cI cZ o ad I R]) ([]) (fun r2 I3 => some (.int r2)) (fun r2 I3 => pf [mW cI cZ o ad I3 R]) (fun r2 I3 => pf [mW cI cZ o ad I3 R]) (fun r2 I3 => [.int r2]) 0 0 (fun _ h9 => c_X6_refused l G cI cZ cQ cU cJ o ad I R y0 _ h9) (vj_p0 _) (fun _ _ => vj_p0' _) 0 rfl rfl (cwV 1 C.1.2.2.2.2 gX6_bearer_X6_refused rfl rfl rfl hyV_X6_refused ⟨Nat.le_of_ble_eq_true rfl, Nat.le_of_ble_eq_true rfl⟩) rfl rfl (fun _ _ => rfl) (Nat.le_of_ble_eq_true rfl) dX6_bearer_42 ⟨Nat.le_of_ble_eq_true rfl, Nat.le_of_ble_eq_true rfl⟩ ⟨rfl, rfl⟩ (fun r2 I3 => ?_)
    refine VJ.if_eq C 50 dX6_bearer_45 (by decide) (fun _ => ?_) (fun _ => ?_)
    · refine VJ.iconst (v := (-1)) C dX6_bearer_50 (by decide) ?_
      refine VJ.istore_n C [(3, .int (-1)), (0, .ref o), (1, .int x1)] dX6_bearer_51 (Nat.le_of_ble_eq_true rfl) rfl ?_
      refine VJ.iconst (v := 0) C dX6_bearer_52 (by decide) ?_
      refine VJ.istore C [(4, .int 0), (3, .int (-1)), (0, .ref o), (1, .int x1)] dX6_bearer_53 (Nat.le_of_ble_eq_true rfl) rfl ?_
      refine VJ.sub [2, 3, 1, 0] rfl ?_
      exact j55 N I3 x1 (-1) 0
    · refine VJ.iconst (v := 0) C dX6_bearer_48 (by decide) ?_
      exact VJ.iret C hret rfl rfl dX6_bearer_49
  have j31 : ∀ (I : OI) (x1 : Int32) (y0 : Int32), VJ p l e rmX6_bearer s m args below meth c 5 G vwCl A (QR below G vwCl A args s rmX6_bearer.cells rmX6_bearer.slots (fun out : Int32 × OI => some (.int out.1)) (fun out : Int32 × OI => pf [mW cI cZ o ad out.2 R])) 0 0 (f_X6_bearer_j31 N R  I x1 y0) (pf [mW cI cZ o ad I R]) 31 [(0, .ref o), (1, .int x1)] [.int y0] := by
    intro  I x1 y0
    unfold f_X6_bearer_j31
    refine VJ.istore_n C [(2, .int y0), (0, .ref o), (1, .int x1)] dX6_bearer_31 (Nat.le_of_ble_eq_true rfl) rfl ?_
    refine VJ.aload_n C 1 dX6_bearer_32 rfl ?_
    refine VJ.iload_n C 0 dX6_bearer_33 rfl ?_
    refine VJ.if_eq C 41 dX6_bearer_34 (by decide) (fun _ => ?_) (fun _ => ?_)
    · refine VJ.iconst (v := 1) C dX6_bearer_41 (by decide) ?_
      refine VJ.sub [1, 2] rfl ?_
      exact j42 I x1 1
    · refine VJ.iconst (v := 0) C dX6_bearer_37 (by decide) ?_
      refine VJ.goto C 42 dX6_bearer_38 (by decide) ?_
      refine VJ.sub [1, 2] rfl ?_
      exact j42 I x1 0
  unfold f_X6_bearer
  refine VJ.iload_n C 1 dX6_bearer_0 rfl ?_
  refine VJ.sipush (v := 10010) C dX6_bearer_1 (by decide) ?_
  refine VJ.ldc (v := 99999) C (C.1.2.2.2.2 _ (List.mem_of_getElem? (i := 1) rfl)) dX6_bearer_4 ?_
  refine VJ.callS1 C [.int x1, .int 10010, .int 99999] (pf []) (pf [mW cI cZ o ad I R]) (fun r1 => some (.int r1)) (fun r1 => pf []) (fun r1 => pf [mW cI cZ o ad I R]) (fun r1 => [.int r1]) 0 0 (fun _ h9 => c_X6_within l G cI cZ cQ cU cJ x1 10010 99999 _ h9) (vj_pn _) (fun _ => vj_pn' _) (va_cwS 3 C.1.2.2.2.2 gX6_bearer_X6_within rfl rfl rfl hy_X6_within ⟨Nat.le_of_ble_eq_true rfl, Nat.le_of_ble_eq_true rfl⟩) rfl rfl (fun _ => rfl) (Nat.le_of_ble_eq_true rfl) dX6_bearer_6 ⟨Nat.le_of_ble_eq_true rfl, Nat.le_of_ble_eq_true rfl⟩ ⟨rfl, rfl⟩ (fun r1 => ?_)
  refine VJ.if_eq C 30 dX6_bearer_9 (by decide) (fun _ => ?_) (fun _ => ?_)
  · refine VJ.iconst (v := 0) C dX6_bearer_30 (by decide) ?_
    exact j31 I x1 0
  · refine VJ.iload_n C 1 dX6_bearer_12 rfl ?_
    refine VJ.bipush (v := 10) C dX6_bearer_13 (by decide) ?_
    refine VJ.idiv C dX6_bearer_15 (by decide) ?_
    refine VJ.callS1 C [.int (x1 / 10)] (pf []) (pf [mW cI cZ o ad I R]) (fun r7 => some (.int r7)) (fun r7 => pf []) (fun r7 => pf [mW cI cZ o ad I R]) (fun r7 => [.int r7]) 0 0 (fun _ h9 => c_X6_checkOf l G cI cZ cQ cU cJ (x1 / 10) _ h9) (vj_pn _) (fun _ => vj_pn' _) (va_cwS 1 C.1.2.2.2.2 gX6_bearer_X6_checkOf rfl rfl rfl hy_X6_checkOf ⟨Nat.le_of_ble_eq_true rfl, Nat.le_of_ble_eq_true rfl⟩) rfl rfl (fun _ => rfl) (Nat.le_of_ble_eq_true rfl) dX6_bearer_16 ⟨Nat.le_of_ble_eq_true rfl, Nat.le_of_ble_eq_true rfl⟩ ⟨rfl, rfl⟩ (fun r7 => ?_)
    refine VJ.iload_n C 1 dX6_bearer_19 rfl ?_
    refine VJ.bipush (v := 10) C dX6_bearer_20 (by decide) ?_
    refine VJ.irem C dX6_bearer_22 (by decide) ?_
    refine VJ.icmp_ne C 30 dX6_bearer_23 (by decide) (fun _ => ?_) (fun _ => ?_)
    · refine VJ.iconst (v := 0) C dX6_bearer_30 (by decide) ?_
      exact j31 I x1 0
    · refine VJ.iconst (v := 1) C dX6_bearer_26 (by decide) ?_
      refine VJ.goto C 31 dX6_bearer_27 (by decide) ?_
      exact j31 I x1 1

def f_X6_isRoll (I : OI) (R : RI) (x1 : Int32) : Option Int32 :=
  ob1 (f_X6_within x1 0 ((I 7) - 1)) (fun r1 => oz r1 (some r1))
abbrev rmX6_isRoll : Room := { frames := 1, cells := 0, slots := 0, locals := 22 }
theorem in_X6_isRoll_X6 : ∀ w ∈ u_ws RX6 TX6 38, w ∈ wsX6_isRoll := in_of 6 rfl
theorem hy_X6_isRoll : yX6_isRoll.cls ≠ "java/lang/invoke/MethodHandle" ∧ yX6_isRoll.cls ≠ "java/lang/invoke/VarHandle" ∧ (parseMethodDescriptor yX6_isRoll.desc).map (fun d => d.parameters.length) = some 1 := by decide +kernel
theorem hyV_X6_isRoll : yX6_isRoll.cls = RX6 ∧ yX6_isRoll.cls ≠ "java/lang/invoke/MethodHandle" ∧ yX6_isRoll.cls ≠ "java/lang/invoke/VarHandle" ∧ (parseMethodDescriptor yX6_isRoll.desc).map (fun d => d.parameters.length) = some 1 := ⟨rfl, hy_X6_isRoll⟩
set_option maxHeartbeats 8000000 in
set_option maxRecDepth 100000 in
theorem c_X6_isRoll (l : Launch) (G : va_G) (cI cZ cQ cU cJ : ClassId) (o : Nat) (ad : Nat → Nat) (I : OI) (R : RI) (x1 : Int32) (out : Int32) (hf : f_X6_isRoll I R x1 = some out) : Con l yX6_isRoll wsX6_isRoll rmX6_isRoll G vwCl (tys cI cZ cQ cU cJ) nws [.ref o, .int x1] (pf [mW cI cZ o ad I R]) (some (.int out)) (pf [mW cI cZ o ad I R]) := by
  refine con_of (rv := fun out : Int32 => some (.int out)) (Wd := fun out : Int32 => pf [mW cI cZ o ad I R]) (maxL := 2) (own := RX6) rfl (plainFor_of_name (by decide +kernel)) rfl (Nat.le_of_ble_eq_true rfl) ?_ hf
  intro p e s m args below meth c A C hret hname
  unfold f_X6_isRoll
  refine VJ.iload_n C 1 dX6_isRoll_0 rfl ?_
  refine VJ.iconst (v := 0) C dX6_isRoll_1 (by decide) ?_
  refine VJ.aload_n C 0 dX6_isRoll_2 rfl ?_
  refine VJ.get (C0 := RX6) (T := TX6) (N := 38) (ci := 6) C in_X6_isRoll_X6 0 rfl rfl 29 (Nat.le_of_ble_eq_true rfl) (C.1.2.2.2.2 _ (List.mem_of_getElem? (i := 1) rfl)) (fun _ h9 => h9) (v := .int (I 7)) rfl dX6_isRoll_3 ?_
  refine VJ.iconst (v := 1) C dX6_isRoll_6 (by decide) ?_
  refine VJ.isub C dX6_isRoll_7 ?_
  refine VJ.callS1 C [.int x1, .int 0, .int ((I 7) - 1)] (pf []) (pf [mW cI cZ o ad I R]) (fun r1 => some (.int r1)) (fun r1 => pf []) (fun r1 => pf [mW cI cZ o ad I R]) (fun r1 => [.int r1]) 0 0 (fun _ h9 => c_X6_within l G cI cZ cQ cU cJ x1 0 ((I 7) - 1) _ h9) (vj_pn _) (fun _ => vj_pn' _) (va_cwS 3 C.1.2.2.2.2 gX6_isRoll_X6_within rfl rfl rfl hy_X6_within ⟨Nat.le_of_ble_eq_true rfl, Nat.le_of_ble_eq_true rfl⟩) rfl rfl (fun _ => rfl) (Nat.le_of_ble_eq_true rfl) dX6_isRoll_8 ⟨Nat.le_of_ble_eq_true rfl, Nat.le_of_ble_eq_true rfl⟩ ⟨rfl, rfl⟩ (fun r1 => ?_)
  refine VJ.roz (fun h9 => ?_)
  exact VJ.zret C (vj_nz h9) hret rfl rfl dX6_isRoll_11

set_option maxHeartbeats 4000000 in
set_option maxRecDepth 100000 in
def f_X6_roll_j40 (I : OI) (R : RI) (x1 : Int32) (x2 : Int32) (y0 : Int32) : Option (Int32 × OI × RI) :=
  ob2 (f_X6_refused R I y0) (fun r3 I4 => if r3 = 0 then (og (I4 7) 5 (ol (va_up R 22 (upd (R 22) (I4 7).toNatClampNeg x1)) (fun R5 => og (I4 7) 5 (ol (va_up R5 23 (upd (R5 23) (I4 7).toNatClampNeg x2)) (fun R6 => ol (va_up I4 7 ((I4 7) + 1)) (fun I7 => some ((I7 7) - 1, I7, R6))))))) else (some (0, I4, R)))
def f_X6_roll (I : OI) (R : RI) (x1 : Int32) (x2 : Int32) : Option (Int32 × OI × RI) :=
  ob1 (f_X6_within x2 0 3) (fun r1 => if r1 = 0 then (f_X6_roll_j40 I R x1 x2 1) else (ob1 (f_X6_within x1 0 3) (fun r2 => if r2 = 0 then (f_X6_roll_j40 I R x1 x2 2) else (if (I 7) = 5 then (f_X6_roll_j40 I R x1 x2 3) else (f_X6_roll_j40 I R x1 x2 0)))))
abbrev rmX6_roll : Room := { frames := 1, cells := 0, slots := 0, locals := 22 }
theorem in_X6_roll_X6 : ∀ w ∈ u_ws RX6 TX6 38, w ∈ wsX6_roll := in_of 13 rfl
theorem hy_X6_roll : yX6_roll.cls ≠ "java/lang/invoke/MethodHandle" ∧ yX6_roll.cls ≠ "java/lang/invoke/VarHandle" ∧ (parseMethodDescriptor yX6_roll.desc).map (fun d => d.parameters.length) = some 2 := by decide +kernel
theorem hyV_X6_roll : yX6_roll.cls = RX6 ∧ yX6_roll.cls ≠ "java/lang/invoke/MethodHandle" ∧ yX6_roll.cls ≠ "java/lang/invoke/VarHandle" ∧ (parseMethodDescriptor yX6_roll.desc).map (fun d => d.parameters.length) = some 2 := ⟨rfl, hy_X6_roll⟩
set_option maxHeartbeats 8000000 in
set_option maxRecDepth 100000 in
theorem c_X6_roll (l : Launch) (G : va_G) (cI cZ cQ cU cJ : ClassId) (o : Nat) (ad : Nat → Nat) (I : OI) (R : RI) (x1 : Int32) (x2 : Int32) (out : Int32 × OI × RI) (hf : f_X6_roll I R x1 x2 = some out) : Con l yX6_roll wsX6_roll rmX6_roll G vwCl (tys cI cZ cQ cU cJ) nws [.ref o, .int x1, .int x2] (pf [mW cI cZ o ad I R]) (some (.int out.1)) (pf [mW cI cZ o ad out.2.1 out.2.2]) := by
  refine con_of (rv := fun out : Int32 × OI × RI => some (.int out.1)) (Wd := fun out : Int32 × OI × RI => pf [mW cI cZ o ad out.2.1 out.2.2]) (maxL := 3) (own := RX6) rfl (plainFor_of_name (by decide +kernel)) rfl (Nat.le_of_ble_eq_true rfl) ?_ hf
  intro p e s m args below meth c A C hret hname
  have j40 : ∀ (I : OI) (R : RI) (x1 : Int32) (x2 : Int32) (y0 : Int32), VJ p l e rmX6_roll s m args below meth c 3 G vwCl A (QR below G vwCl A args s rmX6_roll.cells rmX6_roll.slots (fun out : Int32 × OI × RI => some (.int out.1)) (fun out : Int32 × OI × RI => pf [mW cI cZ o ad out.2.1 out.2.2])) 0 0 (f_X6_roll_j40   I R x1 x2 y0) (pf [mW cI cZ o ad I R]) 40 [(0, .ref o), (1, .int x1), (2, .int x2)] [.int y0, .ref o] := by
    intro  I R x1 x2 y0
    unfold f_X6_roll_j40
    refine VJ.callV2 C [.int y0] (pf [mW cI cZ o ad I R]) ([]) (fun r3 I4 => some (.int r3)) (fun r3 I4 => pf [mW cI cZ o ad I4 R]) (fun r3 I4 => pf [mW cI cZ o ad I4 R]) (fun r3 I4 => [.int r3]) 0 0 (fun _ h9 => c_X6_refused l G cI cZ cQ cU cJ o ad I R y0 _ h9) (vj_p0 _) (fun _ _ => vj_p0' _) 0 rfl rfl (cwV 1 C.1.2.2.2.2 gX6_roll_X6_refused rfl rfl rfl hyV_X6_refused ⟨Nat.le_of_ble_eq_true rfl, Nat.le_of_ble_eq_true rfl⟩) rfl rfl (fun _ _ => rfl) (Nat.le_of_ble_eq_true rfl) dX6_roll_40 ⟨Nat.le_of_ble_eq_true rfl, Nat.le_of_ble_eq_true rfl⟩ ⟨rfl, rfl⟩ (fun r3 I4 => ?_)
    refine VJ.if_eq C 48 dX6_roll_43 (by decide) (fun _ => ?_) (fun _ => ?_)
    · refine VJ.aload_n C 0 dX6_roll_48 rfl ?_
      refine VJ.get (C0 := RX6) (T := TX6) (N := 38) (ci := 6) C in_X6_roll_X6 0 rfl rfl 30 (Nat.le_of_ble_eq_true rfl) (C.1.2.2.2.2 _ (List.mem_of_getElem? (i := 2) rfl)) (fun _ h9 => h9) (v := .ref (ad 22)) rfl dX6_roll_49 ?_
      refine VJ.aload_n C 0 dX6_roll_52 rfl ?_
      refine VJ.get (C0 := RX6) (T := TX6) (N := 38) (ci := 6) C in_X6_roll_X6 0 rfl rfl 29 (Nat.le_of_ble_eq_true rfl) (C.1.2.2.2.2 _ (List.mem_of_getElem? (i := 1) rfl)) (fun _ h9 => h9) (v := .int (I4 7)) rfl dX6_roll_53 ?_
      refine VJ.iload_n C 1 dX6_roll_56 rfl ?_
      refine VJ.iastR C 23 0 R 22 (fun R5 => pf [mW cI cZ o ad I4 R5]) rfl rfl (fun _ => rfl) dX6_roll_57 (fun R5 => ?_)
      refine VJ.aload_n C 0 dX6_roll_58 rfl ?_
      refine VJ.get (C0 := RX6) (T := TX6) (N := 38) (ci := 6) C in_X6_roll_X6 0 rfl rfl 31 (Nat.le_of_ble_eq_true rfl) (C.1.2.2.2.2 _ (List.mem_of_getElem? (i := 3) rfl)) (fun _ h9 => h9) (v := .ref (ad 23)) rfl dX6_roll_59 ?_
      refine VJ.aload_n C 0 dX6_roll_62 rfl ?_
      refine VJ.get (C0 := RX6) (T := TX6) (N := 38) (ci := 6) C in_X6_roll_X6 0 rfl rfl 29 (Nat.le_of_ble_eq_true rfl) (C.1.2.2.2.2 _ (List.mem_of_getElem? (i := 1) rfl)) (fun _ h9 => h9) (v := .int (I4 7)) rfl dX6_roll_63 ?_
      refine VJ.iload_n C 2 dX6_roll_66 rfl ?_
      refine VJ.iastR C 24 0 R5 23 (fun R6 => pf [mW cI cZ o ad I4 R6]) rfl rfl (fun _ => rfl) dX6_roll_67 (fun R6 => ?_)
      refine VJ.aload_n C 0 dX6_roll_68 rfl ?_
      refine VJ.dup C dX6_roll_69 rfl ?_
      refine VJ.get (C0 := RX6) (T := TX6) (N := 38) (ci := 6) C in_X6_roll_X6 0 rfl rfl 29 (Nat.le_of_ble_eq_true rfl) (C.1.2.2.2.2 _ (List.mem_of_getElem? (i := 1) rfl)) (fun _ h9 => h9) (v := .int (I4 7)) rfl dX6_roll_70 ?_
      refine VJ.iconst (v := 1) C dX6_roll_73 (by decide) ?_
      refine VJ.iadd C dX6_roll_74 ?_
      refine VJ.putI (C0 := RX6) (T := TX6) (N := 38) (ci := 6) C in_X6_roll_X6 0 rfl rfl 29 (Nat.le_of_ble_eq_true rfl) (C.1.2.2.2.2 _ (List.mem_of_getElem? (i := 1) rfl)) (fun _ h9 => h9) (Ii := I4) (jj := 7) (fun I7 => pf [mW cI cZ o ad I7 R6]) tyX6 tyX6_ok nmX6 rfl rfl (Nat.le_of_ble_eq_true rfl) (fun _ => rfl) dX6_roll_75 (fun I7 => ?_)
      refine VJ.aload_n C 0 dX6_roll_78 rfl ?_
      refine VJ.get (C0 := RX6) (T := TX6) (N := 38) (ci := 6) C in_X6_roll_X6 0 rfl rfl 29 (Nat.le_of_ble_eq_true rfl) (C.1.2.2.2.2 _ (List.mem_of_getElem? (i := 1) rfl)) (fun _ h9 => h9) (v := .int (I7 7)) rfl dX6_roll_79 ?_
      refine VJ.iconst (v := 1) C dX6_roll_82 (by decide) ?_
      refine VJ.isub C dX6_roll_83 ?_
      exact VJ.iret C hret rfl rfl dX6_roll_84
    · refine VJ.iconst (v := 0) C dX6_roll_46 (by decide) ?_
      exact VJ.iret C hret rfl rfl dX6_roll_47
  unfold f_X6_roll
  refine VJ.aload_n C 0 dX6_roll_0 rfl ?_
  refine VJ.iload_n C 2 dX6_roll_1 rfl ?_
  refine VJ.iconst (v := 0) C dX6_roll_2 (by decide) ?_
  refine VJ.iconst (v := 3) C dX6_roll_3 (by decide) ?_
  refine VJ.callS1 C [.int x2, .int 0, .int 3] (pf []) (pf [mW cI cZ o ad I R]) (fun r1 => some (.int r1)) (fun r1 => pf []) (fun r1 => pf [mW cI cZ o ad I R]) (fun r1 => [.int r1, .ref o]) 0 0 (fun _ h9 => c_X6_within l G cI cZ cQ cU cJ x2 0 3 _ h9) (vj_pn _) (fun _ => vj_pn' _) (va_cwS 3 C.1.2.2.2.2 gX6_roll_X6_within rfl rfl rfl hy_X6_within ⟨Nat.le_of_ble_eq_true rfl, Nat.le_of_ble_eq_true rfl⟩) rfl rfl (fun _ => rfl) (Nat.le_of_ble_eq_true rfl) dX6_roll_4 ⟨Nat.le_of_ble_eq_true rfl, Nat.le_of_ble_eq_true rfl⟩ ⟨rfl, rfl⟩ (fun r1 => ?_)
  refine VJ.if_ne C 14 dX6_roll_7 (by decide) (fun _ => ?_) (fun _ => ?_)
  · refine VJ.iload_n C 1 dX6_roll_14 rfl ?_
    refine VJ.iconst (v := 0) C dX6_roll_15 (by decide) ?_
    refine VJ.iconst (v := 3) C dX6_roll_16 (by decide) ?_
    refine VJ.callS1 C [.int x1, .int 0, .int 3] (pf []) (pf [mW cI cZ o ad I R]) (fun r2 => some (.int r2)) (fun r2 => pf []) (fun r2 => pf [mW cI cZ o ad I R]) (fun r2 => [.int r2, .ref o]) 0 0 (fun _ h9 => c_X6_within l G cI cZ cQ cU cJ x1 0 3 _ h9) (vj_pn _) (fun _ => vj_pn' _) (va_cwS 3 C.1.2.2.2.2 gX6_roll_X6_within rfl rfl rfl hy_X6_within ⟨Nat.le_of_ble_eq_true rfl, Nat.le_of_ble_eq_true rfl⟩) rfl rfl (fun _ => rfl) (Nat.le_of_ble_eq_true rfl) dX6_roll_17 ⟨Nat.le_of_ble_eq_true rfl, Nat.le_of_ble_eq_true rfl⟩ ⟨rfl, rfl⟩ (fun r2 => ?_)
    refine VJ.if_ne C 27 dX6_roll_20 (by decide) (fun _ => ?_) (fun _ => ?_)
    · refine VJ.aload_n C 0 dX6_roll_27 rfl ?_
      refine VJ.get (C0 := RX6) (T := TX6) (N := 38) (ci := 6) C in_X6_roll_X6 0 rfl rfl 29 (Nat.le_of_ble_eq_true rfl) (C.1.2.2.2.2 _ (List.mem_of_getElem? (i := 1) rfl)) (fun _ h9 => h9) (v := .int (I 7)) rfl dX6_roll_28 ?_
      refine VJ.iconst (v := 5) C dX6_roll_31 (by decide) ?_
      refine VJ.icmp_ne C 39 dX6_roll_32 (by decide) (fun _ => ?_) (fun _ => ?_)
      · refine VJ.iconst (v := 0) C dX6_roll_39 (by decide) ?_
        exact j40 I R x1 x2 0
      · refine VJ.iconst (v := 3) C dX6_roll_35 (by decide) ?_
        refine VJ.goto C 40 dX6_roll_36 (by decide) ?_
        exact j40 I R x1 x2 3
    · refine VJ.iconst (v := 2) C dX6_roll_23 (by decide) ?_
      refine VJ.goto C 40 dX6_roll_24 (by decide) ?_
      exact j40 I R x1 x2 2
  · refine VJ.iconst (v := 1) C dX6_roll_10 (by decide) ?_
    refine VJ.goto C 40 dX6_roll_11 (by decide) ?_
    exact j40 I R x1 x2 1

def f_X6_belongs (I : OI) (R : RI) (x1 : Int32) (x2 : Int32) : Option Int32 :=
  ob1 (f_X6_ageOf I R x2 (I 1)) (fun r1 => if r1 = (-1) then (some 0) else (og x1 5 (ol (R 22 x1.toNatClampNeg) (fun v2 => if v2 = 1 then (if r1 < 18 then (some 0) else (some 1)) else (if v2 = 2 then (ob1 (f_X6_within r1 6 15) (fun r3 => oz r3 (some r3))) else (if v2 = 3 then (og x2 24 (og x1 5 (if ((R 13 x2.toNatClampNeg) / 4) = (R 23 x1.toNatClampNeg) then (some 1) else (some 0)))) else (some 1)))))))
abbrev rmX6_belongs : Room := { frames := 1, cells := 0, slots := 0, locals := 22 }
theorem in_X6_belongs_X6 : ∀ w ∈ u_ws RX6 TX6 38, w ∈ wsX6_belongs := in_of 15 rfl
theorem hy_X6_belongs : yX6_belongs.cls ≠ "java/lang/invoke/MethodHandle" ∧ yX6_belongs.cls ≠ "java/lang/invoke/VarHandle" ∧ (parseMethodDescriptor yX6_belongs.desc).map (fun d => d.parameters.length) = some 2 := by decide +kernel
theorem hyV_X6_belongs : yX6_belongs.cls = RX6 ∧ yX6_belongs.cls ≠ "java/lang/invoke/MethodHandle" ∧ yX6_belongs.cls ≠ "java/lang/invoke/VarHandle" ∧ (parseMethodDescriptor yX6_belongs.desc).map (fun d => d.parameters.length) = some 2 := ⟨rfl, hy_X6_belongs⟩
set_option maxHeartbeats 8000000 in
set_option maxRecDepth 100000 in
theorem c_X6_belongs (l : Launch) (G : va_G) (cI cZ cQ cU cJ : ClassId) (o : Nat) (ad : Nat → Nat) (I : OI) (R : RI) (x1 : Int32) (x2 : Int32) (out : Int32) (hf : f_X6_belongs I R x1 x2 = some out) : Con l yX6_belongs wsX6_belongs rmX6_belongs G vwCl (tys cI cZ cQ cU cJ) nws [.ref o, .int x1, .int x2] (pf [mW cI cZ o ad I R]) (some (.int out)) (pf [mW cI cZ o ad I R]) := by
  refine con_of (rv := fun out : Int32 => some (.int out)) (Wd := fun out : Int32 => pf [mW cI cZ o ad I R]) (maxL := 5) (own := RX6) rfl (plainFor_of_name (by decide +kernel)) rfl (Nat.le_of_ble_eq_true rfl) ?_ hf
  intro p e s m args below meth c A C hret hname
  unfold f_X6_belongs
  refine VJ.aload_n C 0 dX6_belongs_0 rfl ?_
  refine VJ.iload_n C 2 dX6_belongs_1 rfl ?_
  refine VJ.aload_n C 0 dX6_belongs_2 rfl ?_
  refine VJ.get (C0 := RX6) (T := TX6) (N := 38) (ci := 6) C in_X6_belongs_X6 0 rfl rfl 1 (Nat.le_of_ble_eq_true rfl) (C.1.2.2.2.2 _ (List.mem_of_getElem? (i := 1) rfl)) (fun _ h9 => h9) (v := .int (I 1)) rfl dX6_belongs_3 ?_
  refine VJ.callV1 C [.int x2, .int (I 1)] (pf [mW cI cZ o ad I R]) ([]) (fun r1 => some (.int r1)) (fun r1 => pf [mW cI cZ o ad I R]) (fun r1 => pf [mW cI cZ o ad I R]) (fun r1 => [.int r1]) 0 0 (fun _ h9 => c_X6_ageOf l G cI cZ cQ cU cJ o ad I R x2 (I 1) _ h9) (vj_p0 _) (fun _ => vj_p0' _) 0 rfl rfl (cwV 2 C.1.2.2.2.2 gX6_belongs_X6_ageOf rfl rfl rfl hyV_X6_ageOf ⟨Nat.le_of_ble_eq_true rfl, Nat.le_of_ble_eq_true rfl⟩) rfl rfl (fun _ => rfl) (Nat.le_of_ble_eq_true rfl) dX6_belongs_6 ⟨Nat.le_of_ble_eq_true rfl, Nat.le_of_ble_eq_true rfl⟩ ⟨rfl, rfl⟩ (fun r1 => ?_)
  refine VJ.istore_n C [(3, .int r1), (0, .ref o), (1, .int x1), (2, .int x2)] dX6_belongs_9 (Nat.le_of_ble_eq_true rfl) rfl ?_
  refine VJ.iload_n C 0 dX6_belongs_10 rfl ?_
  refine VJ.iconst (v := (-1)) C dX6_belongs_11 (by decide) ?_
  refine VJ.icmp_ne C 17 dX6_belongs_12 (by decide) (fun _ => ?_) (fun _ => ?_)
  · refine VJ.aload_n C 1 dX6_belongs_17 rfl ?_
    refine VJ.get (C0 := RX6) (T := TX6) (N := 38) (ci := 6) C in_X6_belongs_X6 0 rfl rfl 30 (Nat.le_of_ble_eq_true rfl) (C.1.2.2.2.2 _ (List.mem_of_getElem? (i := 2) rfl)) (fun _ h9 => h9) (v := .ref (ad 22)) rfl dX6_belongs_18 ?_
    refine VJ.iload_n C 2 dX6_belongs_21 rfl ?_
    refine VJ.iald C 23 0 rfl rfl dX6_belongs_22 ?_
    refine VJ.topi C (fun v2 => ?_)
    refine VJ.istore C [(4, .int v2), (3, .int r1), (0, .ref o), (1, .int x1), (2, .int x2)] dX6_belongs_23 (Nat.le_of_ble_eq_true rfl) rfl ?_
    refine VJ.iload C 0 dX6_belongs_25 rfl ?_
    refine VJ.iconst (v := 1) C dX6_belongs_27 (by decide) ?_
    refine VJ.icmp_ne C 45 dX6_belongs_28 (by decide) (fun _ => ?_) (fun _ => ?_)
    · refine VJ.iload C 0 dX6_belongs_45 rfl ?_
      refine VJ.iconst (v := 2) C dX6_belongs_47 (by decide) ?_
      refine VJ.icmp_ne C 62 dX6_belongs_48 (by decide) (fun _ => ?_) (fun _ => ?_)
      · refine VJ.iload C 0 dX6_belongs_62 rfl ?_
        refine VJ.iconst (v := 3) C dX6_belongs_64 (by decide) ?_
        refine VJ.icmp_ne C 85 dX6_belongs_65 (by decide) (fun _ => ?_) (fun _ => ?_)
        · refine VJ.iconst (v := 1) C dX6_belongs_85 (by decide) ?_
          refine VJ.goto C 90 dX6_belongs_86 (by decide) ?_
          exact VJ.zret C rfl hret rfl rfl dX6_belongs_90
        · refine VJ.aload_n C 2 dX6_belongs_68 rfl ?_
          refine VJ.get (C0 := RX6) (T := TX6) (N := 38) (ci := 6) C in_X6_belongs_X6 0 rfl rfl 20 (Nat.le_of_ble_eq_true rfl) (C.1.2.2.2.2 _ (List.mem_of_getElem? (i := 3) rfl)) (fun _ h9 => h9) (v := .ref (ad 13)) rfl dX6_belongs_69 ?_
          refine VJ.iload_n C 4 dX6_belongs_72 rfl ?_
          refine VJ.iald C 14 0 rfl rfl dX6_belongs_73 ?_
          refine VJ.iconst (v := 4) C dX6_belongs_74 (by decide) ?_
          refine VJ.idiv C dX6_belongs_75 (by decide) ?_
          refine VJ.aload_n C 2 dX6_belongs_76 rfl ?_
          refine VJ.get (C0 := RX6) (T := TX6) (N := 38) (ci := 6) C in_X6_belongs_X6 0 rfl rfl 31 (Nat.le_of_ble_eq_true rfl) (C.1.2.2.2.2 _ (List.mem_of_getElem? (i := 4) rfl)) (fun _ h9 => h9) (v := .ref (ad 23)) rfl dX6_belongs_77 ?_
          refine VJ.iload_n C 3 dX6_belongs_80 rfl ?_
          refine VJ.iald C 24 0 rfl rfl dX6_belongs_81 ?_
          refine VJ.icmp_ne C 89 dX6_belongs_82 (by decide) (fun _ => ?_) (fun _ => ?_)
          · refine VJ.iconst (v := 0) C dX6_belongs_89 (by decide) ?_
            exact VJ.zret C rfl hret rfl rfl dX6_belongs_90
          · refine VJ.iconst (v := 1) C dX6_belongs_85 (by decide) ?_
            refine VJ.goto C 90 dX6_belongs_86 (by decide) ?_
            exact VJ.zret C rfl hret rfl rfl dX6_belongs_90
      · refine VJ.iload_n C 1 dX6_belongs_51 rfl ?_
        refine VJ.bipush (v := 6) C dX6_belongs_52 (by decide) ?_
        refine VJ.bipush (v := 15) C dX6_belongs_54 (by decide) ?_
        refine VJ.callS1 C [.int r1, .int 6, .int 15] (pf []) (pf [mW cI cZ o ad I R]) (fun r3 => some (.int r3)) (fun r3 => pf []) (fun r3 => pf [mW cI cZ o ad I R]) (fun r3 => [.int r3]) 0 0 (fun _ h9 => c_X6_within l G cI cZ cQ cU cJ r1 6 15 _ h9) (vj_pn _) (fun _ => vj_pn' _) (va_cwS 3 C.1.2.2.2.2 gX6_belongs_X6_within rfl rfl rfl hy_X6_within ⟨Nat.le_of_ble_eq_true rfl, Nat.le_of_ble_eq_true rfl⟩) rfl rfl (fun _ => rfl) (Nat.le_of_ble_eq_true rfl) dX6_belongs_56 ⟨Nat.le_of_ble_eq_true rfl, Nat.le_of_ble_eq_true rfl⟩ ⟨rfl, rfl⟩ (fun r3 => ?_)
        refine VJ.goto C 90 dX6_belongs_59 (by decide) ?_
        refine VJ.roz (fun h9 => ?_)
        exact VJ.zret C (vj_nz h9) hret rfl rfl dX6_belongs_90
    · refine VJ.iload_n C 1 dX6_belongs_31 rfl ?_
      refine VJ.bipush (v := 18) C dX6_belongs_32 (by decide) ?_
      refine VJ.icmp_lt C 41 dX6_belongs_34 (by decide) (fun _ => ?_) (fun _ => ?_)
      · refine VJ.iconst (v := 0) C dX6_belongs_41 (by decide) ?_
        refine VJ.goto C 90 dX6_belongs_42 (by decide) ?_
        exact VJ.zret C rfl hret rfl rfl dX6_belongs_90
      · refine VJ.iconst (v := 1) C dX6_belongs_37 (by decide) ?_
        refine VJ.goto C 90 dX6_belongs_38 (by decide) ?_
        exact VJ.zret C rfl hret rfl rfl dX6_belongs_90
  · refine VJ.iconst (v := 0) C dX6_belongs_15 (by decide) ?_
    exact VJ.zret C rfl hret rfl rfl dX6_belongs_16

def f_X6_tidings (I : OI) (R : RI) (x1 : Int32) (x2 : Int32) : Option Int32 :=
  og ((24 * x1) + x2) 120 (ol (R 24 ((24 * x1) + x2).toNatClampNeg) (fun v1 => ob1 (f_X6_belongs I R x1 x2) (fun r2 => if r2 = 0 then (if v1 = (-1) then (some 0) else (some ((1000 * x2) + 2))) else (og x2 24 (if v1 = (R 13 x2.toNatClampNeg) then (some 0) else (og x2 24 (if v1 = (-1) then (some (((1000 * x2) + (10 * (R 13 x2.toNatClampNeg))) + 1)) else (some (((1000 * x2) + (10 * (R 13 x2.toNatClampNeg))) + 3)))))))))
abbrev rmX6_tidings : Room := { frames := 2, cells := 0, slots := 0, locals := 46 }
theorem in_X6_tidings_X6 : ∀ w ∈ u_ws RX6 TX6 38, w ∈ wsX6_tidings := in_of 20 rfl
theorem hy_X6_tidings : yX6_tidings.cls ≠ "java/lang/invoke/MethodHandle" ∧ yX6_tidings.cls ≠ "java/lang/invoke/VarHandle" ∧ (parseMethodDescriptor yX6_tidings.desc).map (fun d => d.parameters.length) = some 2 := by decide +kernel
theorem hyV_X6_tidings : yX6_tidings.cls = RX6 ∧ yX6_tidings.cls ≠ "java/lang/invoke/MethodHandle" ∧ yX6_tidings.cls ≠ "java/lang/invoke/VarHandle" ∧ (parseMethodDescriptor yX6_tidings.desc).map (fun d => d.parameters.length) = some 2 := ⟨rfl, hy_X6_tidings⟩
set_option maxHeartbeats 8000000 in
set_option maxRecDepth 100000 in
theorem c_X6_tidings (l : Launch) (G : va_G) (cI cZ cQ cU cJ : ClassId) (o : Nat) (ad : Nat → Nat) (I : OI) (R : RI) (x1 : Int32) (x2 : Int32) (out : Int32) (hf : f_X6_tidings I R x1 x2 = some out) : Con l yX6_tidings wsX6_tidings rmX6_tidings G vwCl (tys cI cZ cQ cU cJ) nws [.ref o, .int x1, .int x2] (pf [mW cI cZ o ad I R]) (some (.int out)) (pf [mW cI cZ o ad I R]) := by
  refine con_of (rv := fun out : Int32 => some (.int out)) (Wd := fun out : Int32 => pf [mW cI cZ o ad I R]) (maxL := 4) (own := RX6) rfl (plainFor_of_name (by decide +kernel)) rfl (Nat.le_of_ble_eq_true rfl) ?_ hf
  intro p e s m args below meth c A C hret hname
  unfold f_X6_tidings
  refine VJ.aload_n C 0 dX6_tidings_0 rfl ?_
  refine VJ.get (C0 := RX6) (T := TX6) (N := 38) (ci := 6) C in_X6_tidings_X6 0 rfl rfl 32 (Nat.le_of_ble_eq_true rfl) (C.1.2.2.2.2 _ (List.mem_of_getElem? (i := 1) rfl)) (fun _ h9 => h9) (v := .ref (ad 24)) rfl dX6_tidings_1 ?_
  refine VJ.bipush (v := 24) C dX6_tidings_4 (by decide) ?_
  refine VJ.iload_n C 1 dX6_tidings_6 rfl ?_
  refine VJ.imul C dX6_tidings_7 ?_
  refine VJ.iload_n C 2 dX6_tidings_8 rfl ?_
  refine VJ.iadd C dX6_tidings_9 ?_
  refine VJ.iald C 25 0 rfl rfl dX6_tidings_10 ?_
  refine VJ.topi C (fun v1 => ?_)
  refine VJ.istore_n C [(3, .int v1), (0, .ref o), (1, .int x1), (2, .int x2)] dX6_tidings_11 (Nat.le_of_ble_eq_true rfl) rfl ?_
  refine VJ.aload_n C 1 dX6_tidings_12 rfl ?_
  refine VJ.iload_n C 2 dX6_tidings_13 rfl ?_
  refine VJ.iload_n C 3 dX6_tidings_14 rfl ?_
  refine VJ.callV1 C [.int x1, .int x2] (pf [mW cI cZ o ad I R]) ([]) (fun r2 => some (.int r2)) (fun r2 => pf [mW cI cZ o ad I R]) (fun r2 => pf [mW cI cZ o ad I R]) (fun r2 => [.int r2]) 0 0 (fun _ h9 => c_X6_belongs l G cI cZ cQ cU cJ o ad I R x1 x2 _ h9) (vj_p0 _) (fun _ => vj_p0' _) 0 rfl rfl (cwV 2 C.1.2.2.2.2 gX6_tidings_X6_belongs rfl rfl rfl hyV_X6_belongs ⟨Nat.le_of_ble_eq_true rfl, Nat.le_of_ble_eq_true rfl⟩) rfl rfl (fun _ => rfl) (Nat.le_of_ble_eq_true rfl) dX6_tidings_15 ⟨Nat.le_of_ble_eq_true rfl, Nat.le_of_ble_eq_true rfl⟩ ⟨rfl, rfl⟩ (fun r2 => ?_)
  refine VJ.if_ne C 38 dX6_tidings_18 (by decide) (fun _ => ?_) (fun _ => ?_)
  · refine VJ.iload_n C 0 dX6_tidings_38 rfl ?_
    refine VJ.aload_n C 1 dX6_tidings_39 rfl ?_
    refine VJ.get (C0 := RX6) (T := TX6) (N := 38) (ci := 6) C in_X6_tidings_X6 0 rfl rfl 20 (Nat.le_of_ble_eq_true rfl) (C.1.2.2.2.2 _ (List.mem_of_getElem? (i := 2) rfl)) (fun _ h9 => h9) (v := .ref (ad 13)) rfl dX6_tidings_40 ?_
    refine VJ.iload_n C 3 dX6_tidings_43 rfl ?_
    refine VJ.iald C 14 0 rfl rfl dX6_tidings_44 ?_
    refine VJ.icmp_ne C 52 dX6_tidings_45 (by decide) (fun _ => ?_) (fun _ => ?_)
    · refine VJ.sipush (v := 1000) C dX6_tidings_52 (by decide) ?_
      refine VJ.iload_n C 3 dX6_tidings_55 rfl ?_
      refine VJ.imul C dX6_tidings_56 ?_
      refine VJ.bipush (v := 10) C dX6_tidings_57 (by decide) ?_
      refine VJ.aload_n C 1 dX6_tidings_59 rfl ?_
      refine VJ.get (C0 := RX6) (T := TX6) (N := 38) (ci := 6) C in_X6_tidings_X6 0 rfl rfl 20 (Nat.le_of_ble_eq_true rfl) (C.1.2.2.2.2 _ (List.mem_of_getElem? (i := 2) rfl)) (fun _ h9 => h9) (v := .ref (ad 13)) rfl dX6_tidings_60 ?_
      refine VJ.iload_n C 3 dX6_tidings_63 rfl ?_
      refine VJ.iald C 14 0 rfl rfl dX6_tidings_64 ?_
      refine VJ.imul C dX6_tidings_65 ?_
      refine VJ.iadd C dX6_tidings_66 ?_
      refine VJ.iload_n C 0 dX6_tidings_67 rfl ?_
      refine VJ.iconst (v := (-1)) C dX6_tidings_68 (by decide) ?_
      refine VJ.icmp_ne C 76 dX6_tidings_69 (by decide) (fun _ => ?_) (fun _ => ?_)
      · refine VJ.iconst (v := 3) C dX6_tidings_76 (by decide) ?_
        refine VJ.iadd C dX6_tidings_77 ?_
        exact VJ.iret C hret rfl rfl dX6_tidings_78
      · refine VJ.iconst (v := 1) C dX6_tidings_72 (by decide) ?_
        refine VJ.goto C 77 dX6_tidings_73 (by decide) ?_
        refine VJ.iadd C dX6_tidings_77 ?_
        exact VJ.iret C hret rfl rfl dX6_tidings_78
    · refine VJ.iconst (v := 0) C dX6_tidings_48 (by decide) ?_
      refine VJ.goto C 78 dX6_tidings_49 (by decide) ?_
      exact VJ.iret C hret rfl rfl dX6_tidings_78
  · refine VJ.iload_n C 0 dX6_tidings_21 rfl ?_
    refine VJ.iconst (v := (-1)) C dX6_tidings_22 (by decide) ?_
    refine VJ.icmp_ne C 30 dX6_tidings_23 (by decide) (fun _ => ?_) (fun _ => ?_)
    · refine VJ.sipush (v := 1000) C dX6_tidings_30 (by decide) ?_
      refine VJ.iload_n C 3 dX6_tidings_33 rfl ?_
      refine VJ.imul C dX6_tidings_34 ?_
      refine VJ.iconst (v := 2) C dX6_tidings_35 (by decide) ?_
      refine VJ.iadd C dX6_tidings_36 ?_
      exact VJ.iret C hret rfl rfl dX6_tidings_37
    · refine VJ.iconst (v := 0) C dX6_tidings_26 (by decide) ?_
      refine VJ.goto C 37 dX6_tidings_27 (by decide) ?_
      exact VJ.iret C hret rfl rfl dX6_tidings_37

