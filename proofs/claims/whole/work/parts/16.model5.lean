

set_option maxHeartbeats 4000000 in
set_option maxRecDepth 100000 in
def f_X6_send_j119 (N : Nat) (k17 : OI → RI → Int32 → Int32 → Int32 → Int32 → Option (Int32 × OI × RI)) (I : OI) (R : RI) (x1 : Int32) (x2 : Int32) (x3 : Int32) (x4 : Int32) (y0 : Int32) (y1 : Int32) : Option (Int32 × OI × RI) :=
  og y1 120 (ol (va_up R 24 (upd (R 24) y1.toNatClampNeg y0)) (fun R9 => ol (x4 + Int32.ofInt 1) (fun v10 => k17 I R9 x1 x2 x3 v10)))
set_option maxHeartbeats 4000000 in
set_option maxRecDepth 100000 in
def f_X6_send_j46 (N : Nat) (k17 : OI → RI → Int32 → Int32 → Int32 → Int32 → Option (Int32 × OI × RI)) (I : OI) (R : RI) (x1 : Int32) (x2 : Int32) (x4 : Int32) (x5 : Int32) (y0 : Int32) (y1 : Int32) : Option (Int32 × OI × RI) :=
  ol (y1 + y0) (fun v3 => if x5 = 0 then (ol (x4 + Int32.ofInt 1) (fun v4 => k17 I R x1 x2 v3 v4)) else (if x2 = 0 then (ol (x4 + Int32.ofInt 1) (fun v5 => k17 I R x1 x2 v3 v5)) else (og (I 8) 16384 (ol (va_up R 26 (upd (R 26) (I 8).toNatClampNeg x5)) (fun R6 => og (I 8) 16384 (ol (va_up R6 25 (upd (R6 25) (I 8).toNatClampNeg x1)) (fun R7 => ol (va_up I 8 ((I 8) + 1)) (fun I8 => if (x5 - x5 / 10 * 10) = 2 then (f_X6_send_j119 N k17 I8 R7 x1 x2 v3 x4 (-1) ((24 * x1) + x4)) else (og x4 24 (f_X6_send_j119 N k17 I8 R7 x1 x2 v3 x4 (R7 13 x4.toNatClampNeg) ((24 * x1) + x4)))))))))))
set_option maxHeartbeats 4000000 in
set_option maxRecDepth 100000 in
def f_X6_send_l17b (N : Nat) (k17 : OI → RI → Int32 → Int32 → Int32 → Int32 → Option (Int32 × OI × RI)) (I : OI) (R : RI) (x1 : Int32) (x2 : Int32) (x3 : Int32) (x4 : Int32) : Option (Int32 × OI × RI) :=
  if (I 4) ≤ x4 then (some (x3, I, R)) else (ob1 (f_X6_tidings I R x1 x4) (fun r2 => if r2 = 0 then (f_X6_send_j46 N k17 I R x1 x2 x4 r2 0 x3) else (f_X6_send_j46 N k17 I R x1 x2 x4 r2 1 x3)))
set_option maxHeartbeats 4000000 in
set_option maxRecDepth 100000 in
def f_X6_send_l17 (N : Nat) : Nat → OI → RI → Int32 → Int32 → Int32 → Int32 → Option (Int32 × OI × RI)
  | 0 => fun _ _ _ _ _ _ => none
  | n9 + 1 => f_X6_send_l17b N (f_X6_send_l17 N n9)
def f_X6_send (N : Nat) (I : OI) (R : RI) (x1 : Int32) (x2 : Int32) : Option (Int32 × OI × RI) :=
  ob1 (f_X6_goThrough N I R (I 1) (I 1)) (fun R1 => f_X6_send_l17 N N I R1 x1 x2 0 0)
abbrev rmX6_send : Room := { frames := 4, cells := 0, slots := 0, locals := 91 }
theorem in_X6_send_X6 : ∀ w ∈ u_ws RX6 TX6 38, w ∈ wsX6_send := in_of 69 rfl
theorem hy_X6_send : yX6_send.cls ≠ "java/lang/invoke/MethodHandle" ∧ yX6_send.cls ≠ "java/lang/invoke/VarHandle" ∧ (parseMethodDescriptor yX6_send.desc).map (fun d => d.parameters.length) = some 2 := by decide +kernel
theorem hyV_X6_send : yX6_send.cls = RX6 ∧ yX6_send.cls ≠ "java/lang/invoke/MethodHandle" ∧ yX6_send.cls ≠ "java/lang/invoke/VarHandle" ∧ (parseMethodDescriptor yX6_send.desc).map (fun d => d.parameters.length) = some 2 := ⟨rfl, hy_X6_send⟩
set_option maxHeartbeats 8000000 in
set_option maxRecDepth 100000 in
theorem c_X6_send (l : Launch) (G : va_G) (cI cZ cQ cU cJ : ClassId) (N : Nat) (o : Nat) (ad : Nat → Nat) (I : OI) (R : RI) (x1 : Int32) (x2 : Int32) (out : Int32 × OI × RI) (hf : f_X6_send N I R x1 x2 = some out) : Con l yX6_send wsX6_send rmX6_send G vwCl (tys cI cZ cQ cU cJ) nws [.ref o, .int x1, .int x2] (pf [mW cI cZ o ad I R]) (some (.int out.1)) (pf [mW cI cZ o ad out.2.1 out.2.2]) := by
  refine con_of (rv := fun out : Int32 × OI × RI => some (.int out.1)) (Wd := fun out : Int32 × OI × RI => pf [mW cI cZ o ad out.2.1 out.2.2]) (maxL := 6) (own := RX6) rfl (plainFor_of_name (by decide +kernel)) rfl (Nat.le_of_ble_eq_true rfl) ?_ hf
  intro p e s m args below meth c A C hret hname
  have j119 : ∀ (k17 : OI → RI → Int32 → Int32 → Int32 → Int32 → Option (Int32 × OI × RI)) (i17 : ∀ (I : OI) (R : RI) (x1 : Int32) (x2 : Int32) (x3 : Int32) (x4 : Int32), VJ p l e rmX6_send s m args below meth c 6 G vwCl A (QR below G vwCl A args s rmX6_send.cells rmX6_send.slots (fun out : Int32 × OI × RI => some (.int out.1)) (fun out : Int32 × OI × RI => pf [mW cI cZ o ad out.2.1 out.2.2])) 0 0 (k17 I R x1 x2 x3 x4) (pf [mW cI cZ o ad I R]) 17 [(0, .ref o), (1, .int x1), (2, .int x2), (3, .int x3), (4, .int x4)] []) (I : OI) (R : RI) (x1 : Int32) (x2 : Int32) (x3 : Int32) (x4 : Int32) (y0 : Int32) (y1 : Int32), VJ p l e rmX6_send s m args below meth c 6 G vwCl A (QR below G vwCl A args s rmX6_send.cells rmX6_send.slots (fun out : Int32 × OI × RI => some (.int out.1)) (fun out : Int32 × OI × RI => pf [mW cI cZ o ad out.2.1 out.2.2])) 0 0 (f_X6_send_j119 N k17 I R x1 x2 x3 x4 y0 y1) (pf [mW cI cZ o ad I R]) 119 [(0, .ref o), (1, .int x1), (2, .int x2), (3, .int x3), (4, .int x4)] [.int y0, .int y1, .ref (ad 24)] := by
    intro k17 i17 I R x1 x2 x3 x4 y0 y1
    unfold f_X6_send_j119
    refine VJ.iastR C 25 0 R 24 (fun R9 => pf [mW cI cZ o ad I R9]) rfl rfl (fun _ => rfl) dX6_send_119 (fun R9 => ?_)
    refine VJ.iincN C 4 (fun v10 => [(4, .int v10), (0, .ref o), (1, .int x1), (2, .int x2), (3, .int x3)]) dX6_send_120 rfl (Nat.le_of_ble_eq_true rfl) (fun _ => rfl) (fun v10 => ?_)
    refine VJ.goto C 17 dX6_send_123 (by decide) ?_
    refine VJ.sub [1, 2, 3, 4, 0] rfl ?_
    exact i17 I R9 x1 x2 x3 v10
  have j46 : ∀ (k17 : OI → RI → Int32 → Int32 → Int32 → Int32 → Option (Int32 × OI × RI)) (i17 : ∀ (I : OI) (R : RI) (x1 : Int32) (x2 : Int32) (x3 : Int32) (x4 : Int32), VJ p l e rmX6_send s m args below meth c 6 G vwCl A (QR below G vwCl A args s rmX6_send.cells rmX6_send.slots (fun out : Int32 × OI × RI => some (.int out.1)) (fun out : Int32 × OI × RI => pf [mW cI cZ o ad out.2.1 out.2.2])) 0 0 (k17 I R x1 x2 x3 x4) (pf [mW cI cZ o ad I R]) 17 [(0, .ref o), (1, .int x1), (2, .int x2), (3, .int x3), (4, .int x4)] []) (I : OI) (R : RI) (x1 : Int32) (x2 : Int32) (x4 : Int32) (x5 : Int32) (y0 : Int32) (y1 : Int32), VJ p l e rmX6_send s m args below meth c 6 G vwCl A (QR below G vwCl A args s rmX6_send.cells rmX6_send.slots (fun out : Int32 × OI × RI => some (.int out.1)) (fun out : Int32 × OI × RI => pf [mW cI cZ o ad out.2.1 out.2.2])) 0 0 (f_X6_send_j46 N k17 I R x1 x2 x4 x5 y0 y1) (pf [mW cI cZ o ad I R]) 46 [(0, .ref o), (1, .int x1), (2, .int x2), (4, .int x4), (5, .int x5)] [.int y0, .int y1] := by
    intro k17 i17 I R x1 x2 x4 x5 y0 y1
    unfold f_X6_send_j46
    refine VJ.iadd C dX6_send_46 ?_
    refine VJ.topi C (fun v3 => ?_)
    refine VJ.istore_n C [(3, .int v3), (0, .ref o), (1, .int x1), (2, .int x2), (4, .int x4), (5, .int x5)] dX6_send_47 (Nat.le_of_ble_eq_true rfl) rfl ?_
    refine VJ.iload C 5 dX6_send_48 rfl ?_
    refine VJ.if_eq C 120 dX6_send_50 (by decide) (fun _ => ?_) (fun _ => ?_)
    · refine VJ.iincN C 4 (fun v4 => [(4, .int v4), (3, .int v3), (0, .ref o), (1, .int x1), (2, .int x2), (5, .int x5)]) dX6_send_120 rfl (Nat.le_of_ble_eq_true rfl) (fun _ => rfl) (fun v4 => ?_)
      refine VJ.goto C 17 dX6_send_123 (by decide) ?_
      refine VJ.sub [2, 3, 4, 1, 0] rfl ?_
      exact i17 I R x1 x2 v3 v4
    · refine VJ.iload_n C 3 dX6_send_53 rfl ?_
      refine VJ.if_eq C 120 dX6_send_54 (by decide) (fun _ => ?_) (fun _ => ?_)
      · refine VJ.iincN C 4 (fun v5 => [(4, .int v5), (3, .int v3), (0, .ref o), (1, .int x1), (2, .int x2), (5, .int x5)]) dX6_send_120 rfl (Nat.le_of_ble_eq_true rfl) (fun _ => rfl) (fun v5 => ?_)
        refine VJ.goto C 17 dX6_send_123 (by decide) ?_
        refine VJ.sub [2, 3, 4, 1, 0] rfl ?_
        exact i17 I R x1 x2 v3 v5
      · refine VJ.aload_n C 1 dX6_send_57 rfl ?_
        refine VJ.get (C0 := RX6) (T := TX6) (N := 38) (ci := 6) C in_X6_send_X6 0 rfl rfl 35 (Nat.le_of_ble_eq_true rfl) (C.1.2.2.2.2 _ (List.mem_of_getElem? (i := 3) rfl)) (fun _ h9 => h9) (v := .ref (ad 26)) rfl dX6_send_58 ?_
        refine VJ.aload_n C 1 dX6_send_61 rfl ?_
        refine VJ.get (C0 := RX6) (T := TX6) (N := 38) (ci := 6) C in_X6_send_X6 0 rfl rfl 33 (Nat.le_of_ble_eq_true rfl) (C.1.2.2.2.2 _ (List.mem_of_getElem? (i := 4) rfl)) (fun _ h9 => h9) (v := .int (I 8)) rfl dX6_send_62 ?_
        refine VJ.iload C 5 dX6_send_65 rfl ?_
        refine VJ.iastR C 27 0 R 26 (fun R6 => pf [mW cI cZ o ad I R6]) rfl rfl (fun _ => rfl) dX6_send_67 (fun R6 => ?_)
        refine VJ.aload_n C 1 dX6_send_68 rfl ?_
        refine VJ.get (C0 := RX6) (T := TX6) (N := 38) (ci := 6) C in_X6_send_X6 0 rfl rfl 34 (Nat.le_of_ble_eq_true rfl) (C.1.2.2.2.2 _ (List.mem_of_getElem? (i := 5) rfl)) (fun _ h9 => h9) (v := .ref (ad 25)) rfl dX6_send_69 ?_
        refine VJ.aload_n C 1 dX6_send_72 rfl ?_
        refine VJ.get (C0 := RX6) (T := TX6) (N := 38) (ci := 6) C in_X6_send_X6 0 rfl rfl 33 (Nat.le_of_ble_eq_true rfl) (C.1.2.2.2.2 _ (List.mem_of_getElem? (i := 4) rfl)) (fun _ h9 => h9) (v := .int (I 8)) rfl dX6_send_73 ?_
        refine VJ.iload_n C 2 dX6_send_76 rfl ?_
        refine VJ.iastR C 26 0 R6 25 (fun R7 => pf [mW cI cZ o ad I R7]) rfl rfl (fun _ => rfl) dX6_send_77 (fun R7 => ?_)
        refine VJ.aload_n C 1 dX6_send_78 rfl ?_
        refine VJ.dup C dX6_send_79 rfl ?_
        refine VJ.get (C0 := RX6) (T := TX6) (N := 38) (ci := 6) C in_X6_send_X6 0 rfl rfl 33 (Nat.le_of_ble_eq_true rfl) (C.1.2.2.2.2 _ (List.mem_of_getElem? (i := 4) rfl)) (fun _ h9 => h9) (v := .int (I 8)) rfl dX6_send_80 ?_
        refine VJ.iconst (v := 1) C dX6_send_83 (by decide) ?_
        refine VJ.iadd C dX6_send_84 ?_
        refine VJ.putI (C0 := RX6) (T := TX6) (N := 38) (ci := 6) C in_X6_send_X6 0 rfl rfl 33 (Nat.le_of_ble_eq_true rfl) (C.1.2.2.2.2 _ (List.mem_of_getElem? (i := 4) rfl)) (fun _ h9 => h9) (Ii := I) (jj := 8) (fun I8 => pf [mW cI cZ o ad I8 R7]) tyX6 tyX6_ok nmX6 rfl rfl (Nat.le_of_ble_eq_true rfl) (fun _ => rfl) dX6_send_85 (fun I8 => ?_)
        refine VJ.aload_n C 1 dX6_send_88 rfl ?_
        refine VJ.get (C0 := RX6) (T := TX6) (N := 38) (ci := 6) C in_X6_send_X6 0 rfl rfl 32 (Nat.le_of_ble_eq_true rfl) (C.1.2.2.2.2 _ (List.mem_of_getElem? (i := 6) rfl)) (fun _ h9 => h9) (v := .ref (ad 24)) rfl dX6_send_89 ?_
        refine VJ.bipush (v := 24) C dX6_send_92 (by decide) ?_
        refine VJ.iload_n C 2 dX6_send_94 rfl ?_
        refine VJ.imul C dX6_send_95 ?_
        refine VJ.iload C 4 dX6_send_96 rfl ?_
        refine VJ.iadd C dX6_send_98 ?_
        refine VJ.iload C 5 dX6_send_99 rfl ?_
        refine VJ.bipush (v := 10) C dX6_send_101 (by decide) ?_
        refine VJ.irem C dX6_send_103 (by decide) ?_
        refine VJ.iconst (v := 2) C dX6_send_104 (by decide) ?_
        refine VJ.icmp_ne C 112 dX6_send_105 (by decide) (fun _ => ?_) (fun _ => ?_)
        · refine VJ.aload_n C 1 dX6_send_112 rfl ?_
          refine VJ.get (C0 := RX6) (T := TX6) (N := 38) (ci := 6) C in_X6_send_X6 0 rfl rfl 20 (Nat.le_of_ble_eq_true rfl) (C.1.2.2.2.2 _ (List.mem_of_getElem? (i := 7) rfl)) (fun _ h9 => h9) (v := .ref (ad 13)) rfl dX6_send_113 ?_
          refine VJ.iload C 4 dX6_send_116 rfl ?_
          refine VJ.iald C 14 0 rfl rfl dX6_send_118 ?_
          refine VJ.sub [1, 2, 3, 0, 4] rfl ?_
          exact j119 k17 i17 I8 R7 x1 x2 v3 x4 (R7 13 x4.toNatClampNeg) ((24 * x1) + x4)
        · refine VJ.iconst (v := (-1)) C dX6_send_108 (by decide) ?_
          refine VJ.goto C 119 dX6_send_109 (by decide) ?_
          refine VJ.sub [1, 2, 3, 0, 4] rfl ?_
          exact j119 k17 i17 I8 R7 x1 x2 v3 x4 (-1) ((24 * x1) + x4)
  have j17 : ∀ (n9 : Nat) (I : OI) (R : RI) (x1 : Int32) (x2 : Int32) (x3 : Int32) (x4 : Int32), VJ p l e rmX6_send s m args below meth c 6 G vwCl A (QR below G vwCl A args s rmX6_send.cells rmX6_send.slots (fun out : Int32 × OI × RI => some (.int out.1)) (fun out : Int32 × OI × RI => pf [mW cI cZ o ad out.2.1 out.2.2])) 0 0 (f_X6_send_l17 N  n9 I R x1 x2 x3 x4) (pf [mW cI cZ o ad I R]) 17 [(0, .ref o), (1, .int x1), (2, .int x2), (3, .int x3), (4, .int x4)] [] := by
    intro  n9
    induction n9 with
    | zero => intro I R x1 x2 x3 x4; exact VJ.fnone rfl
    | succ n9 i17 =>
      intro I R x1 x2 x3 x4
      refine VJ.eqf (f' := f_X6_send_l17b N  (f_X6_send_l17 N  n9) I R x1 x2 x3 x4) rfl ?_
      generalize f_X6_send_l17 N  n9 = k17 at i17 ⊢
      unfold f_X6_send_l17b
      refine VJ.iload C 4 dX6_send_17 rfl ?_
      refine VJ.aload_n C 0 dX6_send_19 rfl ?_
      refine VJ.get (C0 := RX6) (T := TX6) (N := 38) (ci := 6) C in_X6_send_X6 0 rfl rfl 13 (Nat.le_of_ble_eq_true rfl) (C.1.2.2.2.2 _ (List.mem_of_getElem? (i := 2) rfl)) (fun _ h9 => h9) (v := .int (I 4)) rfl dX6_send_20 ?_
      refine VJ.icmp_ge C 126 dX6_send_23 (by decide) (fun _ => ?_) (fun _ => ?_)
      · refine VJ.iload_n C 3 dX6_send_126 rfl ?_
        exact VJ.iret C hret rfl rfl dX6_send_127
      · refine VJ.aload_n C 0 dX6_send_26 rfl ?_
        refine VJ.iload_n C 1 dX6_send_27 rfl ?_
        refine VJ.iload C 4 dX6_send_28 rfl ?_
        refine VJ.callV1 C [.int x1, .int x4] (pf [mW cI cZ o ad I R]) ([]) (fun r2 => some (.int r2)) (fun r2 => pf [mW cI cZ o ad I R]) (fun r2 => pf [mW cI cZ o ad I R]) (fun r2 => [.int r2]) 0 0 (fun _ h9 => c_X6_tidings l G cI cZ cQ cU cJ o ad I R x1 x4 _ h9) (vj_p0 _) (fun _ => vj_p0' _) 0 rfl rfl (cwV 2 C.1.2.2.2.2 gX6_send_X6_tidings rfl rfl rfl hyV_X6_tidings ⟨Nat.le_of_ble_eq_true rfl, Nat.le_of_ble_eq_true rfl⟩) rfl rfl (fun _ => rfl) (Nat.le_of_ble_eq_true rfl) dX6_send_30 ⟨Nat.le_of_ble_eq_true rfl, Nat.le_of_ble_eq_true rfl⟩ ⟨rfl, rfl⟩ (fun r2 => ?_)
        refine VJ.istore C [(5, .int r2), (0, .ref o), (1, .int x1), (2, .int x2), (3, .int x3), (4, .int x4)] dX6_send_33 (Nat.le_of_ble_eq_true rfl) rfl ?_
        refine VJ.iload_n C 4 dX6_send_35 rfl ?_
        refine VJ.iload C 0 dX6_send_36 rfl ?_
        refine VJ.if_ne C 45 dX6_send_38 (by decide) (fun _ => ?_) (fun _ => ?_)
        · refine VJ.iconst (v := 1) C dX6_send_45 (by decide) ?_
          refine VJ.sub [1, 2, 3, 5, 0] rfl ?_
          exact j46 k17 i17 I R x1 x2 x4 r2 1 x3
        · refine VJ.iconst (v := 0) C dX6_send_41 (by decide) ?_
          refine VJ.goto C 46 dX6_send_42 (by decide) ?_
          refine VJ.sub [1, 2, 3, 5, 0] rfl ?_
          exact j46 k17 i17 I R x1 x2 x4 r2 0 x3
  unfold f_X6_send
  refine VJ.aload_n C 0 dX6_send_0 rfl ?_
  refine VJ.aload_n C 0 dX6_send_1 rfl ?_
  refine VJ.get (C0 := RX6) (T := TX6) (N := 38) (ci := 6) C in_X6_send_X6 0 rfl rfl 1 (Nat.le_of_ble_eq_true rfl) (C.1.2.2.2.2 _ (List.mem_of_getElem? (i := 1) rfl)) (fun _ h9 => h9) (v := .int (I 1)) rfl dX6_send_2 ?_
  refine VJ.aload_n C 0 dX6_send_5 rfl ?_
  refine VJ.get (C0 := RX6) (T := TX6) (N := 38) (ci := 6) C in_X6_send_X6 0 rfl rfl 1 (Nat.le_of_ble_eq_true rfl) (C.1.2.2.2.2 _ (List.mem_of_getElem? (i := 1) rfl)) (fun _ h9 => h9) (v := .int (I 1)) rfl dX6_send_6 ?_
  refine VJ.callV1 C [.int (I 1), .int (I 1)] (pf [mW cI cZ o ad I R]) ([]) (fun R1 => none) (fun R1 => pf [mW cI cZ o ad I R1]) (fun R1 => pf [mW cI cZ o ad I R1]) (fun R1 => []) 0 0 (fun _ h9 => c_X6_goThrough l G cI cZ cQ cU cJ N o ad I R (I 1) (I 1) _ h9) (vj_p0 _) (fun _ => vj_p0' _) 0 rfl rfl (cwV 2 C.1.2.2.2.2 gX6_send_X6_goThrough rfl rfl rfl hyV_X6_goThrough ⟨Nat.le_of_ble_eq_true rfl, Nat.le_of_ble_eq_true rfl⟩) rfl rfl (fun _ => rfl) (Nat.le_of_ble_eq_true rfl) dX6_send_9 ⟨Nat.le_of_ble_eq_true rfl, Nat.le_of_ble_eq_true rfl⟩ ⟨rfl, rfl⟩ (fun R1 => ?_)
  refine VJ.iconst (v := 0) C dX6_send_12 (by decide) ?_
  refine VJ.istore_n C [(3, .int 0), (0, .ref o), (1, .int x1), (2, .int x2)] dX6_send_13 (Nat.le_of_ble_eq_true rfl) rfl ?_
  refine VJ.iconst (v := 0) C dX6_send_14 (by decide) ?_
  refine VJ.istore C [(4, .int 0), (3, .int 0), (0, .ref o), (1, .int x1), (2, .int x2)] dX6_send_15 (Nat.le_of_ble_eq_true rfl) rfl ?_
  refine VJ.sub [2, 3, 4, 1, 0] rfl ?_
  exact j17 N I R1 x1 x2 0 0

set_option maxHeartbeats 4000000 in
set_option maxRecDepth 100000 in
def f_X6_deliver_j14 (N : Nat) (I : OI) (R : RI) (x1 : Int32) (y0 : Int32) : Option (Int32 × OI × RI) :=
  ob2 (f_X6_refused R I y0) (fun r2 I3 => if r2 = 0 then (ob3 (f_X6_send N I3 R x1 1) (fun r4 I5 R6 => some (r4, I5, R6))) else (some (0, I3, R)))
def f_X6_deliver (N : Nat) (I : OI) (R : RI) (x1 : Int32) : Option (Int32 × OI × RI) :=
  ob1 (f_X6_isRoll I R x1) (fun r1 => if r1 = 0 then (f_X6_deliver_j14 N I R x1 1) else (f_X6_deliver_j14 N I R x1 0))
abbrev rmX6_deliver : Room := { frames := 5, cells := 0, slots := 0, locals := 116 }
theorem hy_X6_deliver : yX6_deliver.cls ≠ "java/lang/invoke/MethodHandle" ∧ yX6_deliver.cls ≠ "java/lang/invoke/VarHandle" ∧ (parseMethodDescriptor yX6_deliver.desc).map (fun d => d.parameters.length) = some 1 := by decide +kernel
theorem hyV_X6_deliver : yX6_deliver.cls = RX6 ∧ yX6_deliver.cls ≠ "java/lang/invoke/MethodHandle" ∧ yX6_deliver.cls ≠ "java/lang/invoke/VarHandle" ∧ (parseMethodDescriptor yX6_deliver.desc).map (fun d => d.parameters.length) = some 1 := ⟨rfl, hy_X6_deliver⟩
set_option maxHeartbeats 8000000 in
set_option maxRecDepth 100000 in
theorem c_X6_deliver (l : Launch) (G : va_G) (cI cZ cQ cU cJ : ClassId) (N : Nat) (o : Nat) (ad : Nat → Nat) (I : OI) (R : RI) (x1 : Int32) (out : Int32 × OI × RI) (hf : f_X6_deliver N I R x1 = some out) : Con l yX6_deliver wsX6_deliver rmX6_deliver G vwCl (tys cI cZ cQ cU cJ) nws [.ref o, .int x1] (pf [mW cI cZ o ad I R]) (some (.int out.1)) (pf [mW cI cZ o ad out.2.1 out.2.2]) := by
  refine con_of (rv := fun out : Int32 × OI × RI => some (.int out.1)) (Wd := fun out : Int32 × OI × RI => pf [mW cI cZ o ad out.2.1 out.2.2]) (maxL := 2) (own := RX6) rfl (plainFor_of_name (by decide +kernel)) rfl (Nat.le_of_ble_eq_true rfl) ?_ hf
  intro p e s m args below meth c A C hret hname
  have j14 : ∀ (I : OI) (R : RI) (x1 : Int32) (y0 : Int32), VJ p l e rmX6_deliver s m args below meth c 2 G vwCl A (QR below G vwCl A args s rmX6_deliver.cells rmX6_deliver.slots (fun out : Int32 × OI × RI => some (.int out.1)) (fun out : Int32 × OI × RI => pf [mW cI cZ o ad out.2.1 out.2.2])) 0 0 (f_X6_deliver_j14 N  I R x1 y0) (pf [mW cI cZ o ad I R]) 14 [(0, .ref o), (1, .int x1)] [.int y0, .ref o] := by
    intro  I R x1 y0
    unfold f_X6_deliver_j14
    refine VJ.callV2 C [.int y0] (pf [mW cI cZ o ad I R]) ([]) (fun r2 I3 => some (.int r2)) (fun r2 I3 => pf [mW cI cZ o ad I3 R]) (fun r2 I3 => pf [mW cI cZ o ad I3 R]) (fun r2 I3 => [.int r2]) 0 0 (fun _ h9 => c_X6_refused l G cI cZ cQ cU cJ o ad I R y0 _ h9) (vj_p0 _) (fun _ _ => vj_p0' _) 0 rfl rfl (cwV 1 C.1.2.2.2.2 gX6_deliver_X6_refused rfl rfl rfl hyV_X6_refused ⟨Nat.le_of_ble_eq_true rfl, Nat.le_of_ble_eq_true rfl⟩) rfl rfl (fun _ _ => rfl) (Nat.le_of_ble_eq_true rfl) dX6_deliver_14 ⟨Nat.le_of_ble_eq_true rfl, Nat.le_of_ble_eq_true rfl⟩ ⟨rfl, rfl⟩ (fun r2 I3 => ?_)
    refine VJ.if_eq C 24 dX6_deliver_17 (by decide) (fun _ => ?_) (fun _ => ?_)
    · refine VJ.aload_n C 0 dX6_deliver_24 rfl ?_
      refine VJ.iload_n C 1 dX6_deliver_25 rfl ?_
      refine VJ.iconst (v := 1) C dX6_deliver_26 (by decide) ?_
      refine VJ.callV3 C [.int x1, .int 1] (pf [mW cI cZ o ad I3 R]) ([]) (fun r4 I5 R6 => some (.int r4)) (fun r4 I5 R6 => pf [mW cI cZ o ad I5 R6]) (fun r4 I5 R6 => pf [mW cI cZ o ad I5 R6]) (fun r4 I5 R6 => [.int r4]) 0 0 (fun _ h9 => c_X6_send l G cI cZ cQ cU cJ N o ad I3 R x1 1 _ h9) (vj_p0 _) (fun _ _ _ => vj_p0' _) 0 rfl rfl (cwV 2 C.1.2.2.2.2 gX6_deliver_X6_send rfl rfl rfl hyV_X6_send ⟨Nat.le_of_ble_eq_true rfl, Nat.le_of_ble_eq_true rfl⟩) rfl rfl (fun _ _ _ => rfl) (Nat.le_of_ble_eq_true rfl) dX6_deliver_27 ⟨Nat.le_of_ble_eq_true rfl, Nat.le_of_ble_eq_true rfl⟩ ⟨rfl, rfl⟩ (fun r4 I5 R6 => ?_)
      exact VJ.iret C hret rfl rfl dX6_deliver_30
    · refine VJ.iconst (v := 0) C dX6_deliver_20 (by decide) ?_
      refine VJ.goto C 30 dX6_deliver_21 (by decide) ?_
      exact VJ.iret C hret rfl rfl dX6_deliver_30
  unfold f_X6_deliver
  refine VJ.aload_n C 0 dX6_deliver_0 rfl ?_
  refine VJ.aload_n C 0 dX6_deliver_1 rfl ?_
  refine VJ.iload_n C 1 dX6_deliver_2 rfl ?_
  refine VJ.callV1 C [.int x1] (pf [mW cI cZ o ad I R]) ([]) (fun r1 => some (.int r1)) (fun r1 => pf [mW cI cZ o ad I R]) (fun r1 => pf [mW cI cZ o ad I R]) (fun r1 => [.int r1, .ref o]) 0 0 (fun _ h9 => c_X6_isRoll l G cI cZ cQ cU cJ o ad I R x1 _ h9) (vj_p0 _) (fun _ => vj_p0' _) 0 rfl rfl (cwV 1 C.1.2.2.2.2 gX6_deliver_X6_isRoll rfl rfl rfl hyV_X6_isRoll ⟨Nat.le_of_ble_eq_true rfl, Nat.le_of_ble_eq_true rfl⟩) rfl rfl (fun _ => rfl) (Nat.le_of_ble_eq_true rfl) dX6_deliver_3 ⟨Nat.le_of_ble_eq_true rfl, Nat.le_of_ble_eq_true rfl⟩ ⟨rfl, rfl⟩ (fun r1 => ?_)
  refine VJ.if_eq C 13 dX6_deliver_6 (by decide) (fun _ => ?_) (fun _ => ?_)
  · refine VJ.iconst (v := 1) C dX6_deliver_13 (by decide) ?_
    exact j14 I R x1 1
  · refine VJ.iconst (v := 0) C dX6_deliver_9 (by decide) ?_
    refine VJ.goto C 14 dX6_deliver_10 (by decide) ?_
    exact j14 I R x1 0

set_option maxHeartbeats 4000000 in
set_option maxRecDepth 100000 in
def f_X6_owes_j14 (N : Nat) (I : OI) (R : RI) (x1 : Int32) (y0 : Int32) : Option (Int32 × OI × RI) :=
  ob2 (f_X6_refused R I y0) (fun r2 I3 => if r2 = 0 then (ob3 (f_X6_send N I3 R x1 0) (fun r4 I5 R6 => some (r4, I5, R6))) else (some (0, I3, R)))
def f_X6_owes (N : Nat) (I : OI) (R : RI) (x1 : Int32) : Option (Int32 × OI × RI) :=
  ob1 (f_X6_isRoll I R x1) (fun r1 => if r1 = 0 then (f_X6_owes_j14 N I R x1 1) else (f_X6_owes_j14 N I R x1 0))
abbrev rmX6_owes : Room := { frames := 5, cells := 0, slots := 0, locals := 116 }
theorem hy_X6_owes : yX6_owes.cls ≠ "java/lang/invoke/MethodHandle" ∧ yX6_owes.cls ≠ "java/lang/invoke/VarHandle" ∧ (parseMethodDescriptor yX6_owes.desc).map (fun d => d.parameters.length) = some 1 := by decide +kernel
theorem hyV_X6_owes : yX6_owes.cls = RX6 ∧ yX6_owes.cls ≠ "java/lang/invoke/MethodHandle" ∧ yX6_owes.cls ≠ "java/lang/invoke/VarHandle" ∧ (parseMethodDescriptor yX6_owes.desc).map (fun d => d.parameters.length) = some 1 := ⟨rfl, hy_X6_owes⟩
set_option maxHeartbeats 8000000 in
set_option maxRecDepth 100000 in
theorem c_X6_owes (l : Launch) (G : va_G) (cI cZ cQ cU cJ : ClassId) (N : Nat) (o : Nat) (ad : Nat → Nat) (I : OI) (R : RI) (x1 : Int32) (out : Int32 × OI × RI) (hf : f_X6_owes N I R x1 = some out) : Con l yX6_owes wsX6_owes rmX6_owes G vwCl (tys cI cZ cQ cU cJ) nws [.ref o, .int x1] (pf [mW cI cZ o ad I R]) (some (.int out.1)) (pf [mW cI cZ o ad out.2.1 out.2.2]) := by
  refine con_of (rv := fun out : Int32 × OI × RI => some (.int out.1)) (Wd := fun out : Int32 × OI × RI => pf [mW cI cZ o ad out.2.1 out.2.2]) (maxL := 2) (own := RX6) rfl (plainFor_of_name (by decide +kernel)) rfl (Nat.le_of_ble_eq_true rfl) ?_ hf
  intro p e s m args below meth c A C hret hname
  have j14 : ∀ (I : OI) (R : RI) (x1 : Int32) (y0 : Int32), VJ p l e rmX6_owes s m args below meth c 2 G vwCl A (QR below G vwCl A args s rmX6_owes.cells rmX6_owes.slots (fun out : Int32 × OI × RI => some (.int out.1)) (fun out : Int32 × OI × RI => pf [mW cI cZ o ad out.2.1 out.2.2])) 0 0 (f_X6_owes_j14 N  I R x1 y0) (pf [mW cI cZ o ad I R]) 14 [(0, .ref o), (1, .int x1)] [.int y0, .ref o] := by
    intro  I R x1 y0
    unfold f_X6_owes_j14
    refine VJ.callV2 C [.int y0] (pf [mW cI cZ o ad I R]) ([]) (fun r2 I3 => some (.int r2)) (fun r2 I3 => pf [mW cI cZ o ad I3 R]) (fun r2 I3 => pf [mW cI cZ o ad I3 R]) (fun r2 I3 => [.int r2]) 0 0 (fun _ h9 => c_X6_refused l G cI cZ cQ cU cJ o ad I R y0 _ h9) (vj_p0 _) (fun _ _ => vj_p0' _) 0 rfl rfl (cwV 1 C.1.2.2.2.2 gX6_owes_X6_refused rfl rfl rfl hyV_X6_refused ⟨Nat.le_of_ble_eq_true rfl, Nat.le_of_ble_eq_true rfl⟩) rfl rfl (fun _ _ => rfl) (Nat.le_of_ble_eq_true rfl) dX6_owes_14 ⟨Nat.le_of_ble_eq_true rfl, Nat.le_of_ble_eq_true rfl⟩ ⟨rfl, rfl⟩ (fun r2 I3 => ?_)
    refine VJ.if_eq C 24 dX6_owes_17 (by decide) (fun _ => ?_) (fun _ => ?_)
    · refine VJ.aload_n C 0 dX6_owes_24 rfl ?_
      refine VJ.iload_n C 1 dX6_owes_25 rfl ?_
      refine VJ.iconst (v := 0) C dX6_owes_26 (by decide) ?_
      refine VJ.callV3 C [.int x1, .int 0] (pf [mW cI cZ o ad I3 R]) ([]) (fun r4 I5 R6 => some (.int r4)) (fun r4 I5 R6 => pf [mW cI cZ o ad I5 R6]) (fun r4 I5 R6 => pf [mW cI cZ o ad I5 R6]) (fun r4 I5 R6 => [.int r4]) 0 0 (fun _ h9 => c_X6_send l G cI cZ cQ cU cJ N o ad I3 R x1 0 _ h9) (vj_p0 _) (fun _ _ _ => vj_p0' _) 0 rfl rfl (cwV 2 C.1.2.2.2.2 gX6_owes_X6_send rfl rfl rfl hyV_X6_send ⟨Nat.le_of_ble_eq_true rfl, Nat.le_of_ble_eq_true rfl⟩) rfl rfl (fun _ _ _ => rfl) (Nat.le_of_ble_eq_true rfl) dX6_owes_27 ⟨Nat.le_of_ble_eq_true rfl, Nat.le_of_ble_eq_true rfl⟩ ⟨rfl, rfl⟩ (fun r4 I5 R6 => ?_)
      exact VJ.iret C hret rfl rfl dX6_owes_30
    · refine VJ.iconst (v := 0) C dX6_owes_20 (by decide) ?_
      refine VJ.goto C 30 dX6_owes_21 (by decide) ?_
      exact VJ.iret C hret rfl rfl dX6_owes_30
  unfold f_X6_owes
  refine VJ.aload_n C 0 dX6_owes_0 rfl ?_
  refine VJ.aload_n C 0 dX6_owes_1 rfl ?_
  refine VJ.iload_n C 1 dX6_owes_2 rfl ?_
  refine VJ.callV1 C [.int x1] (pf [mW cI cZ o ad I R]) ([]) (fun r1 => some (.int r1)) (fun r1 => pf [mW cI cZ o ad I R]) (fun r1 => pf [mW cI cZ o ad I R]) (fun r1 => [.int r1, .ref o]) 0 0 (fun _ h9 => c_X6_isRoll l G cI cZ cQ cU cJ o ad I R x1 _ h9) (vj_p0 _) (fun _ => vj_p0' _) 0 rfl rfl (cwV 1 C.1.2.2.2.2 gX6_owes_X6_isRoll rfl rfl rfl hyV_X6_isRoll ⟨Nat.le_of_ble_eq_true rfl, Nat.le_of_ble_eq_true rfl⟩) rfl rfl (fun _ => rfl) (Nat.le_of_ble_eq_true rfl) dX6_owes_3 ⟨Nat.le_of_ble_eq_true rfl, Nat.le_of_ble_eq_true rfl⟩ ⟨rfl, rfl⟩ (fun r1 => ?_)
  refine VJ.if_eq C 13 dX6_owes_6 (by decide) (fun _ => ?_) (fun _ => ?_)
  · refine VJ.iconst (v := 1) C dX6_owes_13 (by decide) ?_
    exact j14 I R x1 1
  · refine VJ.iconst (v := 0) C dX6_owes_9 (by decide) ?_
    refine VJ.goto C 14 dX6_owes_10 (by decide) ?_
    exact j14 I R x1 0

set_option maxHeartbeats 4000000 in
set_option maxRecDepth 100000 in
def f_X6_message_j101 (N : Nat) (R : RI) (I : OI) (x4 : Int32) (y0 : Int32) : Option (Int32 × OI) :=
  ob2 (f_X6_refused R I y0) (fun r1 I2 => if r1 = 0 then (og x4 16384 (some (R 26 x4.toNatClampNeg, I2))) else (some (0, I2)))
set_option maxHeartbeats 4000000 in
set_option maxRecDepth 100000 in
def f_X6_message_j89 (N : Nat) (R : RI) (I : OI) (x4 : Int32) : Option (Int32 × OI) :=
  if x4 = (-1) then (f_X6_message_j101 N R I x4 1) else (f_X6_message_j101 N R I x4 0)
set_option maxHeartbeats 4000000 in
set_option maxRecDepth 100000 in
def f_X6_message_j68 (N : Nat) (R : RI) (k8 : OI → Int32 → Int32 → Int32 → Int32 → Int32 → Option (Int32 × OI)) (I : OI) (x1 : Int32) (x2 : Int32) (x3 : Int32) (x5 : Int32) (x6 : Int32) (y0 : Int32) : Option (Int32 × OI) :=
  if x6 = 0 then (ol (x3 - 0) (fun v4 => ol (x5 + Int32.ofInt 1) (fun v5 => k8 I x1 x2 v4 y0 v5))) else (ol (x3 - 1) (fun v6 => ol (x5 + Int32.ofInt 1) (fun v7 => k8 I x1 x2 v6 y0 v7)))
set_option maxHeartbeats 4000000 in
set_option maxRecDepth 100000 in
def f_X6_message_j51 (N : Nat) (R : RI) (k8 : OI → Int32 → Int32 → Int32 → Int32 → Int32 → Option (Int32 × OI)) (I : OI) (x1 : Int32) (x2 : Int32) (x3 : Int32) (x5 : Int32) (y0 : Int32) : Option (Int32 × OI) :=
  if y0 = 0 then (f_X6_message_j68 N R k8 I x1 x2 x3 x5 y0 (-1)) else (if x3 = 0 then (f_X6_message_j68 N R k8 I x1 x2 x3 x5 y0 x5) else (f_X6_message_j68 N R k8 I x1 x2 x3 x5 y0 (-1)))
set_option maxHeartbeats 4000000 in
set_option maxRecDepth 100000 in
def f_X6_message_l8b (N : Nat) (R : RI) (k8 : OI → Int32 → Int32 → Int32 → Int32 → Int32 → Option (Int32 × OI)) (I : OI) (x1 : Int32) (x2 : Int32) (x3 : Int32) (x4 : Int32) (x5 : Int32) : Option (Int32 × OI) :=
  if (I 8) ≤ x5 then (f_X6_message_j89 N R I x4) else (ob1 (f_X6_isRoll I R x1) (fun r3 => if r3 = 0 then (f_X6_message_j89 N R I x4) else (if x2 < 0 then (f_X6_message_j89 N R I x4) else (if x4 = (-1) then (og x5 16384 (if (R 25 x5.toNatClampNeg) = x1 then (f_X6_message_j51 N R k8 I x1 x2 x3 x5 1) else (f_X6_message_j51 N R k8 I x1 x2 x3 x5 0))) else (f_X6_message_j89 N R I x4)))))
set_option maxHeartbeats 4000000 in
set_option maxRecDepth 100000 in
def f_X6_message_l8 (N : Nat) (R : RI) : Nat → OI → Int32 → Int32 → Int32 → Int32 → Int32 → Option (Int32 × OI)
  | 0 => fun _ _ _ _ _ _ => none
  | n9 + 1 => f_X6_message_l8b N R (f_X6_message_l8 N R n9)
def f_X6_message (N : Nat) (R : RI) (I : OI) (x1 : Int32) (x2 : Int32) : Option (Int32 × OI) :=
  f_X6_message_l8 N R N I x1 x2 x2 (-1) 0
abbrev rmX6_message : Room := { frames := 2, cells := 0, slots := 0, locals := 43 }
theorem in_X6_message_X6 : ∀ w ∈ u_ws RX6 TX6 38, w ∈ wsX6_message := in_of 18 rfl
theorem hy_X6_message : yX6_message.cls ≠ "java/lang/invoke/MethodHandle" ∧ yX6_message.cls ≠ "java/lang/invoke/VarHandle" ∧ (parseMethodDescriptor yX6_message.desc).map (fun d => d.parameters.length) = some 2 := by decide +kernel
theorem hyV_X6_message : yX6_message.cls = RX6 ∧ yX6_message.cls ≠ "java/lang/invoke/MethodHandle" ∧ yX6_message.cls ≠ "java/lang/invoke/VarHandle" ∧ (parseMethodDescriptor yX6_message.desc).map (fun d => d.parameters.length) = some 2 := ⟨rfl, hy_X6_message⟩
set_option maxHeartbeats 8000000 in
set_option maxRecDepth 100000 in
theorem c_X6_message (l : Launch) (G : va_G) (cI cZ cQ cU cJ : ClassId) (N : Nat) (o : Nat) (ad : Nat → Nat) (I : OI) (R : RI) (x1 : Int32) (x2 : Int32) (out : Int32 × OI) (hf : f_X6_message N R I x1 x2 = some out) : Con l yX6_message wsX6_message rmX6_message G vwCl (tys cI cZ cQ cU cJ) nws [.ref o, .int x1, .int x2] (pf [mW cI cZ o ad I R]) (some (.int out.1)) (pf [mW cI cZ o ad out.2 R]) := by
  refine con_of (rv := fun out : Int32 × OI => some (.int out.1)) (Wd := fun out : Int32 × OI => pf [mW cI cZ o ad out.2 R]) (maxL := 7) (own := RX6) rfl (plainFor_of_name (by decide +kernel)) rfl (Nat.le_of_ble_eq_true rfl) ?_ hf
  intro p e s m args below meth c A C hret hname
  have j101 : ∀ (I : OI) (x4 : Int32) (y0 : Int32), VJ p l e rmX6_message s m args below meth c 7 G vwCl A (QR below G vwCl A args s rmX6_message.cells rmX6_message.slots (fun out : Int32 × OI => some (.int out.1)) (fun out : Int32 × OI => pf [mW cI cZ o ad out.2 R])) 0 0 (f_X6_message_j101 N R  I x4 y0) (pf [mW cI cZ o ad I R]) 101 [(0, .ref o), (4, .int x4)] [.int y0, .ref o] := by
    intro  I x4 y0
    unfold f_X6_message_j101
    refine VJ.callV2 C [.int y0] (pf [mW cI cZ o ad I R]) ([]) (fun r1 I2 => some (.int r1)) (fun r1 I2 => pf [mW cI cZ o ad I2 R]) (fun r1 I2 => pf [mW cI cZ o ad I2 R]) (fun r1 I2 => [.int r1]) 0 0 (fun _ h9 => c_X6_refused l G cI cZ cQ cU cJ o ad I R y0 _ h9) (vj_p0 _) (fun _ _ => vj_p0' _) 0 rfl rfl (cwV 1 C.1.2.2.2.2 gX6_message_X6_refused rfl rfl rfl hyV_X6_refused ⟨Nat.le_of_ble_eq_true rfl, Nat.le_of_ble_eq_true rfl⟩) rfl rfl (fun _ _ => rfl) (Nat.le_of_ble_eq_true rfl) dX6_message_101 ⟨Nat.le_of_ble_eq_true rfl, Nat.le_of_ble_eq_true rfl⟩ ⟨rfl, rfl⟩ (fun r1 I2 => ?_)
    refine VJ.if_eq C 111 dX6_message_104 (by decide) (fun _ => ?_) (fun _ => ?_)
    · refine VJ.aload_n C 0 dX6_message_111 rfl ?_
      refine VJ.get (C0 := RX6) (T := TX6) (N := 38) (ci := 6) C in_X6_message_X6 0 rfl rfl 35 (Nat.le_of_ble_eq_true rfl) (C.1.2.2.2.2 _ (List.mem_of_getElem? (i := 3) rfl)) (fun _ h9 => h9) (v := .ref (ad 26)) rfl dX6_message_112 ?_
      refine VJ.iload C 1 dX6_message_115 rfl ?_
      refine VJ.iald C 27 0 rfl rfl dX6_message_117 ?_
      exact VJ.iret C hret rfl rfl dX6_message_118
    · refine VJ.iconst (v := 0) C dX6_message_107 (by decide) ?_
      refine VJ.goto C 118 dX6_message_108 (by decide) ?_
      exact VJ.iret C hret rfl rfl dX6_message_118
  have j89 : ∀ (I : OI) (x4 : Int32), VJ p l e rmX6_message s m args below meth c 7 G vwCl A (QR below G vwCl A args s rmX6_message.cells rmX6_message.slots (fun out : Int32 × OI => some (.int out.1)) (fun out : Int32 × OI => pf [mW cI cZ o ad out.2 R])) 0 0 (f_X6_message_j89 N R  I x4) (pf [mW cI cZ o ad I R]) 89 [(0, .ref o), (4, .int x4)] [] := by
    intro  I x4
    unfold f_X6_message_j89
    refine VJ.aload_n C 0 dX6_message_89 rfl ?_
    refine VJ.iload C 1 dX6_message_90 rfl ?_
    refine VJ.iconst (v := (-1)) C dX6_message_92 (by decide) ?_
    refine VJ.icmp_ne C 100 dX6_message_93 (by decide) (fun _ => ?_) (fun _ => ?_)
    · refine VJ.iconst (v := 0) C dX6_message_100 (by decide) ?_
      exact j101 I x4 0
    · refine VJ.iconst (v := 1) C dX6_message_96 (by decide) ?_
      refine VJ.goto C 101 dX6_message_97 (by decide) ?_
      exact j101 I x4 1
  have j68 : ∀ (k8 : OI → Int32 → Int32 → Int32 → Int32 → Int32 → Option (Int32 × OI)) (i8 : ∀ (I : OI) (x1 : Int32) (x2 : Int32) (x3 : Int32) (x4 : Int32) (x5 : Int32), VJ p l e rmX6_message s m args below meth c 7 G vwCl A (QR below G vwCl A args s rmX6_message.cells rmX6_message.slots (fun out : Int32 × OI => some (.int out.1)) (fun out : Int32 × OI => pf [mW cI cZ o ad out.2 R])) 0 0 (k8 I x1 x2 x3 x4 x5) (pf [mW cI cZ o ad I R]) 8 [(0, .ref o), (1, .int x1), (2, .int x2), (3, .int x3), (4, .int x4), (5, .int x5)] []) (I : OI) (x1 : Int32) (x2 : Int32) (x3 : Int32) (x5 : Int32) (x6 : Int32) (y0 : Int32), VJ p l e rmX6_message s m args below meth c 7 G vwCl A (QR below G vwCl A args s rmX6_message.cells rmX6_message.slots (fun out : Int32 × OI => some (.int out.1)) (fun out : Int32 × OI => pf [mW cI cZ o ad out.2 R])) 0 0 (f_X6_message_j68 N R k8 I x1 x2 x3 x5 x6 y0) (pf [mW cI cZ o ad I R]) 68 [(0, .ref o), (1, .int x1), (2, .int x2), (3, .int x3), (5, .int x5), (6, .int x6)] [.int y0] := by
    intro k8 i8 I x1 x2 x3 x5 x6 y0
    unfold f_X6_message_j68
    refine VJ.istore C [(4, .int y0), (0, .ref o), (1, .int x1), (2, .int x2), (3, .int x3), (5, .int x5), (6, .int x6)] dX6_message_68 (Nat.le_of_ble_eq_true rfl) rfl ?_
    refine VJ.iload_n C 4 dX6_message_70 rfl ?_
    refine VJ.iload C 6 dX6_message_71 rfl ?_
    refine VJ.if_eq C 80 dX6_message_73 (by decide) (fun _ => ?_) (fun _ => ?_)
    · refine VJ.iconst (v := 0) C dX6_message_80 (by decide) ?_
      refine VJ.isub C dX6_message_81 ?_
      refine VJ.topi C (fun v4 => ?_)
      refine VJ.istore_n C [(3, .int v4), (4, .int y0), (0, .ref o), (1, .int x1), (2, .int x2), (5, .int x5), (6, .int x6)] dX6_message_82 (Nat.le_of_ble_eq_true rfl) rfl ?_
      refine VJ.iincN C 5 (fun v5 => [(5, .int v5), (3, .int v4), (4, .int y0), (0, .ref o), (1, .int x1), (2, .int x2), (6, .int x6)]) dX6_message_83 rfl (Nat.le_of_ble_eq_true rfl) (fun _ => rfl) (fun v5 => ?_)
      refine VJ.goto C 8 dX6_message_86 (by decide) ?_
      refine VJ.sub [3, 4, 5, 1, 2, 0] rfl ?_
      exact i8 I x1 x2 v4 y0 v5
    · refine VJ.iconst (v := 1) C dX6_message_76 (by decide) ?_
      refine VJ.goto C 81 dX6_message_77 (by decide) ?_
      refine VJ.isub C dX6_message_81 ?_
      refine VJ.topi C (fun v6 => ?_)
      refine VJ.istore_n C [(3, .int v6), (4, .int y0), (0, .ref o), (1, .int x1), (2, .int x2), (5, .int x5), (6, .int x6)] dX6_message_82 (Nat.le_of_ble_eq_true rfl) rfl ?_
      refine VJ.iincN C 5 (fun v7 => [(5, .int v7), (3, .int v6), (4, .int y0), (0, .ref o), (1, .int x1), (2, .int x2), (6, .int x6)]) dX6_message_83 rfl (Nat.le_of_ble_eq_true rfl) (fun _ => rfl) (fun v7 => ?_)
      refine VJ.goto C 8 dX6_message_86 (by decide) ?_
      refine VJ.sub [3, 4, 5, 1, 2, 0] rfl ?_
      exact i8 I x1 x2 v6 y0 v7
  have j51 : ∀ (k8 : OI → Int32 → Int32 → Int32 → Int32 → Int32 → Option (Int32 × OI)) (i8 : ∀ (I : OI) (x1 : Int32) (x2 : Int32) (x3 : Int32) (x4 : Int32) (x5 : Int32), VJ p l e rmX6_message s m args below meth c 7 G vwCl A (QR below G vwCl A args s rmX6_message.cells rmX6_message.slots (fun out : Int32 × OI => some (.int out.1)) (fun out : Int32 × OI => pf [mW cI cZ o ad out.2 R])) 0 0 (k8 I x1 x2 x3 x4 x5) (pf [mW cI cZ o ad I R]) 8 [(0, .ref o), (1, .int x1), (2, .int x2), (3, .int x3), (4, .int x4), (5, .int x5)] []) (I : OI) (x1 : Int32) (x2 : Int32) (x3 : Int32) (x5 : Int32) (y0 : Int32), VJ p l e rmX6_message s m args below meth c 7 G vwCl A (QR below G vwCl A args s rmX6_message.cells rmX6_message.slots (fun out : Int32 × OI => some (.int out.1)) (fun out : Int32 × OI => pf [mW cI cZ o ad out.2 R])) 0 0 (f_X6_message_j51 N R k8 I x1 x2 x3 x5 y0) (pf [mW cI cZ o ad I R]) 51 [(0, .ref o), (1, .int x1), (2, .int x2), (3, .int x3), (5, .int x5)] [.int y0] := by
    intro k8 i8 I x1 x2 x3 x5 y0
    unfold f_X6_message_j51
    refine VJ.istore C [(6, .int y0), (0, .ref o), (1, .int x1), (2, .int x2), (3, .int x3), (5, .int x5)] dX6_message_51 (Nat.le_of_ble_eq_true rfl) rfl ?_
    refine VJ.iload C 0 dX6_message_53 rfl ?_
    refine VJ.if_eq C 67 dX6_message_55 (by decide) (fun _ => ?_) (fun _ => ?_)
    · refine VJ.iconst (v := (-1)) C dX6_message_67 (by decide) ?_
      refine VJ.sub [1, 2, 3, 4, 5, 0] rfl ?_
      exact j68 k8 i8 I x1 x2 x3 x5 y0 (-1)
    · refine VJ.iload_n C 4 dX6_message_58 rfl ?_
      refine VJ.if_ne C 67 dX6_message_59 (by decide) (fun _ => ?_) (fun _ => ?_)
      · refine VJ.iconst (v := (-1)) C dX6_message_67 (by decide) ?_
        refine VJ.sub [1, 2, 3, 4, 5, 0] rfl ?_
        exact j68 k8 i8 I x1 x2 x3 x5 y0 (-1)
      · refine VJ.iload C 5 dX6_message_62 rfl ?_
        refine VJ.goto C 68 dX6_message_64 (by decide) ?_
        refine VJ.sub [1, 2, 3, 4, 5, 0] rfl ?_
        exact j68 k8 i8 I x1 x2 x3 x5 y0 x5
  have j8 : ∀ (n9 : Nat) (I : OI) (x1 : Int32) (x2 : Int32) (x3 : Int32) (x4 : Int32) (x5 : Int32), VJ p l e rmX6_message s m args below meth c 7 G vwCl A (QR below G vwCl A args s rmX6_message.cells rmX6_message.slots (fun out : Int32 × OI => some (.int out.1)) (fun out : Int32 × OI => pf [mW cI cZ o ad out.2 R])) 0 0 (f_X6_message_l8 N R  n9 I x1 x2 x3 x4 x5) (pf [mW cI cZ o ad I R]) 8 [(0, .ref o), (1, .int x1), (2, .int x2), (3, .int x3), (4, .int x4), (5, .int x5)] [] := by
    intro  n9
    induction n9 with
    | zero => intro I x1 x2 x3 x4 x5; exact VJ.fnone rfl
    | succ n9 i8 =>
      intro I x1 x2 x3 x4 x5
      refine VJ.eqf (f' := f_X6_message_l8b N R  (f_X6_message_l8 N R  n9) I x1 x2 x3 x4 x5) rfl ?_
      generalize f_X6_message_l8 N R  n9 = k8 at i8 ⊢
      unfold f_X6_message_l8b
      refine VJ.iload C 5 dX6_message_8 rfl ?_
      refine VJ.aload_n C 0 dX6_message_10 rfl ?_
      refine VJ.get (C0 := RX6) (T := TX6) (N := 38) (ci := 6) C in_X6_message_X6 0 rfl rfl 33 (Nat.le_of_ble_eq_true rfl) (C.1.2.2.2.2 _ (List.mem_of_getElem? (i := 1) rfl)) (fun _ h9 => h9) (v := .int (I 8)) rfl dX6_message_11 ?_
      refine VJ.icmp_ge C 89 dX6_message_14 (by decide) (fun _ => ?_) (fun _ => ?_)
      · refine VJ.sub [0, 4] rfl ?_
        exact j89 I x4
      · refine VJ.aload_n C 0 dX6_message_17 rfl ?_
        refine VJ.iload_n C 1 dX6_message_18 rfl ?_
        refine VJ.callV1 C [.int x1] (pf [mW cI cZ o ad I R]) ([]) (fun r3 => some (.int r3)) (fun r3 => pf [mW cI cZ o ad I R]) (fun r3 => pf [mW cI cZ o ad I R]) (fun r3 => [.int r3]) 0 0 (fun _ h9 => c_X6_isRoll l G cI cZ cQ cU cJ o ad I R x1 _ h9) (vj_p0 _) (fun _ => vj_p0' _) 0 rfl rfl (cwV 1 C.1.2.2.2.2 gX6_message_X6_isRoll rfl rfl rfl hyV_X6_isRoll ⟨Nat.le_of_ble_eq_true rfl, Nat.le_of_ble_eq_true rfl⟩) rfl rfl (fun _ => rfl) (Nat.le_of_ble_eq_true rfl) dX6_message_19 ⟨Nat.le_of_ble_eq_true rfl, Nat.le_of_ble_eq_true rfl⟩ ⟨rfl, rfl⟩ (fun r3 => ?_)
        refine VJ.if_eq C 89 dX6_message_22 (by decide) (fun _ => ?_) (fun _ => ?_)
        · refine VJ.sub [0, 4] rfl ?_
          exact j89 I x4
        · refine VJ.iload_n C 2 dX6_message_25 rfl ?_
          refine VJ.if_lt C 89 dX6_message_26 (by decide) (fun _ => ?_) (fun _ => ?_)
          · refine VJ.sub [0, 4] rfl ?_
            exact j89 I x4
          · refine VJ.iload C 4 dX6_message_29 rfl ?_
            refine VJ.iconst (v := (-1)) C dX6_message_31 (by decide) ?_
            refine VJ.icmp_ne C 89 dX6_message_32 (by decide) (fun _ => ?_) (fun _ => ?_)
            · refine VJ.sub [0, 4] rfl ?_
              exact j89 I x4
            · refine VJ.aload_n C 0 dX6_message_35 rfl ?_
              refine VJ.get (C0 := RX6) (T := TX6) (N := 38) (ci := 6) C in_X6_message_X6 0 rfl rfl 34 (Nat.le_of_ble_eq_true rfl) (C.1.2.2.2.2 _ (List.mem_of_getElem? (i := 2) rfl)) (fun _ h9 => h9) (v := .ref (ad 25)) rfl dX6_message_36 ?_
              refine VJ.iload C 5 dX6_message_39 rfl ?_
              refine VJ.iald C 26 0 rfl rfl dX6_message_41 ?_
              refine VJ.iload_n C 1 dX6_message_42 rfl ?_
              refine VJ.icmp_ne C 50 dX6_message_43 (by decide) (fun _ => ?_) (fun _ => ?_)
              · refine VJ.iconst (v := 0) C dX6_message_50 (by decide) ?_
                refine VJ.sub [0, 1, 2, 3, 5] rfl ?_
                exact j51 k8 i8 I x1 x2 x3 x5 0
              · refine VJ.iconst (v := 1) C dX6_message_46 (by decide) ?_
                refine VJ.goto C 51 dX6_message_47 (by decide) ?_
                refine VJ.sub [0, 1, 2, 3, 5] rfl ?_
                exact j51 k8 i8 I x1 x2 x3 x5 1
  unfold f_X6_message
  refine VJ.iload_n C 2 dX6_message_0 rfl ?_
  refine VJ.istore_n C [(3, .int x2), (0, .ref o), (1, .int x1), (2, .int x2)] dX6_message_1 (Nat.le_of_ble_eq_true rfl) rfl ?_
  refine VJ.iconst (v := (-1)) C dX6_message_2 (by decide) ?_
  refine VJ.istore C [(4, .int (-1)), (3, .int x2), (0, .ref o), (1, .int x1), (2, .int x2)] dX6_message_3 (Nat.le_of_ble_eq_true rfl) rfl ?_
  refine VJ.iconst (v := 0) C dX6_message_5 (by decide) ?_
  refine VJ.istore C [(5, .int 0), (4, .int (-1)), (3, .int x2), (0, .ref o), (1, .int x1), (2, .int x2)] dX6_message_6 (Nat.le_of_ble_eq_true rfl) rfl ?_
  refine VJ.sub [3, 4, 5, 2, 1, 0] rfl ?_
  exact j8 N I x1 x2 x2 (-1) 0

set_option maxHeartbeats 4000000 in
set_option maxRecDepth 100000 in
def f_X6_holds_j32 (R : RI) (I : OI) (x1 : Int32) (x2 : Int32) (y0 : Int32) : Option (Int32 × OI) :=
  ob2 (f_X6_refused R I y0) (fun r2 I3 => if r2 = 0 then (og ((24 * x1) + x2) 120 (some (R 24 ((24 * x1) + x2).toNatClampNeg, I3))) else (some (0, I3)))
set_option maxHeartbeats 4000000 in
set_option maxRecDepth 100000 in
def f_X6_holds_j21 (R : RI) (I : OI) (x1 : Int32) (x2 : Int32) (y0 : Int32) : Option (Int32 × OI) :=
  if y0 = 0 then (f_X6_holds_j32 R I x1 x2 1) else (f_X6_holds_j32 R I x1 x2 0)
def f_X6_holds (R : RI) (I : OI) (x1 : Int32) (x2 : Int32) : Option (Int32 × OI) :=
  ob1 (f_X6_isRoll I R x1) (fun r1 => if r1 = 0 then (f_X6_holds_j21 R I x1 x2 0) else (ob1 (f_X6_isPerson I R x2) (fun r4 => if r4 = 0 then (f_X6_holds_j21 R I x1 x2 0) else (f_X6_holds_j21 R I x1 x2 1))))
abbrev rmX6_holds : Room := { frames := 2, cells := 0, slots := 0, locals := 43 }
theorem in_X6_holds_X6 : ∀ w ∈ u_ws RX6 TX6 38, w ∈ wsX6_holds := in_of 21 rfl
theorem hy_X6_holds : yX6_holds.cls ≠ "java/lang/invoke/MethodHandle" ∧ yX6_holds.cls ≠ "java/lang/invoke/VarHandle" ∧ (parseMethodDescriptor yX6_holds.desc).map (fun d => d.parameters.length) = some 2 := by decide +kernel
theorem hyV_X6_holds : yX6_holds.cls = RX6 ∧ yX6_holds.cls ≠ "java/lang/invoke/MethodHandle" ∧ yX6_holds.cls ≠ "java/lang/invoke/VarHandle" ∧ (parseMethodDescriptor yX6_holds.desc).map (fun d => d.parameters.length) = some 2 := ⟨rfl, hy_X6_holds⟩
set_option maxHeartbeats 8000000 in
set_option maxRecDepth 100000 in
theorem c_X6_holds (l : Launch) (G : va_G) (cI cZ cQ cU cJ : ClassId) (o : Nat) (ad : Nat → Nat) (I : OI) (R : RI) (x1 : Int32) (x2 : Int32) (out : Int32 × OI) (hf : f_X6_holds R I x1 x2 = some out) : Con l yX6_holds wsX6_holds rmX6_holds G vwCl (tys cI cZ cQ cU cJ) nws [.ref o, .int x1, .int x2] (pf [mW cI cZ o ad I R]) (some (.int out.1)) (pf [mW cI cZ o ad out.2 R]) := by
  refine con_of (rv := fun out : Int32 × OI => some (.int out.1)) (Wd := fun out : Int32 × OI => pf [mW cI cZ o ad out.2 R]) (maxL := 4) (own := RX6) rfl (plainFor_of_name (by decide +kernel)) rfl (Nat.le_of_ble_eq_true rfl) ?_ hf
  intro p e s m args below meth c A C hret hname
  have j32 : ∀ (I : OI) (x1 : Int32) (x2 : Int32) (y0 : Int32), VJ p l e rmX6_holds s m args below meth c 4 G vwCl A (QR below G vwCl A args s rmX6_holds.cells rmX6_holds.slots (fun out : Int32 × OI => some (.int out.1)) (fun out : Int32 × OI => pf [mW cI cZ o ad out.2 R])) 0 0 (f_X6_holds_j32 R  I x1 x2 y0) (pf [mW cI cZ o ad I R]) 32 [(0, .ref o), (1, .int x1), (2, .int x2)] [.int y0, .ref o] := by
    intro  I x1 x2 y0
    unfold f_X6_holds_j32
    refine VJ.callV2 C [.int y0] (pf [mW cI cZ o ad I R]) ([]) (fun r2 I3 => some (.int r2)) (fun r2 I3 => pf [mW cI cZ o ad I3 R]) (fun r2 I3 => pf [mW cI cZ o ad I3 R]) (fun r2 I3 => [.int r2]) 0 0 (fun _ h9 => c_X6_refused l G cI cZ cQ cU cJ o ad I R y0 _ h9) (vj_p0 _) (fun _ _ => vj_p0' _) 0 rfl rfl (cwV 1 C.1.2.2.2.2 gX6_holds_X6_refused rfl rfl rfl hyV_X6_refused ⟨Nat.le_of_ble_eq_true rfl, Nat.le_of_ble_eq_true rfl⟩) rfl rfl (fun _ _ => rfl) (Nat.le_of_ble_eq_true rfl) dX6_holds_32 ⟨Nat.le_of_ble_eq_true rfl, Nat.le_of_ble_eq_true rfl⟩ ⟨rfl, rfl⟩ (fun r2 I3 => ?_)
    refine VJ.if_eq C 42 dX6_holds_35 (by decide) (fun _ => ?_) (fun _ => ?_)
    · refine VJ.aload_n C 0 dX6_holds_42 rfl ?_
      refine VJ.get (C0 := RX6) (T := TX6) (N := 38) (ci := 6) C in_X6_holds_X6 0 rfl rfl 32 (Nat.le_of_ble_eq_true rfl) (C.1.2.2.2.2 _ (List.mem_of_getElem? (i := 1) rfl)) (fun _ h9 => h9) (v := .ref (ad 24)) rfl dX6_holds_43 ?_
      refine VJ.bipush (v := 24) C dX6_holds_46 (by decide) ?_
      refine VJ.iload_n C 1 dX6_holds_48 rfl ?_
      refine VJ.imul C dX6_holds_49 ?_
      refine VJ.iload_n C 2 dX6_holds_50 rfl ?_
      refine VJ.iadd C dX6_holds_51 ?_
      refine VJ.iald C 25 0 rfl rfl dX6_holds_52 ?_
      exact VJ.iret C hret rfl rfl dX6_holds_53
    · refine VJ.iconst (v := 0) C dX6_holds_38 (by decide) ?_
      refine VJ.goto C 53 dX6_holds_39 (by decide) ?_
      exact VJ.iret C hret rfl rfl dX6_holds_53
  have j21 : ∀ (I : OI) (x1 : Int32) (x2 : Int32) (y0 : Int32), VJ p l e rmX6_holds s m args below meth c 4 G vwCl A (QR below G vwCl A args s rmX6_holds.cells rmX6_holds.slots (fun out : Int32 × OI => some (.int out.1)) (fun out : Int32 × OI => pf [mW cI cZ o ad out.2 R])) 0 0 (f_X6_holds_j21 R  I x1 x2 y0) (pf [mW cI cZ o ad I R]) 21 [(0, .ref o), (1, .int x1), (2, .int x2)] [.int y0] := by
    intro  I x1 x2 y0
    unfold f_X6_holds_j21
    refine VJ.istore_n C [(3, .int y0), (0, .ref o), (1, .int x1), (2, .int x2)] dX6_holds_21 (Nat.le_of_ble_eq_true rfl) rfl ?_
    refine VJ.aload_n C 1 dX6_holds_22 rfl ?_
    refine VJ.iload_n C 0 dX6_holds_23 rfl ?_
    refine VJ.if_eq C 31 dX6_holds_24 (by decide) (fun _ => ?_) (fun _ => ?_)
    · refine VJ.iconst (v := 1) C dX6_holds_31 (by decide) ?_
      refine VJ.sub [1, 2, 3] rfl ?_
      exact j32 I x1 x2 1
    · refine VJ.iconst (v := 0) C dX6_holds_27 (by decide) ?_
      refine VJ.goto C 32 dX6_holds_28 (by decide) ?_
      refine VJ.sub [1, 2, 3] rfl ?_
      exact j32 I x1 x2 0
  unfold f_X6_holds
  refine VJ.aload_n C 0 dX6_holds_0 rfl ?_
  refine VJ.iload_n C 1 dX6_holds_1 rfl ?_
  refine VJ.callV1 C [.int x1] (pf [mW cI cZ o ad I R]) ([]) (fun r1 => some (.int r1)) (fun r1 => pf [mW cI cZ o ad I R]) (fun r1 => pf [mW cI cZ o ad I R]) (fun r1 => [.int r1]) 0 0 (fun _ h9 => c_X6_isRoll l G cI cZ cQ cU cJ o ad I R x1 _ h9) (vj_p0 _) (fun _ => vj_p0' _) 0 rfl rfl (cwV 1 C.1.2.2.2.2 gX6_holds_X6_isRoll rfl rfl rfl hyV_X6_isRoll ⟨Nat.le_of_ble_eq_true rfl, Nat.le_of_ble_eq_true rfl⟩) rfl rfl (fun _ => rfl) (Nat.le_of_ble_eq_true rfl) dX6_holds_2 ⟨Nat.le_of_ble_eq_true rfl, Nat.le_of_ble_eq_true rfl⟩ ⟨rfl, rfl⟩ (fun r1 => ?_)
  refine VJ.if_eq C 20 dX6_holds_5 (by decide) (fun _ => ?_) (fun _ => ?_)
  · refine VJ.iconst (v := 0) C dX6_holds_20 (by decide) ?_
    exact j21 I x1 x2 0
  · refine VJ.aload_n C 0 dX6_holds_8 rfl ?_
    refine VJ.iload_n C 2 dX6_holds_9 rfl ?_
    refine VJ.callV1 C [.int x2] (pf [mW cI cZ o ad I R]) ([]) (fun r4 => some (.int r4)) (fun r4 => pf [mW cI cZ o ad I R]) (fun r4 => pf [mW cI cZ o ad I R]) (fun r4 => [.int r4]) 0 0 (fun _ h9 => c_X6_isPerson l G cI cZ cQ cU cJ o ad I R x2 _ h9) (vj_p0 _) (fun _ => vj_p0' _) 0 rfl rfl (cwV 1 C.1.2.2.2.2 gX6_holds_X6_isPerson rfl rfl rfl hyV_X6_isPerson ⟨Nat.le_of_ble_eq_true rfl, Nat.le_of_ble_eq_true rfl⟩) rfl rfl (fun _ => rfl) (Nat.le_of_ble_eq_true rfl) dX6_holds_10 ⟨Nat.le_of_ble_eq_true rfl, Nat.le_of_ble_eq_true rfl⟩ ⟨rfl, rfl⟩ (fun r4 => ?_)
    refine VJ.if_eq C 20 dX6_holds_13 (by decide) (fun _ => ?_) (fun _ => ?_)
    · refine VJ.iconst (v := 0) C dX6_holds_20 (by decide) ?_
      exact j21 I x1 x2 0
    · refine VJ.iconst (v := 1) C dX6_holds_16 (by decide) ?_
      refine VJ.goto C 21 dX6_holds_17 (by decide) ?_
      exact j21 I x1 x2 1

def f_X6_holdsAnew (R : RI) (I : OI) (x1 : Int32) (x2 : Int32) : Option (Int32 × OI) :=
  ob2 (f_X6_holds R I x1 x2) (fun r1 I2 => some (r1, I2))
abbrev rmX6_holdsAnew : Room := { frames := 3, cells := 0, slots := 0, locals := 66 }
theorem hy_X6_holdsAnew : yX6_holdsAnew.cls ≠ "java/lang/invoke/MethodHandle" ∧ yX6_holdsAnew.cls ≠ "java/lang/invoke/VarHandle" ∧ (parseMethodDescriptor yX6_holdsAnew.desc).map (fun d => d.parameters.length) = some 2 := by decide +kernel
theorem hyV_X6_holdsAnew : yX6_holdsAnew.cls = RX6 ∧ yX6_holdsAnew.cls ≠ "java/lang/invoke/MethodHandle" ∧ yX6_holdsAnew.cls ≠ "java/lang/invoke/VarHandle" ∧ (parseMethodDescriptor yX6_holdsAnew.desc).map (fun d => d.parameters.length) = some 2 := ⟨rfl, hy_X6_holdsAnew⟩
set_option maxHeartbeats 8000000 in
set_option maxRecDepth 100000 in
theorem c_X6_holdsAnew (l : Launch) (G : va_G) (cI cZ cQ cU cJ : ClassId) (o : Nat) (ad : Nat → Nat) (I : OI) (R : RI) (x1 : Int32) (x2 : Int32) (out : Int32 × OI) (hf : f_X6_holdsAnew R I x1 x2 = some out) : Con l yX6_holdsAnew wsX6_holdsAnew rmX6_holdsAnew G vwCl (tys cI cZ cQ cU cJ) nws [.ref o, .int x1, .int x2] (pf [mW cI cZ o ad I R]) (some (.int out.1)) (pf [mW cI cZ o ad out.2 R]) := by
  refine con_of (rv := fun out : Int32 × OI => some (.int out.1)) (Wd := fun out : Int32 × OI => pf [mW cI cZ o ad out.2 R]) (maxL := 3) (own := RX6) rfl (plainFor_of_name (by decide +kernel)) rfl (Nat.le_of_ble_eq_true rfl) ?_ hf
  intro p e s m args below meth c A C hret hname
  unfold f_X6_holdsAnew
  refine VJ.aload_n C 0 dX6_holdsAnew_0 rfl ?_
  refine VJ.iload_n C 1 dX6_holdsAnew_1 rfl ?_
  refine VJ.iload_n C 2 dX6_holdsAnew_2 rfl ?_
  refine VJ.callV2 C [.int x1, .int x2] (pf [mW cI cZ o ad I R]) ([]) (fun r1 I2 => some (.int r1)) (fun r1 I2 => pf [mW cI cZ o ad I2 R]) (fun r1 I2 => pf [mW cI cZ o ad I2 R]) (fun r1 I2 => [.int r1]) 0 0 (fun _ h9 => c_X6_holds l G cI cZ cQ cU cJ o ad I R x1 x2 _ h9) (vj_p0 _) (fun _ _ => vj_p0' _) 0 rfl rfl (cwV 2 C.1.2.2.2.2 gX6_holdsAnew_X6_holds rfl rfl rfl hyV_X6_holds ⟨Nat.le_of_ble_eq_true rfl, Nat.le_of_ble_eq_true rfl⟩) rfl rfl (fun _ _ => rfl) (Nat.le_of_ble_eq_true rfl) dX6_holdsAnew_3 ⟨Nat.le_of_ble_eq_true rfl, Nat.le_of_ble_eq_true rfl⟩ ⟨rfl, rfl⟩ (fun r1 I2 => ?_)
  exact VJ.iret C hret rfl rfl dX6_holdsAnew_6

set_option maxHeartbeats 4000000 in
set_option maxRecDepth 100000 in
def f_X6_bar_j14 (I : OI) (R : RI) (x1 : Int32) (x2 : Int32) (y0 : Int32) : Option (Int32 × OI × RI) :=
  ob2 (f_X6_refused R I y0) (fun r2 I3 => if r2 = 0 then (og x1 24 (ol (R 27 x1.toNatClampNeg) (fun v4 => og x1 24 (ol (va_up R 27 (upd (R 27) x1.toNatClampNeg (vp_nar .boolean x2))) (fun R5 => oz v4 (some (v4, I3, R5))))))) else (some (0, I3, R)))
def f_X6_bar (I : OI) (R : RI) (x1 : Int32) (x2 : Int32) : Option (Int32 × OI × RI) :=
  ob1 (f_X6_isPerson I R x1) (fun r1 => if r1 = 0 then (f_X6_bar_j14 I R x1 x2 1) else (f_X6_bar_j14 I R x1 x2 0))
abbrev rmX6_bar : Room := { frames := 2, cells := 0, slots := 0, locals := 43 }
theorem in_X6_bar_X6 : ∀ w ∈ u_ws RX6 TX6 38, w ∈ wsX6_bar := in_of 16 rfl
theorem hy_X6_bar : yX6_bar.cls ≠ "java/lang/invoke/MethodHandle" ∧ yX6_bar.cls ≠ "java/lang/invoke/VarHandle" ∧ (parseMethodDescriptor yX6_bar.desc).map (fun d => d.parameters.length) = some 2 := by decide +kernel
theorem hyV_X6_bar : yX6_bar.cls = RX6 ∧ yX6_bar.cls ≠ "java/lang/invoke/MethodHandle" ∧ yX6_bar.cls ≠ "java/lang/invoke/VarHandle" ∧ (parseMethodDescriptor yX6_bar.desc).map (fun d => d.parameters.length) = some 2 := ⟨rfl, hy_X6_bar⟩
set_option maxHeartbeats 8000000 in
set_option maxRecDepth 100000 in
theorem c_X6_bar (l : Launch) (G : va_G) (cI cZ cQ cU cJ : ClassId) (o : Nat) (ad : Nat → Nat) (I : OI) (R : RI) (x1 : Int32) (x2 : Int32) (out : Int32 × OI × RI) (hf : f_X6_bar I R x1 x2 = some out) : Con l yX6_bar wsX6_bar rmX6_bar G vwCl (tys cI cZ cQ cU cJ) nws [.ref o, .int x1, .int x2] (pf [mW cI cZ o ad I R]) (some (.int out.1)) (pf [mW cI cZ o ad out.2.1 out.2.2]) := by
  refine con_of (rv := fun out : Int32 × OI × RI => some (.int out.1)) (Wd := fun out : Int32 × OI × RI => pf [mW cI cZ o ad out.2.1 out.2.2]) (maxL := 4) (own := RX6) rfl (plainFor_of_name (by decide +kernel)) rfl (Nat.le_of_ble_eq_true rfl) ?_ hf
  intro p e s m args below meth c A C hret hname
  have j14 : ∀ (I : OI) (R : RI) (x1 : Int32) (x2 : Int32) (y0 : Int32), VJ p l e rmX6_bar s m args below meth c 4 G vwCl A (QR below G vwCl A args s rmX6_bar.cells rmX6_bar.slots (fun out : Int32 × OI × RI => some (.int out.1)) (fun out : Int32 × OI × RI => pf [mW cI cZ o ad out.2.1 out.2.2])) 0 0 (f_X6_bar_j14   I R x1 x2 y0) (pf [mW cI cZ o ad I R]) 14 [(0, .ref o), (1, .int x1), (2, .int x2)] [.int y0, .ref o] := by
    intro  I R x1 x2 y0
    unfold f_X6_bar_j14
    refine VJ.callV2 C [.int y0] (pf [mW cI cZ o ad I R]) ([]) (fun r2 I3 => some (.int r2)) (fun r2 I3 => pf [mW cI cZ o ad I3 R]) (fun r2 I3 => pf [mW cI cZ o ad I3 R]) (fun r2 I3 => [.int r2]) 0 0 (fun _ h9 => c_X6_refused l G cI cZ cQ cU cJ o ad I R y0 _ h9) (vj_p0 _) (fun _ _ => vj_p0' _) 0 rfl rfl (cwV 1 C.1.2.2.2.2 gX6_bar_X6_refused rfl rfl rfl hyV_X6_refused ⟨Nat.le_of_ble_eq_true rfl, Nat.le_of_ble_eq_true rfl⟩) rfl rfl (fun _ _ => rfl) (Nat.le_of_ble_eq_true rfl) dX6_bar_14 ⟨Nat.le_of_ble_eq_true rfl, Nat.le_of_ble_eq_true rfl⟩ ⟨rfl, rfl⟩ (fun r2 I3 => ?_)
    refine VJ.if_eq C 22 dX6_bar_17 (by decide) (fun _ => ?_) (fun _ => ?_)
    · refine VJ.aload_n C 0 dX6_bar_22 rfl ?_
      refine VJ.get (C0 := RX6) (T := TX6) (N := 38) (ci := 6) C in_X6_bar_X6 0 rfl rfl 36 (Nat.le_of_ble_eq_true rfl) (C.1.2.2.2.2 _ (List.mem_of_getElem? (i := 1) rfl)) (fun _ h9 => h9) (v := .ref (ad 27)) rfl dX6_bar_23 ?_
      refine VJ.iload_n C 1 dX6_bar_26 rfl ?_
      refine VJ.zald C 28 1 rfl rfl dX6_bar_27 ?_
      refine VJ.topi C (fun v4 => ?_)
      refine VJ.istore_n C [(3, .int v4), (0, .ref o), (1, .int x1), (2, .int x2)] dX6_bar_28 (Nat.le_of_ble_eq_true rfl) rfl ?_
      refine VJ.aload_n C 1 dX6_bar_29 rfl ?_
      refine VJ.get (C0 := RX6) (T := TX6) (N := 38) (ci := 6) C in_X6_bar_X6 0 rfl rfl 36 (Nat.le_of_ble_eq_true rfl) (C.1.2.2.2.2 _ (List.mem_of_getElem? (i := 1) rfl)) (fun _ h9 => h9) (v := .ref (ad 27)) rfl dX6_bar_30 ?_
      refine VJ.iload_n C 2 dX6_bar_33 rfl ?_
      refine VJ.iload_n C 3 dX6_bar_34 rfl ?_
      refine VJ.zastR C 28 1 R 27 (fun R5 => pf [mW cI cZ o ad I3 R5]) rfl rfl (fun _ => rfl) dX6_bar_35 (fun R5 => ?_)
      refine VJ.iload_n C 0 dX6_bar_36 rfl ?_
      refine VJ.roz (fun h9 => ?_)
      exact VJ.zret C (vj_nz h9) hret rfl rfl dX6_bar_37
    · refine VJ.iconst (v := 0) C dX6_bar_20 (by decide) ?_
      exact VJ.zret C rfl hret rfl rfl dX6_bar_21
  unfold f_X6_bar
  refine VJ.aload_n C 0 dX6_bar_0 rfl ?_
  refine VJ.aload_n C 0 dX6_bar_1 rfl ?_
  refine VJ.iload_n C 1 dX6_bar_2 rfl ?_
  refine VJ.callV1 C [.int x1] (pf [mW cI cZ o ad I R]) ([]) (fun r1 => some (.int r1)) (fun r1 => pf [mW cI cZ o ad I R]) (fun r1 => pf [mW cI cZ o ad I R]) (fun r1 => [.int r1, .ref o]) 0 0 (fun _ h9 => c_X6_isPerson l G cI cZ cQ cU cJ o ad I R x1 _ h9) (vj_p0 _) (fun _ => vj_p0' _) 0 rfl rfl (cwV 1 C.1.2.2.2.2 gX6_bar_X6_isPerson rfl rfl rfl hyV_X6_isPerson ⟨Nat.le_of_ble_eq_true rfl, Nat.le_of_ble_eq_true rfl⟩) rfl rfl (fun _ => rfl) (Nat.le_of_ble_eq_true rfl) dX6_bar_3 ⟨Nat.le_of_ble_eq_true rfl, Nat.le_of_ble_eq_true rfl⟩ ⟨rfl, rfl⟩ (fun r1 => ?_)
  refine VJ.if_eq C 13 dX6_bar_6 (by decide) (fun _ => ?_) (fun _ => ?_)
  · refine VJ.iconst (v := 1) C dX6_bar_13 (by decide) ?_
    exact j14 I R x1 x2 1
  · refine VJ.iconst (v := 0) C dX6_bar_9 (by decide) ?_
    refine VJ.goto C 14 dX6_bar_10 (by decide) ?_
    exact j14 I R x1 x2 0

set_option maxHeartbeats 4000000 in
set_option maxRecDepth 100000 in
def f_X6_look_j27 (N : Nat) (I : OI) (R : RI) (x1 : Int32) (x2 : Int32) (y0 : Int32) : Option (Int32 × OI × RI) :=
  ob2 (f_X6_refused R I y0) (fun r3 I4 => if r3 = 0 then (og x2 24 (og x2 24 (ol (va_up R 28 (upd (R 28) x2.toNatClampNeg ((R 28 x2.toNatClampNeg) + 1))) (fun R5 => ob1 (f_X6_goThrough N I4 R5 (I4 1) (I4 1)) (fun R6 => og x2 24 (if (R6 27 x2.toNatClampNeg) = 0 then (og x2 24 (some (R6 13 x2.toNatClampNeg, I4, R6))) else (if x1 = 0 then (og x2 24 (some (R6 13 x2.toNatClampNeg, I4, R6))) else (some ((-2), I4, R6))))))))) else (some (0, I4, R)))
def f_X6_look (N : Nat) (I : OI) (R : RI) (x1 : Int32) (x2 : Int32) : Option (Int32 × OI × RI) :=
  ob1 (f_X6_isPerson I R x2) (fun r1 => if r1 = 0 then (f_X6_look_j27 N I R x1 x2 1) else (ob1 (f_X6_within x1 0 3) (fun r2 => if r2 = 0 then (f_X6_look_j27 N I R x1 x2 2) else (f_X6_look_j27 N I R x1 x2 0))))
abbrev rmX6_look : Room := { frames := 4, cells := 0, slots := 0, locals := 91 }
theorem in_X6_look_X6 : ∀ w ∈ u_ws RX6 TX6 38, w ∈ wsX6_look := in_of 62 rfl
theorem hy_X6_look : yX6_look.cls ≠ "java/lang/invoke/MethodHandle" ∧ yX6_look.cls ≠ "java/lang/invoke/VarHandle" ∧ (parseMethodDescriptor yX6_look.desc).map (fun d => d.parameters.length) = some 2 := by decide +kernel
theorem hyV_X6_look : yX6_look.cls = RX6 ∧ yX6_look.cls ≠ "java/lang/invoke/MethodHandle" ∧ yX6_look.cls ≠ "java/lang/invoke/VarHandle" ∧ (parseMethodDescriptor yX6_look.desc).map (fun d => d.parameters.length) = some 2 := ⟨rfl, hy_X6_look⟩
set_option maxHeartbeats 8000000 in
set_option maxRecDepth 100000 in
theorem c_X6_look (l : Launch) (G : va_G) (cI cZ cQ cU cJ : ClassId) (N : Nat) (o : Nat) (ad : Nat → Nat) (I : OI) (R : RI) (x1 : Int32) (x2 : Int32) (out : Int32 × OI × RI) (hf : f_X6_look N I R x1 x2 = some out) : Con l yX6_look wsX6_look rmX6_look G vwCl (tys cI cZ cQ cU cJ) nws [.ref o, .int x1, .int x2] (pf [mW cI cZ o ad I R]) (some (.int out.1)) (pf [mW cI cZ o ad out.2.1 out.2.2]) := by
  refine con_of (rv := fun out : Int32 × OI × RI => some (.int out.1)) (Wd := fun out : Int32 × OI × RI => pf [mW cI cZ o ad out.2.1 out.2.2]) (maxL := 3) (own := RX6) rfl (plainFor_of_name (by decide +kernel)) rfl (Nat.le_of_ble_eq_true rfl) ?_ hf
  intro p e s m args below meth c A C hret hname
  have j27 : ∀ (I : OI) (R : RI) (x1 : Int32) (x2 : Int32) (y0 : Int32), VJ p l e rmX6_look s m args below meth c 3 G vwCl A (QR below G vwCl A args s rmX6_look.cells rmX6_look.slots (fun out : Int32 × OI × RI => some (.int out.1)) (fun out : Int32 × OI × RI => pf [mW cI cZ o ad out.2.1 out.2.2])) 0 0 (f_X6_look_j27 N  I R x1 x2 y0) (pf [mW cI cZ o ad I R]) 27 [(0, .ref o), (1, .int x1), (2, .int x2)] [.int y0, .ref o] := by
    intro  I R x1 x2 y0
    unfold f_X6_look_j27
    refine VJ.callV2 C [.int y0] (pf [mW cI cZ o ad I R]) ([]) (fun r3 I4 => some (.int r3)) (fun r3 I4 => pf [mW cI cZ o ad I4 R]) (fun r3 I4 => pf [mW cI cZ o ad I4 R]) (fun r3 I4 => [.int r3]) 0 0 (fun _ h9 => c_X6_refused l G cI cZ cQ cU cJ o ad I R y0 _ h9) (vj_p0 _) (fun _ _ => vj_p0' _) 0 rfl rfl (cwV 1 C.1.2.2.2.2 gX6_look_X6_refused rfl rfl rfl hyV_X6_refused ⟨Nat.le_of_ble_eq_true rfl, Nat.le_of_ble_eq_true rfl⟩) rfl rfl (fun _ _ => rfl) (Nat.le_of_ble_eq_true rfl) dX6_look_27 ⟨Nat.le_of_ble_eq_true rfl, Nat.le_of_ble_eq_true rfl⟩ ⟨rfl, rfl⟩ (fun r3 I4 => ?_)
    refine VJ.if_eq C 35 dX6_look_30 (by decide) (fun _ => ?_) (fun _ => ?_)
    · refine VJ.aload_n C 0 dX6_look_35 rfl ?_
      refine VJ.get (C0 := RX6) (T := TX6) (N := 38) (ci := 6) C in_X6_look_X6 0 rfl rfl 37 (Nat.le_of_ble_eq_true rfl) (C.1.2.2.2.2 _ (List.mem_of_getElem? (i := 1) rfl)) (fun _ h9 => h9) (v := .ref (ad 28)) rfl dX6_look_36 ?_
      refine VJ.iload_n C 2 dX6_look_39 rfl ?_
      refine VJ.dup2 C dX6_look_40 rfl rfl ?_
      refine VJ.iald C 29 0 rfl rfl dX6_look_41 ?_
      refine VJ.iconst (v := 1) C dX6_look_42 (by decide) ?_
      refine VJ.iadd C dX6_look_43 ?_
      refine VJ.iastR C 29 0 R 28 (fun R5 => pf [mW cI cZ o ad I4 R5]) rfl rfl (fun _ => rfl) dX6_look_44 (fun R5 => ?_)
      refine VJ.aload_n C 0 dX6_look_45 rfl ?_
      refine VJ.aload_n C 0 dX6_look_46 rfl ?_
      refine VJ.get (C0 := RX6) (T := TX6) (N := 38) (ci := 6) C in_X6_look_X6 0 rfl rfl 1 (Nat.le_of_ble_eq_true rfl) (C.1.2.2.2.2 _ (List.mem_of_getElem? (i := 2) rfl)) (fun _ h9 => h9) (v := .int (I4 1)) rfl dX6_look_47 ?_
      refine VJ.aload_n C 0 dX6_look_50 rfl ?_
      refine VJ.get (C0 := RX6) (T := TX6) (N := 38) (ci := 6) C in_X6_look_X6 0 rfl rfl 1 (Nat.le_of_ble_eq_true rfl) (C.1.2.2.2.2 _ (List.mem_of_getElem? (i := 2) rfl)) (fun _ h9 => h9) (v := .int (I4 1)) rfl dX6_look_51 ?_
      refine VJ.callV1 C [.int (I4 1), .int (I4 1)] (pf [mW cI cZ o ad I4 R5]) ([]) (fun R6 => none) (fun R6 => pf [mW cI cZ o ad I4 R6]) (fun R6 => pf [mW cI cZ o ad I4 R6]) (fun R6 => []) 0 0 (fun _ h9 => c_X6_goThrough l G cI cZ cQ cU cJ N o ad I4 R5 (I4 1) (I4 1) _ h9) (vj_p0 _) (fun _ => vj_p0' _) 0 rfl rfl (cwV 2 C.1.2.2.2.2 gX6_look_X6_goThrough rfl rfl rfl hyV_X6_goThrough ⟨Nat.le_of_ble_eq_true rfl, Nat.le_of_ble_eq_true rfl⟩) rfl rfl (fun _ => rfl) (Nat.le_of_ble_eq_true rfl) dX6_look_54 ⟨Nat.le_of_ble_eq_true rfl, Nat.le_of_ble_eq_true rfl⟩ ⟨rfl, rfl⟩ (fun R6 => ?_)
      refine VJ.aload_n C 0 dX6_look_57 rfl ?_
      refine VJ.get (C0 := RX6) (T := TX6) (N := 38) (ci := 6) C in_X6_look_X6 0 rfl rfl 36 (Nat.le_of_ble_eq_true rfl) (C.1.2.2.2.2 _ (List.mem_of_getElem? (i := 3) rfl)) (fun _ h9 => h9) (v := .ref (ad 27)) rfl dX6_look_58 ?_
      refine VJ.iload_n C 2 dX6_look_61 rfl ?_
      refine VJ.zald C 28 1 rfl rfl dX6_look_62 ?_
      refine VJ.if_eq C 75 dX6_look_63 (by decide) (fun _ => ?_) (fun _ => ?_)
      · refine VJ.aload_n C 0 dX6_look_75 rfl ?_
        refine VJ.get (C0 := RX6) (T := TX6) (N := 38) (ci := 6) C in_X6_look_X6 0 rfl rfl 20 (Nat.le_of_ble_eq_true rfl) (C.1.2.2.2.2 _ (List.mem_of_getElem? (i := 4) rfl)) (fun _ h9 => h9) (v := .ref (ad 13)) rfl dX6_look_76 ?_
        refine VJ.iload_n C 2 dX6_look_79 rfl ?_
        refine VJ.iald C 14 0 rfl rfl dX6_look_80 ?_
        exact VJ.iret C hret rfl rfl dX6_look_81
      · refine VJ.iload_n C 1 dX6_look_66 rfl ?_
        refine VJ.if_eq C 75 dX6_look_67 (by decide) (fun _ => ?_) (fun _ => ?_)
        · refine VJ.aload_n C 0 dX6_look_75 rfl ?_
          refine VJ.get (C0 := RX6) (T := TX6) (N := 38) (ci := 6) C in_X6_look_X6 0 rfl rfl 20 (Nat.le_of_ble_eq_true rfl) (C.1.2.2.2.2 _ (List.mem_of_getElem? (i := 4) rfl)) (fun _ h9 => h9) (v := .ref (ad 13)) rfl dX6_look_76 ?_
          refine VJ.iload_n C 2 dX6_look_79 rfl ?_
          refine VJ.iald C 14 0 rfl rfl dX6_look_80 ?_
          exact VJ.iret C hret rfl rfl dX6_look_81
        · refine VJ.bipush (v := (-2)) C dX6_look_70 (by decide) ?_
          refine VJ.goto C 81 dX6_look_72 (by decide) ?_
          exact VJ.iret C hret rfl rfl dX6_look_81
    · refine VJ.iconst (v := 0) C dX6_look_33 (by decide) ?_
      exact VJ.iret C hret rfl rfl dX6_look_34
  unfold f_X6_look
  refine VJ.aload_n C 0 dX6_look_0 rfl ?_
  refine VJ.aload_n C 0 dX6_look_1 rfl ?_
  refine VJ.iload_n C 2 dX6_look_2 rfl ?_
  refine VJ.callV1 C [.int x2] (pf [mW cI cZ o ad I R]) ([]) (fun r1 => some (.int r1)) (fun r1 => pf [mW cI cZ o ad I R]) (fun r1 => pf [mW cI cZ o ad I R]) (fun r1 => [.int r1, .ref o]) 0 0 (fun _ h9 => c_X6_isPerson l G cI cZ cQ cU cJ o ad I R x2 _ h9) (vj_p0 _) (fun _ => vj_p0' _) 0 rfl rfl (cwV 1 C.1.2.2.2.2 gX6_look_X6_isPerson rfl rfl rfl hyV_X6_isPerson ⟨Nat.le_of_ble_eq_true rfl, Nat.le_of_ble_eq_true rfl⟩) rfl rfl (fun _ => rfl) (Nat.le_of_ble_eq_true rfl) dX6_look_3 ⟨Nat.le_of_ble_eq_true rfl, Nat.le_of_ble_eq_true rfl⟩ ⟨rfl, rfl⟩ (fun r1 => ?_)
  refine VJ.if_ne C 13 dX6_look_6 (by decide) (fun _ => ?_) (fun _ => ?_)
  · refine VJ.iload_n C 1 dX6_look_13 rfl ?_
    refine VJ.iconst (v := 0) C dX6_look_14 (by decide) ?_
    refine VJ.iconst (v := 3) C dX6_look_15 (by decide) ?_
    refine VJ.callS1 C [.int x1, .int 0, .int 3] (pf []) (pf [mW cI cZ o ad I R]) (fun r2 => some (.int r2)) (fun r2 => pf []) (fun r2 => pf [mW cI cZ o ad I R]) (fun r2 => [.int r2, .ref o]) 0 0 (fun _ h9 => c_X6_within l G cI cZ cQ cU cJ x1 0 3 _ h9) (vj_pn _) (fun _ => vj_pn' _) (va_cwS 3 C.1.2.2.2.2 gX6_look_X6_within rfl rfl rfl hy_X6_within ⟨Nat.le_of_ble_eq_true rfl, Nat.le_of_ble_eq_true rfl⟩) rfl rfl (fun _ => rfl) (Nat.le_of_ble_eq_true rfl) dX6_look_16 ⟨Nat.le_of_ble_eq_true rfl, Nat.le_of_ble_eq_true rfl⟩ ⟨rfl, rfl⟩ (fun r2 => ?_)
    refine VJ.if_ne C 26 dX6_look_19 (by decide) (fun _ => ?_) (fun _ => ?_)
    · refine VJ.iconst (v := 0) C dX6_look_26 (by decide) ?_
      exact j27 I R x1 x2 0
    · refine VJ.iconst (v := 2) C dX6_look_22 (by decide) ?_
      refine VJ.goto C 27 dX6_look_23 (by decide) ?_
      exact j27 I R x1 x2 2
  · refine VJ.iconst (v := 1) C dX6_look_9 (by decide) ?_
    refine VJ.goto C 27 dX6_look_10 (by decide) ?_
    exact j27 I R x1 x2 1

set_option maxHeartbeats 4000000 in
set_option maxRecDepth 100000 in
def f_X6_looks_j14 (R : RI) (I : OI) (x1 : Int32) (y0 : Int32) : Option (Int32 × OI) :=
  ob2 (f_X6_refused R I y0) (fun r2 I3 => if r2 = 0 then (og x1 24 (some (R 28 x1.toNatClampNeg, I3))) else (some (0, I3)))
def f_X6_looks (R : RI) (I : OI) (x1 : Int32) : Option (Int32 × OI) :=
  ob1 (f_X6_isPerson I R x1) (fun r1 => if r1 = 0 then (f_X6_looks_j14 R I x1 1) else (f_X6_looks_j14 R I x1 0))
abbrev rmX6_looks : Room := { frames := 2, cells := 0, slots := 0, locals := 43 }
theorem in_X6_looks_X6 : ∀ w ∈ u_ws RX6 TX6 38, w ∈ wsX6_looks := in_of 16 rfl
theorem hy_X6_looks : yX6_looks.cls ≠ "java/lang/invoke/MethodHandle" ∧ yX6_looks.cls ≠ "java/lang/invoke/VarHandle" ∧ (parseMethodDescriptor yX6_looks.desc).map (fun d => d.parameters.length) = some 1 := by decide +kernel
theorem hyV_X6_looks : yX6_looks.cls = RX6 ∧ yX6_looks.cls ≠ "java/lang/invoke/MethodHandle" ∧ yX6_looks.cls ≠ "java/lang/invoke/VarHandle" ∧ (parseMethodDescriptor yX6_looks.desc).map (fun d => d.parameters.length) = some 1 := ⟨rfl, hy_X6_looks⟩
set_option maxHeartbeats 8000000 in
set_option maxRecDepth 100000 in
theorem c_X6_looks (l : Launch) (G : va_G) (cI cZ cQ cU cJ : ClassId) (o : Nat) (ad : Nat → Nat) (I : OI) (R : RI) (x1 : Int32) (out : Int32 × OI) (hf : f_X6_looks R I x1 = some out) : Con l yX6_looks wsX6_looks rmX6_looks G vwCl (tys cI cZ cQ cU cJ) nws [.ref o, .int x1] (pf [mW cI cZ o ad I R]) (some (.int out.1)) (pf [mW cI cZ o ad out.2 R]) := by
  refine con_of (rv := fun out : Int32 × OI => some (.int out.1)) (Wd := fun out : Int32 × OI => pf [mW cI cZ o ad out.2 R]) (maxL := 2) (own := RX6) rfl (plainFor_of_name (by decide +kernel)) rfl (Nat.le_of_ble_eq_true rfl) ?_ hf
  intro p e s m args below meth c A C hret hname
  have j14 : ∀ (I : OI) (x1 : Int32) (y0 : Int32), VJ p l e rmX6_looks s m args below meth c 2 G vwCl A (QR below G vwCl A args s rmX6_looks.cells rmX6_looks.slots (fun out : Int32 × OI => some (.int out.1)) (fun out : Int32 × OI => pf [mW cI cZ o ad out.2 R])) 0 0 (f_X6_looks_j14 R  I x1 y0) (pf [mW cI cZ o ad I R]) 14 [(0, .ref o), (1, .int x1)] [.int y0, .ref o] := by
    intro  I x1 y0
    unfold f_X6_looks_j14
    refine VJ.callV2 C [.int y0] (pf [mW cI cZ o ad I R]) ([]) (fun r2 I3 => some (.int r2)) (fun r2 I3 => pf [mW cI cZ o ad I3 R]) (fun r2 I3 => pf [mW cI cZ o ad I3 R]) (fun r2 I3 => [.int r2]) 0 0 (fun _ h9 => c_X6_refused l G cI cZ cQ cU cJ o ad I R y0 _ h9) (vj_p0 _) (fun _ _ => vj_p0' _) 0 rfl rfl (cwV 1 C.1.2.2.2.2 gX6_looks_X6_refused rfl rfl rfl hyV_X6_refused ⟨Nat.le_of_ble_eq_true rfl, Nat.le_of_ble_eq_true rfl⟩) rfl rfl (fun _ _ => rfl) (Nat.le_of_ble_eq_true rfl) dX6_looks_14 ⟨Nat.le_of_ble_eq_true rfl, Nat.le_of_ble_eq_true rfl⟩ ⟨rfl, rfl⟩ (fun r2 I3 => ?_)
    refine VJ.if_eq C 24 dX6_looks_17 (by decide) (fun _ => ?_) (fun _ => ?_)
    · refine VJ.aload_n C 0 dX6_looks_24 rfl ?_
      refine VJ.get (C0 := RX6) (T := TX6) (N := 38) (ci := 6) C in_X6_looks_X6 0 rfl rfl 37 (Nat.le_of_ble_eq_true rfl) (C.1.2.2.2.2 _ (List.mem_of_getElem? (i := 1) rfl)) (fun _ h9 => h9) (v := .ref (ad 28)) rfl dX6_looks_25 ?_
      refine VJ.iload_n C 1 dX6_looks_28 rfl ?_
      refine VJ.iald C 29 0 rfl rfl dX6_looks_29 ?_
      exact VJ.iret C hret rfl rfl dX6_looks_30
    · refine VJ.iconst (v := 0) C dX6_looks_20 (by decide) ?_
      refine VJ.goto C 30 dX6_looks_21 (by decide) ?_
      exact VJ.iret C hret rfl rfl dX6_looks_30
  unfold f_X6_looks
  refine VJ.aload_n C 0 dX6_looks_0 rfl ?_
  refine VJ.aload_n C 0 dX6_looks_1 rfl ?_
  refine VJ.iload_n C 1 dX6_looks_2 rfl ?_
  refine VJ.callV1 C [.int x1] (pf [mW cI cZ o ad I R]) ([]) (fun r1 => some (.int r1)) (fun r1 => pf [mW cI cZ o ad I R]) (fun r1 => pf [mW cI cZ o ad I R]) (fun r1 => [.int r1, .ref o]) 0 0 (fun _ h9 => c_X6_isPerson l G cI cZ cQ cU cJ o ad I R x1 _ h9) (vj_p0 _) (fun _ => vj_p0' _) 0 rfl rfl (cwV 1 C.1.2.2.2.2 gX6_looks_X6_isPerson rfl rfl rfl hyV_X6_isPerson ⟨Nat.le_of_ble_eq_true rfl, Nat.le_of_ble_eq_true rfl⟩) rfl rfl (fun _ => rfl) (Nat.le_of_ble_eq_true rfl) dX6_looks_3 ⟨Nat.le_of_ble_eq_true rfl, Nat.le_of_ble_eq_true rfl⟩ ⟨rfl, rfl⟩ (fun r1 => ?_)
  refine VJ.if_eq C 13 dX6_looks_6 (by decide) (fun _ => ?_) (fun _ => ?_)
  · refine VJ.iconst (v := 1) C dX6_looks_13 (by decide) ?_
    exact j14 I x1 1
  · refine VJ.iconst (v := 0) C dX6_looks_9 (by decide) ?_
    refine VJ.goto C 14 dX6_looks_10 (by decide) ?_
    exact j14 I x1 0

