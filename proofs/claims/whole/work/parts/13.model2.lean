

def f_X6_part (I : OI) (R : RI) (x1 : Int32) : Option RI :=
  og x1 24 (if (R 15 x1.toNatClampNeg) = (-1) then (some R) else (og x1 24 (og (R 15 x1.toNatClampNeg) 24 (ol (va_up R 15 (upd (R 15) (R 15 x1.toNatClampNeg).toNatClampNeg (-1))) (fun R1 => og x1 24 (ol (va_up R1 15 (upd (R1 15) x1.toNatClampNeg (-1))) (fun R2 => some R2)))))))
abbrev rmX6_part : Room := { frames := 0, cells := 0, slots := 0, locals := 0 }
theorem in_X6_part_X6 : ∀ w ∈ u_ws RX6 TX6 38, w ∈ wsX6_part := in_of 2 rfl
theorem hy_X6_part : yX6_part.cls ≠ "java/lang/invoke/MethodHandle" ∧ yX6_part.cls ≠ "java/lang/invoke/VarHandle" ∧ (parseMethodDescriptor yX6_part.desc).map (fun d => d.parameters.length) = some 1 := by decide +kernel
theorem hyV_X6_part : yX6_part.cls = RX6 ∧ yX6_part.cls ≠ "java/lang/invoke/MethodHandle" ∧ yX6_part.cls ≠ "java/lang/invoke/VarHandle" ∧ (parseMethodDescriptor yX6_part.desc).map (fun d => d.parameters.length) = some 1 := ⟨rfl, hy_X6_part⟩
set_option maxHeartbeats 8000000 in
set_option maxRecDepth 100000 in
theorem c_X6_part (l : Launch) (G : va_G) (cI cZ cQ cU cJ : ClassId) (o : Nat) (ad : Nat → Nat) (I : OI) (R : RI) (x1 : Int32) (out : RI) (hf : f_X6_part I R x1 = some out) : Con l yX6_part wsX6_part rmX6_part G vwCl (tys cI cZ cQ cU cJ) nws [.ref o, .int x1] (pf [mW cI cZ o ad I R]) (none) (pf [mW cI cZ o ad I out]) := by
  refine con_of (rv := fun out : RI => none) (Wd := fun out : RI => pf [mW cI cZ o ad I out]) (maxL := 2) (own := RX6) rfl (plainFor_of_name (by decide +kernel)) rfl (Nat.le_of_ble_eq_true rfl) ?_ hf
  intro p e s m args below meth c A C hret hname
  unfold f_X6_part
  refine VJ.aload_n C 0 dX6_part_0 rfl ?_
  refine VJ.get (C0 := RX6) (T := TX6) (N := 38) (ci := 6) C in_X6_part_X6 0 rfl rfl 22 (Nat.le_of_ble_eq_true rfl) (C.1.2.2.2.2 _ (List.mem_of_getElem? (i := 1) rfl)) (fun _ h9 => h9) (v := .ref (ad 15)) rfl dX6_part_1 ?_
  refine VJ.iload_n C 1 dX6_part_4 rfl ?_
  refine VJ.iald C 16 0 rfl rfl dX6_part_5 ?_
  refine VJ.iconst (v := (-1)) C dX6_part_6 (by decide) ?_
  refine VJ.icmp_eq C 29 dX6_part_7 (by decide) (fun _ => ?_) (fun _ => ?_)
  · exact VJ.vret C hret rfl rfl dX6_part_29
  · refine VJ.aload_n C 0 dX6_part_10 rfl ?_
    refine VJ.get (C0 := RX6) (T := TX6) (N := 38) (ci := 6) C in_X6_part_X6 0 rfl rfl 22 (Nat.le_of_ble_eq_true rfl) (C.1.2.2.2.2 _ (List.mem_of_getElem? (i := 1) rfl)) (fun _ h9 => h9) (v := .ref (ad 15)) rfl dX6_part_11 ?_
    refine VJ.aload_n C 0 dX6_part_14 rfl ?_
    refine VJ.get (C0 := RX6) (T := TX6) (N := 38) (ci := 6) C in_X6_part_X6 0 rfl rfl 22 (Nat.le_of_ble_eq_true rfl) (C.1.2.2.2.2 _ (List.mem_of_getElem? (i := 1) rfl)) (fun _ h9 => h9) (v := .ref (ad 15)) rfl dX6_part_15 ?_
    refine VJ.iload_n C 1 dX6_part_18 rfl ?_
    refine VJ.iald C 16 0 rfl rfl dX6_part_19 ?_
    refine VJ.iconst (v := (-1)) C dX6_part_20 (by decide) ?_
    refine VJ.iastR C 16 0 R 15 (fun R1 => pf [mW cI cZ o ad I R1]) rfl rfl (fun _ => rfl) dX6_part_21 (fun R1 => ?_)
    refine VJ.aload_n C 0 dX6_part_22 rfl ?_
    refine VJ.get (C0 := RX6) (T := TX6) (N := 38) (ci := 6) C in_X6_part_X6 0 rfl rfl 22 (Nat.le_of_ble_eq_true rfl) (C.1.2.2.2.2 _ (List.mem_of_getElem? (i := 1) rfl)) (fun _ h9 => h9) (v := .ref (ad 15)) rfl dX6_part_23 ?_
    refine VJ.iload_n C 1 dX6_part_26 rfl ?_
    refine VJ.iconst (v := (-1)) C dX6_part_27 (by decide) ?_
    refine VJ.iastR C 16 0 R1 15 (fun R2 => pf [mW cI cZ o ad I R2]) rfl rfl (fun _ => rfl) dX6_part_28 (fun R2 => ?_)
    exact VJ.vret C hret rfl rfl dX6_part_29

set_option maxHeartbeats 4000000 in
set_option maxRecDepth 100000 in
def f_X6_tied_j46 (I : OI) (R : RI) (x1 : Int32) (x2 : Int32) (x3 : Int32) : Option RI :=
  if x1 = 3 then (og x2 24 (if (R 15 x2.toNatClampNeg) = (-1) then (og x3 24 (if (R 15 x3.toNatClampNeg) = (-1) then (og x2 24 (ol (va_up R 15 (upd (R 15) x2.toNatClampNeg x3)) (fun R1 => og x3 24 (ol (va_up R1 15 (upd (R1 15) x3.toNatClampNeg x2)) (fun R2 => some R2))))) else (some R))) else (some R))) else (some R)
def f_X6_tied (I : OI) (R : RI) (x1 : Int32) (x2 : Int32) (x3 : Int32) : Option RI :=
  if x1 = 6 then (og x2 24 (ol (va_up R 16 (upd (R 16) x2.toNatClampNeg x3)) (fun R4 => og x2 24 (ol (va_up R4 19 (upd (R4 19) x2.toNatClampNeg (vp_nar .boolean 1))) (fun R5 => some R5))))) else (if x1 = 4 then (og x2 24 (if (R 15 x2.toNatClampNeg) = x3 then (ob1 (f_X6_part I R x2) (fun R3 => some R3)) else (f_X6_tied_j46 I R x1 x2 x3))) else (f_X6_tied_j46 I R x1 x2 x3))
abbrev rmX6_tied : Room := { frames := 1, cells := 0, slots := 0, locals := 21 }
theorem in_X6_tied_X6 : ∀ w ∈ u_ws RX6 TX6 38, w ∈ wsX6_tied := in_of 9 rfl
theorem hy_X6_tied : yX6_tied.cls ≠ "java/lang/invoke/MethodHandle" ∧ yX6_tied.cls ≠ "java/lang/invoke/VarHandle" ∧ (parseMethodDescriptor yX6_tied.desc).map (fun d => d.parameters.length) = some 3 := by decide +kernel
theorem hyV_X6_tied : yX6_tied.cls = RX6 ∧ yX6_tied.cls ≠ "java/lang/invoke/MethodHandle" ∧ yX6_tied.cls ≠ "java/lang/invoke/VarHandle" ∧ (parseMethodDescriptor yX6_tied.desc).map (fun d => d.parameters.length) = some 3 := ⟨rfl, hy_X6_tied⟩
set_option maxHeartbeats 8000000 in
set_option maxRecDepth 100000 in
theorem c_X6_tied (l : Launch) (G : va_G) (cI cZ cQ cU cJ : ClassId) (o : Nat) (ad : Nat → Nat) (I : OI) (R : RI) (x1 : Int32) (x2 : Int32) (x3 : Int32) (out : RI) (hf : f_X6_tied I R x1 x2 x3 = some out) : Con l yX6_tied wsX6_tied rmX6_tied G vwCl (tys cI cZ cQ cU cJ) nws [.ref o, .int x1, .int x2, .int x3] (pf [mW cI cZ o ad I R]) (none) (pf [mW cI cZ o ad I out]) := by
  refine con_of (rv := fun out : RI => none) (Wd := fun out : RI => pf [mW cI cZ o ad I out]) (maxL := 4) (own := RX6) rfl (plainFor_of_name (by decide +kernel)) rfl (Nat.le_of_ble_eq_true rfl) ?_ hf
  intro p e s m args below meth c A C hret hname
  have j46 : ∀ (R : RI) (x1 : Int32) (x2 : Int32) (x3 : Int32), VJ p l e rmX6_tied s m args below meth c 4 G vwCl A (QR below G vwCl A args s rmX6_tied.cells rmX6_tied.slots (fun out : RI => none) (fun out : RI => pf [mW cI cZ o ad I out])) 0 0 (f_X6_tied_j46 I  R x1 x2 x3) (pf [mW cI cZ o ad I R]) 46 [(0, .ref o), (1, .int x1), (2, .int x2), (3, .int x3)] [] := by
    intro  R x1 x2 x3
    unfold f_X6_tied_j46
    refine VJ.iload_n C 1 dX6_tied_46 rfl ?_
    refine VJ.iconst (v := 3) C dX6_tied_47 (by decide) ?_
    refine VJ.icmp_ne C 85 dX6_tied_48 (by decide) (fun _ => ?_) (fun _ => ?_)
    · exact VJ.vret C hret rfl rfl dX6_tied_85
    · refine VJ.aload_n C 0 dX6_tied_51 rfl ?_
      refine VJ.get (C0 := RX6) (T := TX6) (N := 38) (ci := 6) C in_X6_tied_X6 0 rfl rfl 22 (Nat.le_of_ble_eq_true rfl) (C.1.2.2.2.2 _ (List.mem_of_getElem? (i := 3) rfl)) (fun _ h9 => h9) (v := .ref (ad 15)) rfl dX6_tied_52 ?_
      refine VJ.iload_n C 2 dX6_tied_55 rfl ?_
      refine VJ.iald C 16 0 rfl rfl dX6_tied_56 ?_
      refine VJ.iconst (v := (-1)) C dX6_tied_57 (by decide) ?_
      refine VJ.icmp_ne C 85 dX6_tied_58 (by decide) (fun _ => ?_) (fun _ => ?_)
      · exact VJ.vret C hret rfl rfl dX6_tied_85
      · refine VJ.aload_n C 0 dX6_tied_61 rfl ?_
        refine VJ.get (C0 := RX6) (T := TX6) (N := 38) (ci := 6) C in_X6_tied_X6 0 rfl rfl 22 (Nat.le_of_ble_eq_true rfl) (C.1.2.2.2.2 _ (List.mem_of_getElem? (i := 3) rfl)) (fun _ h9 => h9) (v := .ref (ad 15)) rfl dX6_tied_62 ?_
        refine VJ.iload_n C 3 dX6_tied_65 rfl ?_
        refine VJ.iald C 16 0 rfl rfl dX6_tied_66 ?_
        refine VJ.iconst (v := (-1)) C dX6_tied_67 (by decide) ?_
        refine VJ.icmp_ne C 85 dX6_tied_68 (by decide) (fun _ => ?_) (fun _ => ?_)
        · exact VJ.vret C hret rfl rfl dX6_tied_85
        · refine VJ.aload_n C 0 dX6_tied_71 rfl ?_
          refine VJ.get (C0 := RX6) (T := TX6) (N := 38) (ci := 6) C in_X6_tied_X6 0 rfl rfl 22 (Nat.le_of_ble_eq_true rfl) (C.1.2.2.2.2 _ (List.mem_of_getElem? (i := 3) rfl)) (fun _ h9 => h9) (v := .ref (ad 15)) rfl dX6_tied_72 ?_
          refine VJ.iload_n C 2 dX6_tied_75 rfl ?_
          refine VJ.iload_n C 3 dX6_tied_76 rfl ?_
          refine VJ.iastR C 16 0 R 15 (fun R1 => pf [mW cI cZ o ad I R1]) rfl rfl (fun _ => rfl) dX6_tied_77 (fun R1 => ?_)
          refine VJ.aload_n C 0 dX6_tied_78 rfl ?_
          refine VJ.get (C0 := RX6) (T := TX6) (N := 38) (ci := 6) C in_X6_tied_X6 0 rfl rfl 22 (Nat.le_of_ble_eq_true rfl) (C.1.2.2.2.2 _ (List.mem_of_getElem? (i := 3) rfl)) (fun _ h9 => h9) (v := .ref (ad 15)) rfl dX6_tied_79 ?_
          refine VJ.iload_n C 3 dX6_tied_82 rfl ?_
          refine VJ.iload_n C 2 dX6_tied_83 rfl ?_
          refine VJ.iastR C 16 0 R1 15 (fun R2 => pf [mW cI cZ o ad I R2]) rfl rfl (fun _ => rfl) dX6_tied_84 (fun R2 => ?_)
          exact VJ.vret C hret rfl rfl dX6_tied_85
  unfold f_X6_tied
  refine VJ.iload_n C 1 dX6_tied_0 rfl ?_
  refine VJ.bipush (v := 6) C dX6_tied_1 (by decide) ?_
  refine VJ.icmp_ne C 23 dX6_tied_3 (by decide) (fun _ => ?_) (fun _ => ?_)
  · refine VJ.iload_n C 1 dX6_tied_23 rfl ?_
    refine VJ.iconst (v := 4) C dX6_tied_24 (by decide) ?_
    refine VJ.icmp_ne C 46 dX6_tied_25 (by decide) (fun _ => ?_) (fun _ => ?_)
    · exact j46 R x1 x2 x3
    · refine VJ.aload_n C 0 dX6_tied_28 rfl ?_
      refine VJ.get (C0 := RX6) (T := TX6) (N := 38) (ci := 6) C in_X6_tied_X6 0 rfl rfl 22 (Nat.le_of_ble_eq_true rfl) (C.1.2.2.2.2 _ (List.mem_of_getElem? (i := 3) rfl)) (fun _ h9 => h9) (v := .ref (ad 15)) rfl dX6_tied_29 ?_
      refine VJ.iload_n C 2 dX6_tied_32 rfl ?_
      refine VJ.iald C 16 0 rfl rfl dX6_tied_33 ?_
      refine VJ.iload_n C 3 dX6_tied_34 rfl ?_
      refine VJ.icmp_ne C 46 dX6_tied_35 (by decide) (fun _ => ?_) (fun _ => ?_)
      · exact j46 R x1 x2 x3
      · refine VJ.aload_n C 0 dX6_tied_38 rfl ?_
        refine VJ.iload_n C 2 dX6_tied_39 rfl ?_
        refine VJ.callV1 C [.int x2] (pf [mW cI cZ o ad I R]) ([]) (fun R3 => none) (fun R3 => pf [mW cI cZ o ad I R3]) (fun R3 => pf [mW cI cZ o ad I R3]) (fun R3 => []) 0 0 (fun _ h9 => c_X6_part l G cI cZ cQ cU cJ o ad I R x2 _ h9) (vj_p0 _) (fun _ => vj_p0' _) 0 rfl rfl (cwV 1 C.1.2.2.2.2 gX6_tied_X6_part rfl rfl rfl hyV_X6_part ⟨Nat.le_of_ble_eq_true rfl, Nat.le_of_ble_eq_true rfl⟩) rfl rfl (fun _ => rfl) (Nat.le_of_ble_eq_true rfl) dX6_tied_40 ⟨Nat.le_of_ble_eq_true rfl, Nat.le_of_ble_eq_true rfl⟩ ⟨rfl, rfl⟩ (fun R3 => ?_)
        refine VJ.goto C 85 dX6_tied_43 (by decide) ?_
        exact VJ.vret C hret rfl rfl dX6_tied_85
  · refine VJ.aload_n C 0 dX6_tied_6 rfl ?_
    refine VJ.get (C0 := RX6) (T := TX6) (N := 38) (ci := 6) C in_X6_tied_X6 0 rfl rfl 23 (Nat.le_of_ble_eq_true rfl) (C.1.2.2.2.2 _ (List.mem_of_getElem? (i := 1) rfl)) (fun _ h9 => h9) (v := .ref (ad 16)) rfl dX6_tied_7 ?_
    refine VJ.iload_n C 2 dX6_tied_10 rfl ?_
    refine VJ.iload_n C 3 dX6_tied_11 rfl ?_
    refine VJ.iastR C 17 0 R 16 (fun R4 => pf [mW cI cZ o ad I R4]) rfl rfl (fun _ => rfl) dX6_tied_12 (fun R4 => ?_)
    refine VJ.aload_n C 0 dX6_tied_13 rfl ?_
    refine VJ.get (C0 := RX6) (T := TX6) (N := 38) (ci := 6) C in_X6_tied_X6 0 rfl rfl 26 (Nat.le_of_ble_eq_true rfl) (C.1.2.2.2.2 _ (List.mem_of_getElem? (i := 2) rfl)) (fun _ h9 => h9) (v := .ref (ad 19)) rfl dX6_tied_14 ?_
    refine VJ.iload_n C 2 dX6_tied_17 rfl ?_
    refine VJ.iconst (v := 1) C dX6_tied_18 (by decide) ?_
    refine VJ.zastR C 20 1 R4 19 (fun R5 => pf [mW cI cZ o ad I R5]) rfl rfl (fun _ => rfl) dX6_tied_19 (fun R5 => ?_)
    refine VJ.goto C 85 dX6_tied_20 (by decide) ?_
    exact VJ.vret C hret rfl rfl dX6_tied_85

set_option maxHeartbeats 4000000 in
set_option maxRecDepth 100000 in
def f_X6_count_j188 (I : OI) (R : RI) (y0 : Int32) (y1 : Int32) : Option RI :=
  og y1 24 (ol (va_up R 14 (upd (R 14) y1.toNatClampNeg y0)) (fun R6 => some R6))
set_option maxHeartbeats 4000000 in
set_option maxRecDepth 100000 in
def f_X6_count_j157 (I : OI) (R : RI) (x1 : Int32) (x2 : Int32) (y0 : Int32) (y1 : Int32) : Option RI :=
  og y1 24 (ol (va_up R 13 (upd (R 13) y1.toNatClampNeg y0)) (fun R5 => og x1 150 (if (R5 0 x1.toNatClampNeg) = 2 then (og x1 150 (f_X6_count_j188 I R5 (R5 6 x1.toNatClampNeg) x2)) else (og x2 24 (f_X6_count_j188 I R5 (R5 14 x2.toNatClampNeg) x2)))))
set_option maxHeartbeats 4000000 in
set_option maxRecDepth 100000 in
def f_X6_count_j91 (I : OI) (R : RI) (x2 : Int32) (y0 : Int32) (y1 : Int32) : Option RI :=
  og y1 24 (ol (va_up R 16 (upd (R 16) y1.toNatClampNeg y0)) (fun R11 => og x2 24 (og x2 24 (ol (va_up R11 18 (upd (R11 18) x2.toNatClampNeg (R11 16 x2.toNatClampNeg))) (fun R12 => some R12)))))
def f_X6_count (I : OI) (R : RI) (x1 : Int32) (x2 : Int32) (x3 : Int32) : Option RI :=
  og x1 150 (if (R 0 x1.toNatClampNeg) = 0 then (og x2 24 (if (R 12 x2.toNatClampNeg) = 0 then (og x2 24 (ol (va_up R 12 (upd (R 12) x2.toNatClampNeg 1)) (fun R7 => og x1 150 (og x2 24 (ol (va_up R7 13 (upd (R7 13) x2.toNatClampNeg (R7 5 x1.toNatClampNeg))) (fun R8 => og x1 150 (og x2 24 (ol (va_up R8 14 (upd (R8 14) x2.toNatClampNeg (R8 6 x1.toNatClampNeg))) (fun R9 => og x1 150 (og x2 24 (ol (va_up R9 17 (upd (R9 17) x2.toNatClampNeg (R9 2 x1.toNatClampNeg))) (fun R10 => if x3 = (-1) then (f_X6_count_j91 I R10 x2 (-1) x2) else (if x3 = x2 then (f_X6_count_j91 I R10 x2 (-1) x2) else (og x3 24 (if (R10 12 x3.toNatClampNeg) = 1 then (f_X6_count_j91 I R10 x2 x3 x2) else (f_X6_count_j91 I R10 x2 (-1) x2)))))))))))))))) else (some R))) else (og x2 24 (if (R 12 x2.toNatClampNeg) = 1 then (og x1 150 (if 3 ≤ (R 0 x1.toNatClampNeg) then (og x1 150 (if (R 0 x1.toNatClampNeg) = 5 then (ob1 (f_X6_part I R x2) (fun R2 => og x2 24 (ol (va_up R2 12 (upd (R2 12) x2.toNatClampNeg 2)) (fun R3 => og x2 24 (ol (va_up R3 13 (upd (R3 13) x2.toNatClampNeg (-1))) (fun R4 => some R4)))))) else (og x3 24 (if (R 12 x3.toNatClampNeg) = 1 then (if x2 = x3 then (some R) else (og x1 150 (ob1 (f_X6_tied I R (R 0 x1.toNatClampNeg) x2 x3) (fun R1 => some R1)))) else (some R))))) else (og x1 150 (if (R 0 x1.toNatClampNeg) = 1 then (og x1 150 (f_X6_count_j157 I R x1 x2 (R 5 x1.toNatClampNeg) x2)) else (og x2 24 (f_X6_count_j157 I R x1 x2 (R 13 x2.toNatClampNeg) x2)))))) else (some R))))
abbrev rmX6_count : Room := { frames := 2, cells := 0, slots := 0, locals := 44 }
theorem in_X6_count_X6 : ∀ w ∈ u_ws RX6 TX6 38, w ∈ wsX6_count := in_of 22 rfl
theorem hy_X6_count : yX6_count.cls ≠ "java/lang/invoke/MethodHandle" ∧ yX6_count.cls ≠ "java/lang/invoke/VarHandle" ∧ (parseMethodDescriptor yX6_count.desc).map (fun d => d.parameters.length) = some 3 := by decide +kernel
theorem hyV_X6_count : yX6_count.cls = RX6 ∧ yX6_count.cls ≠ "java/lang/invoke/MethodHandle" ∧ yX6_count.cls ≠ "java/lang/invoke/VarHandle" ∧ (parseMethodDescriptor yX6_count.desc).map (fun d => d.parameters.length) = some 3 := ⟨rfl, hy_X6_count⟩
set_option maxHeartbeats 8000000 in
set_option maxRecDepth 100000 in
theorem c_X6_count (l : Launch) (G : va_G) (cI cZ cQ cU cJ : ClassId) (o : Nat) (ad : Nat → Nat) (I : OI) (R : RI) (x1 : Int32) (x2 : Int32) (x3 : Int32) (out : RI) (hf : f_X6_count I R x1 x2 x3 = some out) : Con l yX6_count wsX6_count rmX6_count G vwCl (tys cI cZ cQ cU cJ) nws [.ref o, .int x1, .int x2, .int x3] (pf [mW cI cZ o ad I R]) (none) (pf [mW cI cZ o ad I out]) := by
  refine con_of (rv := fun out : RI => none) (Wd := fun out : RI => pf [mW cI cZ o ad I out]) (maxL := 4) (own := RX6) rfl (plainFor_of_name (by decide +kernel)) rfl (Nat.le_of_ble_eq_true rfl) ?_ hf
  intro p e s m args below meth c A C hret hname
  have j188 : ∀ (R : RI) (y0 : Int32) (y1 : Int32), VJ p l e rmX6_count s m args below meth c 4 G vwCl A (QR below G vwCl A args s rmX6_count.cells rmX6_count.slots (fun out : RI => none) (fun out : RI => pf [mW cI cZ o ad I out])) 0 0 (f_X6_count_j188 I  R y0 y1) (pf [mW cI cZ o ad I R]) 188 [] [.int y0, .int y1, .ref (ad 14)] := by
    intro  R y0 y1
    unfold f_X6_count_j188
    refine VJ.iastR C 15 0 R 14 (fun R6 => pf [mW cI cZ o ad I R6]) rfl rfl (fun _ => rfl) dX6_count_188 (fun R6 => ?_)
    refine VJ.goto C 251 dX6_count_189 (by decide) ?_
    exact VJ.vret C hret rfl rfl dX6_count_251
  have j157 : ∀ (R : RI) (x1 : Int32) (x2 : Int32) (y0 : Int32) (y1 : Int32), VJ p l e rmX6_count s m args below meth c 4 G vwCl A (QR below G vwCl A args s rmX6_count.cells rmX6_count.slots (fun out : RI => none) (fun out : RI => pf [mW cI cZ o ad I out])) 0 0 (f_X6_count_j157 I  R x1 x2 y0 y1) (pf [mW cI cZ o ad I R]) 157 [(0, .ref o), (1, .int x1), (2, .int x2)] [.int y0, .int y1, .ref (ad 13)] := by
    intro  R x1 x2 y0 y1
    unfold f_X6_count_j157
    refine VJ.iastR C 14 0 R 13 (fun R5 => pf [mW cI cZ o ad I R5]) rfl rfl (fun _ => rfl) dX6_count_157 (fun R5 => ?_)
    refine VJ.aload_n C 0 dX6_count_158 rfl ?_
    refine VJ.get (C0 := RX6) (T := TX6) (N := 38) (ci := 6) C in_X6_count_X6 0 rfl rfl 21 (Nat.le_of_ble_eq_true rfl) (C.1.2.2.2.2 _ (List.mem_of_getElem? (i := 5) rfl)) (fun _ h9 => h9) (v := .ref (ad 14)) rfl dX6_count_159 ?_
    refine VJ.iload_n C 2 dX6_count_162 rfl ?_
    refine VJ.aload_n C 0 dX6_count_163 rfl ?_
    refine VJ.get (C0 := RX6) (T := TX6) (N := 38) (ci := 6) C in_X6_count_X6 0 rfl rfl 3 (Nat.le_of_ble_eq_true rfl) (C.1.2.2.2.2 _ (List.mem_of_getElem? (i := 1) rfl)) (fun _ h9 => h9) (v := .ref (ad 0)) rfl dX6_count_164 ?_
    refine VJ.iload_n C 1 dX6_count_167 rfl ?_
    refine VJ.iald C 1 0 rfl rfl dX6_count_168 ?_
    refine VJ.iconst (v := 2) C dX6_count_169 (by decide) ?_
    refine VJ.icmp_ne C 182 dX6_count_170 (by decide) (fun _ => ?_) (fun _ => ?_)
    · refine VJ.aload_n C 0 dX6_count_182 rfl ?_
      refine VJ.get (C0 := RX6) (T := TX6) (N := 38) (ci := 6) C in_X6_count_X6 0 rfl rfl 21 (Nat.le_of_ble_eq_true rfl) (C.1.2.2.2.2 _ (List.mem_of_getElem? (i := 5) rfl)) (fun _ h9 => h9) (v := .ref (ad 14)) rfl dX6_count_183 ?_
      refine VJ.iload_n C 2 dX6_count_186 rfl ?_
      refine VJ.iald C 15 0 rfl rfl dX6_count_187 ?_
      refine VJ.sub [] rfl ?_
      exact j188 R5 (R5 14 x2.toNatClampNeg) x2
    · refine VJ.aload_n C 0 dX6_count_173 rfl ?_
      refine VJ.get (C0 := RX6) (T := TX6) (N := 38) (ci := 6) C in_X6_count_X6 0 rfl rfl 9 (Nat.le_of_ble_eq_true rfl) (C.1.2.2.2.2 _ (List.mem_of_getElem? (i := 6) rfl)) (fun _ h9 => h9) (v := .ref (ad 6)) rfl dX6_count_174 ?_
      refine VJ.iload_n C 1 dX6_count_177 rfl ?_
      refine VJ.iald C 7 0 rfl rfl dX6_count_178 ?_
      refine VJ.goto C 188 dX6_count_179 (by decide) ?_
      refine VJ.sub [] rfl ?_
      exact j188 R5 (R5 6 x1.toNatClampNeg) x2
  have j91 : ∀ (R : RI) (x2 : Int32) (y0 : Int32) (y1 : Int32), VJ p l e rmX6_count s m args below meth c 4 G vwCl A (QR below G vwCl A args s rmX6_count.cells rmX6_count.slots (fun out : RI => none) (fun out : RI => pf [mW cI cZ o ad I out])) 0 0 (f_X6_count_j91 I  R x2 y0 y1) (pf [mW cI cZ o ad I R]) 91 [(0, .ref o), (2, .int x2)] [.int y0, .int y1, .ref (ad 16)] := by
    intro  R x2 y0 y1
    unfold f_X6_count_j91
    refine VJ.iastR C 17 0 R 16 (fun R11 => pf [mW cI cZ o ad I R11]) rfl rfl (fun _ => rfl) dX6_count_91 (fun R11 => ?_)
    refine VJ.aload_n C 0 dX6_count_92 rfl ?_
    refine VJ.get (C0 := RX6) (T := TX6) (N := 38) (ci := 6) C in_X6_count_X6 0 rfl rfl 25 (Nat.le_of_ble_eq_true rfl) (C.1.2.2.2.2 _ (List.mem_of_getElem? (i := 10) rfl)) (fun _ h9 => h9) (v := .ref (ad 18)) rfl dX6_count_93 ?_
    refine VJ.iload_n C 1 dX6_count_96 rfl ?_
    refine VJ.aload_n C 0 dX6_count_97 rfl ?_
    refine VJ.get (C0 := RX6) (T := TX6) (N := 38) (ci := 6) C in_X6_count_X6 0 rfl rfl 23 (Nat.le_of_ble_eq_true rfl) (C.1.2.2.2.2 _ (List.mem_of_getElem? (i := 9) rfl)) (fun _ h9 => h9) (v := .ref (ad 16)) rfl dX6_count_98 ?_
    refine VJ.iload_n C 1 dX6_count_101 rfl ?_
    refine VJ.iald C 17 0 rfl rfl dX6_count_102 ?_
    refine VJ.iastR C 19 0 R11 18 (fun R12 => pf [mW cI cZ o ad I R12]) rfl rfl (fun _ => rfl) dX6_count_103 (fun R12 => ?_)
    refine VJ.goto C 251 dX6_count_104 (by decide) ?_
    exact VJ.vret C hret rfl rfl dX6_count_251
  unfold f_X6_count
  refine VJ.aload_n C 0 dX6_count_0 rfl ?_
  refine VJ.get (C0 := RX6) (T := TX6) (N := 38) (ci := 6) C in_X6_count_X6 0 rfl rfl 3 (Nat.le_of_ble_eq_true rfl) (C.1.2.2.2.2 _ (List.mem_of_getElem? (i := 1) rfl)) (fun _ h9 => h9) (v := .ref (ad 0)) rfl dX6_count_1 ?_
  refine VJ.iload_n C 1 dX6_count_4 rfl ?_
  refine VJ.iald C 1 0 rfl rfl dX6_count_5 ?_
  refine VJ.if_ne C 107 dX6_count_6 (by decide) (fun _ => ?_) (fun _ => ?_)
  · refine VJ.aload_n C 0 dX6_count_107 rfl ?_
    refine VJ.get (C0 := RX6) (T := TX6) (N := 38) (ci := 6) C in_X6_count_X6 0 rfl rfl 19 (Nat.le_of_ble_eq_true rfl) (C.1.2.2.2.2 _ (List.mem_of_getElem? (i := 2) rfl)) (fun _ h9 => h9) (v := .ref (ad 12)) rfl dX6_count_108 ?_
    refine VJ.iload_n C 2 dX6_count_111 rfl ?_
    refine VJ.iald C 13 0 rfl rfl dX6_count_112 ?_
    refine VJ.iconst (v := 1) C dX6_count_113 (by decide) ?_
    refine VJ.icmp_ne C 251 dX6_count_114 (by decide) (fun _ => ?_) (fun _ => ?_)
    · exact VJ.vret C hret rfl rfl dX6_count_251
    · refine VJ.aload_n C 0 dX6_count_117 rfl ?_
      refine VJ.get (C0 := RX6) (T := TX6) (N := 38) (ci := 6) C in_X6_count_X6 0 rfl rfl 3 (Nat.le_of_ble_eq_true rfl) (C.1.2.2.2.2 _ (List.mem_of_getElem? (i := 1) rfl)) (fun _ h9 => h9) (v := .ref (ad 0)) rfl dX6_count_118 ?_
      refine VJ.iload_n C 1 dX6_count_121 rfl ?_
      refine VJ.iald C 1 0 rfl rfl dX6_count_122 ?_
      refine VJ.iconst (v := 3) C dX6_count_123 (by decide) ?_
      refine VJ.icmp_ge C 192 dX6_count_124 (by decide) (fun _ => ?_) (fun _ => ?_)
      · refine VJ.aload_n C 0 dX6_count_192 rfl ?_
        refine VJ.get (C0 := RX6) (T := TX6) (N := 38) (ci := 6) C in_X6_count_X6 0 rfl rfl 3 (Nat.le_of_ble_eq_true rfl) (C.1.2.2.2.2 _ (List.mem_of_getElem? (i := 1) rfl)) (fun _ h9 => h9) (v := .ref (ad 0)) rfl dX6_count_193 ?_
        refine VJ.iload_n C 1 dX6_count_196 rfl ?_
        refine VJ.iald C 1 0 rfl rfl dX6_count_197 ?_
        refine VJ.iconst (v := 5) C dX6_count_198 (by decide) ?_
        refine VJ.icmp_ne C 224 dX6_count_199 (by decide) (fun _ => ?_) (fun _ => ?_)
        · refine VJ.aload_n C 0 dX6_count_224 rfl ?_
          refine VJ.get (C0 := RX6) (T := TX6) (N := 38) (ci := 6) C in_X6_count_X6 0 rfl rfl 19 (Nat.le_of_ble_eq_true rfl) (C.1.2.2.2.2 _ (List.mem_of_getElem? (i := 2) rfl)) (fun _ h9 => h9) (v := .ref (ad 12)) rfl dX6_count_225 ?_
          refine VJ.iload_n C 3 dX6_count_228 rfl ?_
          refine VJ.iald C 13 0 rfl rfl dX6_count_229 ?_
          refine VJ.iconst (v := 1) C dX6_count_230 (by decide) ?_
          refine VJ.icmp_ne C 251 dX6_count_231 (by decide) (fun _ => ?_) (fun _ => ?_)
          · exact VJ.vret C hret rfl rfl dX6_count_251
          · refine VJ.iload_n C 2 dX6_count_234 rfl ?_
            refine VJ.iload_n C 3 dX6_count_235 rfl ?_
            refine VJ.icmp_eq C 251 dX6_count_236 (by decide) (fun _ => ?_) (fun _ => ?_)
            · exact VJ.vret C hret rfl rfl dX6_count_251
            · refine VJ.aload_n C 0 dX6_count_239 rfl ?_
              refine VJ.aload_n C 0 dX6_count_240 rfl ?_
              refine VJ.get (C0 := RX6) (T := TX6) (N := 38) (ci := 6) C in_X6_count_X6 0 rfl rfl 3 (Nat.le_of_ble_eq_true rfl) (C.1.2.2.2.2 _ (List.mem_of_getElem? (i := 1) rfl)) (fun _ h9 => h9) (v := .ref (ad 0)) rfl dX6_count_241 ?_
              refine VJ.iload_n C 1 dX6_count_244 rfl ?_
              refine VJ.iald C 1 0 rfl rfl dX6_count_245 ?_
              refine VJ.iload_n C 2 dX6_count_246 rfl ?_
              refine VJ.iload_n C 3 dX6_count_247 rfl ?_
              refine VJ.callV1 C [.int (R 0 x1.toNatClampNeg), .int x2, .int x3] (pf [mW cI cZ o ad I R]) ([]) (fun R1 => none) (fun R1 => pf [mW cI cZ o ad I R1]) (fun R1 => pf [mW cI cZ o ad I R1]) (fun R1 => []) 0 0 (fun _ h9 => c_X6_tied l G cI cZ cQ cU cJ o ad I R (R 0 x1.toNatClampNeg) x2 x3 _ h9) (vj_p0 _) (fun _ => vj_p0' _) 0 rfl rfl (cwV 3 C.1.2.2.2.2 gX6_count_X6_tied rfl rfl rfl hyV_X6_tied ⟨Nat.le_of_ble_eq_true rfl, Nat.le_of_ble_eq_true rfl⟩) rfl rfl (fun _ => rfl) (Nat.le_of_ble_eq_true rfl) dX6_count_248 ⟨Nat.le_of_ble_eq_true rfl, Nat.le_of_ble_eq_true rfl⟩ ⟨rfl, rfl⟩ (fun R1 => ?_)
              exact VJ.vret C hret rfl rfl dX6_count_251
        · refine VJ.aload_n C 0 dX6_count_202 rfl ?_
          refine VJ.iload_n C 2 dX6_count_203 rfl ?_
          refine VJ.callV1 C [.int x2] (pf [mW cI cZ o ad I R]) ([]) (fun R2 => none) (fun R2 => pf [mW cI cZ o ad I R2]) (fun R2 => pf [mW cI cZ o ad I R2]) (fun R2 => []) 0 0 (fun _ h9 => c_X6_part l G cI cZ cQ cU cJ o ad I R x2 _ h9) (vj_p0 _) (fun _ => vj_p0' _) 0 rfl rfl (cwV 1 C.1.2.2.2.2 gX6_count_X6_part rfl rfl rfl hyV_X6_part ⟨Nat.le_of_ble_eq_true rfl, Nat.le_of_ble_eq_true rfl⟩) rfl rfl (fun _ => rfl) (Nat.le_of_ble_eq_true rfl) dX6_count_204 ⟨Nat.le_of_ble_eq_true rfl, Nat.le_of_ble_eq_true rfl⟩ ⟨rfl, rfl⟩ (fun R2 => ?_)
          refine VJ.aload_n C 0 dX6_count_207 rfl ?_
          refine VJ.get (C0 := RX6) (T := TX6) (N := 38) (ci := 6) C in_X6_count_X6 0 rfl rfl 19 (Nat.le_of_ble_eq_true rfl) (C.1.2.2.2.2 _ (List.mem_of_getElem? (i := 2) rfl)) (fun _ h9 => h9) (v := .ref (ad 12)) rfl dX6_count_208 ?_
          refine VJ.iload_n C 2 dX6_count_211 rfl ?_
          refine VJ.iconst (v := 2) C dX6_count_212 (by decide) ?_
          refine VJ.iastR C 13 0 R2 12 (fun R3 => pf [mW cI cZ o ad I R3]) rfl rfl (fun _ => rfl) dX6_count_213 (fun R3 => ?_)
          refine VJ.aload_n C 0 dX6_count_214 rfl ?_
          refine VJ.get (C0 := RX6) (T := TX6) (N := 38) (ci := 6) C in_X6_count_X6 0 rfl rfl 20 (Nat.le_of_ble_eq_true rfl) (C.1.2.2.2.2 _ (List.mem_of_getElem? (i := 3) rfl)) (fun _ h9 => h9) (v := .ref (ad 13)) rfl dX6_count_215 ?_
          refine VJ.iload_n C 2 dX6_count_218 rfl ?_
          refine VJ.iconst (v := (-1)) C dX6_count_219 (by decide) ?_
          refine VJ.iastR C 14 0 R3 13 (fun R4 => pf [mW cI cZ o ad I R4]) rfl rfl (fun _ => rfl) dX6_count_220 (fun R4 => ?_)
          refine VJ.goto C 251 dX6_count_221 (by decide) ?_
          exact VJ.vret C hret rfl rfl dX6_count_251
      · refine VJ.aload_n C 0 dX6_count_127 rfl ?_
        refine VJ.get (C0 := RX6) (T := TX6) (N := 38) (ci := 6) C in_X6_count_X6 0 rfl rfl 20 (Nat.le_of_ble_eq_true rfl) (C.1.2.2.2.2 _ (List.mem_of_getElem? (i := 3) rfl)) (fun _ h9 => h9) (v := .ref (ad 13)) rfl dX6_count_128 ?_
        refine VJ.iload_n C 2 dX6_count_131 rfl ?_
        refine VJ.aload_n C 0 dX6_count_132 rfl ?_
        refine VJ.get (C0 := RX6) (T := TX6) (N := 38) (ci := 6) C in_X6_count_X6 0 rfl rfl 3 (Nat.le_of_ble_eq_true rfl) (C.1.2.2.2.2 _ (List.mem_of_getElem? (i := 1) rfl)) (fun _ h9 => h9) (v := .ref (ad 0)) rfl dX6_count_133 ?_
        refine VJ.iload_n C 1 dX6_count_136 rfl ?_
        refine VJ.iald C 1 0 rfl rfl dX6_count_137 ?_
        refine VJ.iconst (v := 1) C dX6_count_138 (by decide) ?_
        refine VJ.icmp_ne C 151 dX6_count_139 (by decide) (fun _ => ?_) (fun _ => ?_)
        · refine VJ.aload_n C 0 dX6_count_151 rfl ?_
          refine VJ.get (C0 := RX6) (T := TX6) (N := 38) (ci := 6) C in_X6_count_X6 0 rfl rfl 20 (Nat.le_of_ble_eq_true rfl) (C.1.2.2.2.2 _ (List.mem_of_getElem? (i := 3) rfl)) (fun _ h9 => h9) (v := .ref (ad 13)) rfl dX6_count_152 ?_
          refine VJ.iload_n C 2 dX6_count_155 rfl ?_
          refine VJ.iald C 14 0 rfl rfl dX6_count_156 ?_
          refine VJ.sub [0, 1, 2] rfl ?_
          exact j157 R x1 x2 (R 13 x2.toNatClampNeg) x2
        · refine VJ.aload_n C 0 dX6_count_142 rfl ?_
          refine VJ.get (C0 := RX6) (T := TX6) (N := 38) (ci := 6) C in_X6_count_X6 0 rfl rfl 8 (Nat.le_of_ble_eq_true rfl) (C.1.2.2.2.2 _ (List.mem_of_getElem? (i := 4) rfl)) (fun _ h9 => h9) (v := .ref (ad 5)) rfl dX6_count_143 ?_
          refine VJ.iload_n C 1 dX6_count_146 rfl ?_
          refine VJ.iald C 6 0 rfl rfl dX6_count_147 ?_
          refine VJ.goto C 157 dX6_count_148 (by decide) ?_
          refine VJ.sub [0, 1, 2] rfl ?_
          exact j157 R x1 x2 (R 5 x1.toNatClampNeg) x2
  · refine VJ.aload_n C 0 dX6_count_9 rfl ?_
    refine VJ.get (C0 := RX6) (T := TX6) (N := 38) (ci := 6) C in_X6_count_X6 0 rfl rfl 19 (Nat.le_of_ble_eq_true rfl) (C.1.2.2.2.2 _ (List.mem_of_getElem? (i := 2) rfl)) (fun _ h9 => h9) (v := .ref (ad 12)) rfl dX6_count_10 ?_
    refine VJ.iload_n C 2 dX6_count_13 rfl ?_
    refine VJ.iald C 13 0 rfl rfl dX6_count_14 ?_
    refine VJ.if_ne C 251 dX6_count_15 (by decide) (fun _ => ?_) (fun _ => ?_)
    · exact VJ.vret C hret rfl rfl dX6_count_251
    · refine VJ.aload_n C 0 dX6_count_18 rfl ?_
      refine VJ.get (C0 := RX6) (T := TX6) (N := 38) (ci := 6) C in_X6_count_X6 0 rfl rfl 19 (Nat.le_of_ble_eq_true rfl) (C.1.2.2.2.2 _ (List.mem_of_getElem? (i := 2) rfl)) (fun _ h9 => h9) (v := .ref (ad 12)) rfl dX6_count_19 ?_
      refine VJ.iload_n C 2 dX6_count_22 rfl ?_
      refine VJ.iconst (v := 1) C dX6_count_23 (by decide) ?_
      refine VJ.iastR C 13 0 R 12 (fun R7 => pf [mW cI cZ o ad I R7]) rfl rfl (fun _ => rfl) dX6_count_24 (fun R7 => ?_)
      refine VJ.aload_n C 0 dX6_count_25 rfl ?_
      refine VJ.get (C0 := RX6) (T := TX6) (N := 38) (ci := 6) C in_X6_count_X6 0 rfl rfl 20 (Nat.le_of_ble_eq_true rfl) (C.1.2.2.2.2 _ (List.mem_of_getElem? (i := 3) rfl)) (fun _ h9 => h9) (v := .ref (ad 13)) rfl dX6_count_26 ?_
      refine VJ.iload_n C 2 dX6_count_29 rfl ?_
      refine VJ.aload_n C 0 dX6_count_30 rfl ?_
      refine VJ.get (C0 := RX6) (T := TX6) (N := 38) (ci := 6) C in_X6_count_X6 0 rfl rfl 8 (Nat.le_of_ble_eq_true rfl) (C.1.2.2.2.2 _ (List.mem_of_getElem? (i := 4) rfl)) (fun _ h9 => h9) (v := .ref (ad 5)) rfl dX6_count_31 ?_
      refine VJ.iload_n C 1 dX6_count_34 rfl ?_
      refine VJ.iald C 6 0 rfl rfl dX6_count_35 ?_
      refine VJ.iastR C 14 0 R7 13 (fun R8 => pf [mW cI cZ o ad I R8]) rfl rfl (fun _ => rfl) dX6_count_36 (fun R8 => ?_)
      refine VJ.aload_n C 0 dX6_count_37 rfl ?_
      refine VJ.get (C0 := RX6) (T := TX6) (N := 38) (ci := 6) C in_X6_count_X6 0 rfl rfl 21 (Nat.le_of_ble_eq_true rfl) (C.1.2.2.2.2 _ (List.mem_of_getElem? (i := 5) rfl)) (fun _ h9 => h9) (v := .ref (ad 14)) rfl dX6_count_38 ?_
      refine VJ.iload_n C 2 dX6_count_41 rfl ?_
      refine VJ.aload_n C 0 dX6_count_42 rfl ?_
      refine VJ.get (C0 := RX6) (T := TX6) (N := 38) (ci := 6) C in_X6_count_X6 0 rfl rfl 9 (Nat.le_of_ble_eq_true rfl) (C.1.2.2.2.2 _ (List.mem_of_getElem? (i := 6) rfl)) (fun _ h9 => h9) (v := .ref (ad 6)) rfl dX6_count_43 ?_
      refine VJ.iload_n C 1 dX6_count_46 rfl ?_
      refine VJ.iald C 7 0 rfl rfl dX6_count_47 ?_
      refine VJ.iastR C 15 0 R8 14 (fun R9 => pf [mW cI cZ o ad I R9]) rfl rfl (fun _ => rfl) dX6_count_48 (fun R9 => ?_)
      refine VJ.aload_n C 0 dX6_count_49 rfl ?_
      refine VJ.get (C0 := RX6) (T := TX6) (N := 38) (ci := 6) C in_X6_count_X6 0 rfl rfl 24 (Nat.le_of_ble_eq_true rfl) (C.1.2.2.2.2 _ (List.mem_of_getElem? (i := 7) rfl)) (fun _ h9 => h9) (v := .ref (ad 17)) rfl dX6_count_50 ?_
      refine VJ.iload_n C 2 dX6_count_53 rfl ?_
      refine VJ.aload_n C 0 dX6_count_54 rfl ?_
      refine VJ.get (C0 := RX6) (T := TX6) (N := 38) (ci := 6) C in_X6_count_X6 0 rfl rfl 5 (Nat.le_of_ble_eq_true rfl) (C.1.2.2.2.2 _ (List.mem_of_getElem? (i := 8) rfl)) (fun _ h9 => h9) (v := .ref (ad 2)) rfl dX6_count_55 ?_
      refine VJ.iload_n C 1 dX6_count_58 rfl ?_
      refine VJ.iald C 3 0 rfl rfl dX6_count_59 ?_
      refine VJ.iastR C 18 0 R9 17 (fun R10 => pf [mW cI cZ o ad I R10]) rfl rfl (fun _ => rfl) dX6_count_60 (fun R10 => ?_)
      refine VJ.aload_n C 0 dX6_count_61 rfl ?_
      refine VJ.get (C0 := RX6) (T := TX6) (N := 38) (ci := 6) C in_X6_count_X6 0 rfl rfl 23 (Nat.le_of_ble_eq_true rfl) (C.1.2.2.2.2 _ (List.mem_of_getElem? (i := 9) rfl)) (fun _ h9 => h9) (v := .ref (ad 16)) rfl dX6_count_62 ?_
      refine VJ.iload_n C 2 dX6_count_65 rfl ?_
      refine VJ.iload_n C 3 dX6_count_66 rfl ?_
      refine VJ.iconst (v := (-1)) C dX6_count_67 (by decide) ?_
      refine VJ.icmp_eq C 90 dX6_count_68 (by decide) (fun _ => ?_) (fun _ => ?_)
      · refine VJ.iconst (v := (-1)) C dX6_count_90 (by decide) ?_
        refine VJ.sub [0, 2] rfl ?_
        exact j91 R10 x2 (-1) x2
      · refine VJ.iload_n C 3 dX6_count_71 rfl ?_
        refine VJ.iload_n C 2 dX6_count_72 rfl ?_
        refine VJ.icmp_eq C 90 dX6_count_73 (by decide) (fun _ => ?_) (fun _ => ?_)
        · refine VJ.iconst (v := (-1)) C dX6_count_90 (by decide) ?_
          refine VJ.sub [0, 2] rfl ?_
          exact j91 R10 x2 (-1) x2
        · refine VJ.aload_n C 0 dX6_count_76 rfl ?_
          refine VJ.get (C0 := RX6) (T := TX6) (N := 38) (ci := 6) C in_X6_count_X6 0 rfl rfl 19 (Nat.le_of_ble_eq_true rfl) (C.1.2.2.2.2 _ (List.mem_of_getElem? (i := 2) rfl)) (fun _ h9 => h9) (v := .ref (ad 12)) rfl dX6_count_77 ?_
          refine VJ.iload_n C 3 dX6_count_80 rfl ?_
          refine VJ.iald C 13 0 rfl rfl dX6_count_81 ?_
          refine VJ.iconst (v := 1) C dX6_count_82 (by decide) ?_
          refine VJ.icmp_ne C 90 dX6_count_83 (by decide) (fun _ => ?_) (fun _ => ?_)
          · refine VJ.iconst (v := (-1)) C dX6_count_90 (by decide) ?_
            refine VJ.sub [0, 2] rfl ?_
            exact j91 R10 x2 (-1) x2
          · refine VJ.iload_n C 3 dX6_count_86 rfl ?_
            refine VJ.goto C 91 dX6_count_87 (by decide) ?_
            refine VJ.sub [0, 2] rfl ?_
            exact j91 R10 x2 x3 x2

set_option maxHeartbeats 4000000 in
set_option maxRecDepth 100000 in
def f_X6_goThrough_j238 (N : Nat) (I : OI) (k205 : RI → Int32 → Option RI) (R : RI) (x3 : Int32) (y0 : Int32) (y1 : Int32) : Option RI :=
  og y1 24 (ol (va_up R 12 (upd (R 12) y1.toNatClampNeg y0)) (fun R1 => ol (x3 + Int32.ofInt 1) (fun v2 => k205 R1 v2)))
set_option maxHeartbeats 4000000 in
set_option maxRecDepth 100000 in
def f_X6_goThrough_l205b (N : Nat) (I : OI) (k205 : RI → Int32 → Option RI) (R : RI) (x3 : Int32) : Option RI :=
  if (I 4) ≤ x3 then (some R) else (og x3 24 (if (R 11 x3.toNatClampNeg) = (-1) then (og x3 24 (f_X6_goThrough_j238 N I k205 R x3 (R 12 x3.toNatClampNeg) x3)) else (f_X6_goThrough_j238 N I k205 R x3 3 x3)))
set_option maxHeartbeats 4000000 in
set_option maxRecDepth 100000 in
def f_X6_goThrough_l205 (N : Nat) (I : OI) : Nat → RI → Int32 → Option RI
  | 0 => fun _ _ => none
  | n9 + 1 => f_X6_goThrough_l205b N I (f_X6_goThrough_l205 N I n9)
set_option maxHeartbeats 4000000 in
set_option maxRecDepth 100000 in
def f_X6_goThrough_l132b (N : Nat) (I : OI) (k132 : RI → Int32 → Int32 → Int32 → Option RI) (R : RI) (x1 : Int32) (x2 : Int32) (x3 : Int32) : Option RI :=
  if (I 3) ≤ x3 then (f_X6_goThrough_l205 N I N R 0) else (og x3 150 (ol (R 8 x3.toNatClampNeg) (fun v3 => og v3 150 (if x1 < (R 2 v3.toNatClampNeg) then (ol (x3 + Int32.ofInt 1) (fun v4 => k132 R x1 x2 v4)) else (ob1 (f_X6_isKnown I R v3 x2) (fun r5 => if r5 = 0 then (ol (x3 + Int32.ofInt 1) (fun v6 => k132 R x1 x2 v6)) else (og v3 150 (ob1 (f_X6_leadsTo N I R (R 3 v3.toNatClampNeg)) (fun r7 => og v3 150 (ob1 (f_X6_leadsTo N I R (R 4 v3.toNatClampNeg)) (fun r8 => ob1 (f_X6_count I R v3 r7 r8) (fun R9 => ol (x3 + Int32.ofInt 1) (fun v10 => k132 R9 x1 x2 v10)))))))))))))
set_option maxHeartbeats 4000000 in
set_option maxRecDepth 100000 in
def f_X6_goThrough_l132 (N : Nat) (I : OI) : Nat → RI → Int32 → Int32 → Int32 → Option RI
  | 0 => fun _ _ _ _ => none
  | n9 + 1 => f_X6_goThrough_l132b N I (f_X6_goThrough_l132 N I n9)
set_option maxHeartbeats 4000000 in
set_option maxRecDepth 100000 in
def f_X6_goThrough_l79b (N : Nat) (I : OI) (k79 : RI → Int32 → Int32 → Int32 → Option RI) (R : RI) (x1 : Int32) (x2 : Int32) (x3 : Int32) : Option RI :=
  if (I 2) ≤ x3 then (f_X6_goThrough_l132 N I N R x1 x2 0) else (og x3 150 (if (R 0 x3.toNatClampNeg) = 7 then (ob1 (f_X6_isKnown I R x3 x2) (fun r12 => if r12 = 0 then (ol (x3 + Int32.ofInt 1) (fun v13 => k79 R x1 x2 v13)) else (og x3 150 (og x3 150 (og (R 4 x3.toNatClampNeg) 24 (ol (va_up R 11 (upd (R 11) (R 4 x3.toNatClampNeg).toNatClampNeg (R 3 x3.toNatClampNeg))) (fun R14 => ol (x3 + Int32.ofInt 1) (fun v15 => k79 R14 x1 x2 v15)))))))) else (ol (x3 + Int32.ofInt 1) (fun v11 => k79 R x1 x2 v11))))
set_option maxHeartbeats 4000000 in
set_option maxRecDepth 100000 in
def f_X6_goThrough_l79 (N : Nat) (I : OI) : Nat → RI → Int32 → Int32 → Int32 → Option RI
  | 0 => fun _ _ _ _ => none
  | n9 + 1 => f_X6_goThrough_l79b N I (f_X6_goThrough_l79 N I n9)
set_option maxHeartbeats 4000000 in
set_option maxRecDepth 100000 in
def f_X6_goThrough_l2b (N : Nat) (I : OI) (k2 : RI → Int32 → Int32 → Int32 → Option RI) (R : RI) (x1 : Int32) (x2 : Int32) (x3 : Int32) : Option RI :=
  if 24 ≤ x3 then (f_X6_goThrough_l79 N I N R x1 x2 0) else (og x3 24 (ol (va_up R 11 (upd (R 11) x3.toNatClampNeg (-1))) (fun R16 => og x3 24 (ol (va_up R16 12 (upd (R16 12) x3.toNatClampNeg 0)) (fun R17 => og x3 24 (ol (va_up R17 13 (upd (R17 13) x3.toNatClampNeg (-1))) (fun R18 => og x3 24 (ol (va_up R18 14 (upd (R18 14) x3.toNatClampNeg (-1))) (fun R19 => og x3 24 (ol (va_up R19 15 (upd (R19 15) x3.toNatClampNeg (-1))) (fun R20 => og x3 24 (ol (va_up R20 16 (upd (R20 16) x3.toNatClampNeg (-1))) (fun R21 => og x3 24 (ol (va_up R21 17 (upd (R21 17) x3.toNatClampNeg (-1))) (fun R22 => og x3 24 (ol (va_up R22 18 (upd (R22 18) x3.toNatClampNeg (-1))) (fun R23 => og x3 24 (ol (va_up R23 19 (upd (R23 19) x3.toNatClampNeg (vp_nar .boolean 0))) (fun R24 => ol (x3 + Int32.ofInt 1) (fun v25 => k2 R24 x1 x2 v25))))))))))))))))))))
set_option maxHeartbeats 4000000 in
set_option maxRecDepth 100000 in
def f_X6_goThrough_l2 (N : Nat) (I : OI) : Nat → RI → Int32 → Int32 → Int32 → Option RI
  | 0 => fun _ _ _ _ => none
  | n9 + 1 => f_X6_goThrough_l2b N I (f_X6_goThrough_l2 N I n9)
def f_X6_goThrough (N : Nat) (I : OI) (R : RI) (x1 : Int32) (x2 : Int32) : Option RI :=
  f_X6_goThrough_l2 N I N R x1 x2 0
abbrev rmX6_goThrough : Room := { frames := 3, cells := 0, slots := 0, locals := 67 }
theorem in_X6_goThrough_X6 : ∀ w ∈ u_ws RX6 TX6 38, w ∈ wsX6_goThrough := in_of 43 rfl
theorem hy_X6_goThrough : yX6_goThrough.cls ≠ "java/lang/invoke/MethodHandle" ∧ yX6_goThrough.cls ≠ "java/lang/invoke/VarHandle" ∧ (parseMethodDescriptor yX6_goThrough.desc).map (fun d => d.parameters.length) = some 2 := by decide +kernel
theorem hyV_X6_goThrough : yX6_goThrough.cls = RX6 ∧ yX6_goThrough.cls ≠ "java/lang/invoke/MethodHandle" ∧ yX6_goThrough.cls ≠ "java/lang/invoke/VarHandle" ∧ (parseMethodDescriptor yX6_goThrough.desc).map (fun d => d.parameters.length) = some 2 := ⟨rfl, hy_X6_goThrough⟩
set_option maxHeartbeats 8000000 in
set_option maxRecDepth 100000 in
theorem c_X6_goThrough (l : Launch) (G : va_G) (cI cZ cQ cU cJ : ClassId) (N : Nat) (o : Nat) (ad : Nat → Nat) (I : OI) (R : RI) (x1 : Int32) (x2 : Int32) (out : RI) (hf : f_X6_goThrough N I R x1 x2 = some out) : Con l yX6_goThrough wsX6_goThrough rmX6_goThrough G vwCl (tys cI cZ cQ cU cJ) nws [.ref o, .int x1, .int x2] (pf [mW cI cZ o ad I R]) (none) (pf [mW cI cZ o ad I out]) := by
  refine con_of (rv := fun out : RI => none) (Wd := fun out : RI => pf [mW cI cZ o ad I out]) (maxL := 5) (own := RX6) rfl (plainFor_of_name (by decide +kernel)) rfl (Nat.le_of_ble_eq_true rfl) ?_ hf
  intro p e s m args below meth c A C hret hname
  have j238 : ∀ (k205 : RI → Int32 → Option RI) (i205 : ∀ (R : RI) (x3 : Int32), VJ p l e rmX6_goThrough s m args below meth c 5 G vwCl A (QR below G vwCl A args s rmX6_goThrough.cells rmX6_goThrough.slots (fun out : RI => none) (fun out : RI => pf [mW cI cZ o ad I out])) 0 0 (k205 R x3) (pf [mW cI cZ o ad I R]) 205 [(0, .ref o), (3, .int x3)] []) (R : RI) (x3 : Int32) (y0 : Int32) (y1 : Int32), VJ p l e rmX6_goThrough s m args below meth c 5 G vwCl A (QR below G vwCl A args s rmX6_goThrough.cells rmX6_goThrough.slots (fun out : RI => none) (fun out : RI => pf [mW cI cZ o ad I out])) 0 0 (f_X6_goThrough_j238 N I k205 R x3 y0 y1) (pf [mW cI cZ o ad I R]) 238 [(0, .ref o), (3, .int x3)] [.int y0, .int y1, .ref (ad 12)] := by
    intro k205 i205 R x3 y0 y1
    unfold f_X6_goThrough_j238
    refine VJ.iastR C 13 0 R 12 (fun R1 => pf [mW cI cZ o ad I R1]) rfl rfl (fun _ => rfl) dX6_goThrough_238 (fun R1 => ?_)
    refine VJ.iincN C 1 (fun v2 => [(3, .int v2), (0, .ref o)]) dX6_goThrough_239 rfl (Nat.le_of_ble_eq_true rfl) (fun _ => rfl) (fun v2 => ?_)
    refine VJ.goto C 205 dX6_goThrough_242 (by decide) ?_
    refine VJ.sub [1, 0] rfl ?_
    exact i205 R1 v2
  have j205 : ∀ (n9 : Nat) (R : RI) (x3 : Int32), VJ p l e rmX6_goThrough s m args below meth c 5 G vwCl A (QR below G vwCl A args s rmX6_goThrough.cells rmX6_goThrough.slots (fun out : RI => none) (fun out : RI => pf [mW cI cZ o ad I out])) 0 0 (f_X6_goThrough_l205 N I  n9 R x3) (pf [mW cI cZ o ad I R]) 205 [(0, .ref o), (3, .int x3)] [] := by
    intro  n9
    induction n9 with
    | zero => intro R x3; exact VJ.fnone rfl
    | succ n9 i205 =>
      intro R x3
      refine VJ.eqf (f' := f_X6_goThrough_l205b N I  (f_X6_goThrough_l205 N I  n9) R x3) rfl ?_
      generalize f_X6_goThrough_l205 N I  n9 = k205 at i205 ⊢
      unfold f_X6_goThrough_l205b
      refine VJ.iload_n C 1 dX6_goThrough_205 rfl ?_
      refine VJ.aload_n C 0 dX6_goThrough_206 rfl ?_
      refine VJ.get (C0 := RX6) (T := TX6) (N := 38) (ci := 6) C in_X6_goThrough_X6 0 rfl rfl 13 (Nat.le_of_ble_eq_true rfl) (C.1.2.2.2.2 _ (List.mem_of_getElem? (i := 17) rfl)) (fun _ h9 => h9) (v := .int (I 4)) rfl dX6_goThrough_207 ?_
      refine VJ.icmp_ge C 245 dX6_goThrough_210 (by decide) (fun _ => ?_) (fun _ => ?_)
      · exact VJ.vret C hret rfl rfl dX6_goThrough_245
      · refine VJ.aload_n C 0 dX6_goThrough_213 rfl ?_
        refine VJ.get (C0 := RX6) (T := TX6) (N := 38) (ci := 6) C in_X6_goThrough_X6 0 rfl rfl 19 (Nat.le_of_ble_eq_true rfl) (C.1.2.2.2.2 _ (List.mem_of_getElem? (i := 2) rfl)) (fun _ h9 => h9) (v := .ref (ad 12)) rfl dX6_goThrough_214 ?_
        refine VJ.iload_n C 1 dX6_goThrough_217 rfl ?_
        refine VJ.aload_n C 0 dX6_goThrough_218 rfl ?_
        refine VJ.get (C0 := RX6) (T := TX6) (N := 38) (ci := 6) C in_X6_goThrough_X6 0 rfl rfl 18 (Nat.le_of_ble_eq_true rfl) (C.1.2.2.2.2 _ (List.mem_of_getElem? (i := 1) rfl)) (fun _ h9 => h9) (v := .ref (ad 11)) rfl dX6_goThrough_219 ?_
        refine VJ.iload_n C 1 dX6_goThrough_222 rfl ?_
        refine VJ.iald C 12 0 rfl rfl dX6_goThrough_223 ?_
        refine VJ.iconst (v := (-1)) C dX6_goThrough_224 (by decide) ?_
        refine VJ.icmp_ne C 237 dX6_goThrough_225 (by decide) (fun _ => ?_) (fun _ => ?_)
        · refine VJ.iconst (v := 3) C dX6_goThrough_237 (by decide) ?_
          exact j238 k205 i205 R x3 3 x3
        · refine VJ.aload_n C 0 dX6_goThrough_228 rfl ?_
          refine VJ.get (C0 := RX6) (T := TX6) (N := 38) (ci := 6) C in_X6_goThrough_X6 0 rfl rfl 19 (Nat.le_of_ble_eq_true rfl) (C.1.2.2.2.2 _ (List.mem_of_getElem? (i := 2) rfl)) (fun _ h9 => h9) (v := .ref (ad 12)) rfl dX6_goThrough_229 ?_
          refine VJ.iload_n C 1 dX6_goThrough_232 rfl ?_
          refine VJ.iald C 13 0 rfl rfl dX6_goThrough_233 ?_
          refine VJ.goto C 238 dX6_goThrough_234 (by decide) ?_
          exact j238 k205 i205 R x3 (R 12 x3.toNatClampNeg) x3
  have j132 : ∀ (n9 : Nat) (R : RI) (x1 : Int32) (x2 : Int32) (x3 : Int32), VJ p l e rmX6_goThrough s m args below meth c 5 G vwCl A (QR below G vwCl A args s rmX6_goThrough.cells rmX6_goThrough.slots (fun out : RI => none) (fun out : RI => pf [mW cI cZ o ad I out])) 0 0 (f_X6_goThrough_l132 N I  n9 R x1 x2 x3) (pf [mW cI cZ o ad I R]) 132 [(0, .ref o), (1, .int x1), (2, .int x2), (3, .int x3)] [] := by
    intro  n9
    induction n9 with
    | zero => intro R x1 x2 x3; exact VJ.fnone rfl
    | succ n9 i132 =>
      intro R x1 x2 x3
      refine VJ.eqf (f' := f_X6_goThrough_l132b N I  (f_X6_goThrough_l132 N I  n9) R x1 x2 x3) rfl ?_
      generalize f_X6_goThrough_l132 N I  n9 = k132 at i132 ⊢
      unfold f_X6_goThrough_l132b
      refine VJ.iload_n C 3 dX6_goThrough_132 rfl ?_
      refine VJ.aload_n C 0 dX6_goThrough_133 rfl ?_
      refine VJ.get (C0 := RX6) (T := TX6) (N := 38) (ci := 6) C in_X6_goThrough_X6 0 rfl rfl 11 (Nat.le_of_ble_eq_true rfl) (C.1.2.2.2.2 _ (List.mem_of_getElem? (i := 14) rfl)) (fun _ h9 => h9) (v := .int (I 3)) rfl dX6_goThrough_134 ?_
      refine VJ.icmp_ge C 203 dX6_goThrough_137 (by decide) (fun _ => ?_) (fun _ => ?_)
      · refine VJ.iconst (v := 0) C dX6_goThrough_203 (by decide) ?_
        refine VJ.istore_n C [(3, .int 0), (0, .ref o), (1, .int x1), (2, .int x2)] dX6_goThrough_204 (Nat.le_of_ble_eq_true rfl) rfl ?_
        refine VJ.sub [1, 0] rfl ?_
        exact j205 N R 0
      · refine VJ.aload_n C 0 dX6_goThrough_140 rfl ?_
        refine VJ.get (C0 := RX6) (T := TX6) (N := 38) (ci := 6) C in_X6_goThrough_X6 0 rfl rfl 12 (Nat.le_of_ble_eq_true rfl) (C.1.2.2.2.2 _ (List.mem_of_getElem? (i := 15) rfl)) (fun _ h9 => h9) (v := .ref (ad 8)) rfl dX6_goThrough_141 ?_
        refine VJ.iload_n C 3 dX6_goThrough_144 rfl ?_
        refine VJ.iald C 9 0 rfl rfl dX6_goThrough_145 ?_
        refine VJ.topi C (fun v3 => ?_)
        refine VJ.istore C [(4, .int v3), (0, .ref o), (1, .int x1), (2, .int x2), (3, .int x3)] dX6_goThrough_146 (Nat.le_of_ble_eq_true rfl) rfl ?_
        refine VJ.aload_n C 1 dX6_goThrough_148 rfl ?_
        refine VJ.get (C0 := RX6) (T := TX6) (N := 38) (ci := 6) C in_X6_goThrough_X6 0 rfl rfl 5 (Nat.le_of_ble_eq_true rfl) (C.1.2.2.2.2 _ (List.mem_of_getElem? (i := 16) rfl)) (fun _ h9 => h9) (v := .ref (ad 2)) rfl dX6_goThrough_149 ?_
        refine VJ.iload C 0 dX6_goThrough_152 rfl ?_
        refine VJ.iald C 3 0 rfl rfl dX6_goThrough_154 ?_
        refine VJ.iload_n C 2 dX6_goThrough_155 rfl ?_
        refine VJ.icmp_gt C 197 dX6_goThrough_156 (by decide) (fun _ => ?_) (fun _ => ?_)
        · refine VJ.iincN C 4 (fun v4 => [(3, .int v4), (4, .int v3), (0, .ref o), (1, .int x1), (2, .int x2)]) dX6_goThrough_197 rfl (Nat.le_of_ble_eq_true rfl) (fun _ => rfl) (fun v4 => ?_)
          refine VJ.goto C 132 dX6_goThrough_200 (by decide) ?_
          refine VJ.sub [2, 3, 4, 0] rfl ?_
          exact i132 R x1 x2 v4
        · refine VJ.aload_n C 1 dX6_goThrough_159 rfl ?_
          refine VJ.iload C 0 dX6_goThrough_160 rfl ?_
          refine VJ.iload_n C 3 dX6_goThrough_162 rfl ?_
          refine VJ.callV1 C [.int v3, .int x2] (pf [mW cI cZ o ad I R]) ([]) (fun r5 => some (.int r5)) (fun r5 => pf [mW cI cZ o ad I R]) (fun r5 => pf [mW cI cZ o ad I R]) (fun r5 => [.int r5]) 0 0 (fun _ h9 => c_X6_isKnown l G cI cZ cQ cU cJ o ad I R v3 x2 _ h9) (vj_p0 _) (fun _ => vj_p0' _) 0 rfl rfl (cwV 2 C.1.2.2.2.2 gX6_goThrough_X6_isKnown rfl rfl rfl hyV_X6_isKnown ⟨Nat.le_of_ble_eq_true rfl, Nat.le_of_ble_eq_true rfl⟩) rfl rfl (fun _ => rfl) (Nat.le_of_ble_eq_true rfl) dX6_goThrough_163 ⟨Nat.le_of_ble_eq_true rfl, Nat.le_of_ble_eq_true rfl⟩ ⟨rfl, rfl⟩ (fun r5 => ?_)
          refine VJ.if_eq C 197 dX6_goThrough_166 (by decide) (fun _ => ?_) (fun _ => ?_)
          · refine VJ.iincN C 4 (fun v6 => [(3, .int v6), (4, .int v3), (0, .ref o), (1, .int x1), (2, .int x2)]) dX6_goThrough_197 rfl (Nat.le_of_ble_eq_true rfl) (fun _ => rfl) (fun v6 => ?_)
            refine VJ.goto C 132 dX6_goThrough_200 (by decide) ?_
            refine VJ.sub [2, 3, 4, 0] rfl ?_
            exact i132 R x1 x2 v6
          · refine VJ.aload_n C 1 dX6_goThrough_169 rfl ?_
            refine VJ.iload C 0 dX6_goThrough_170 rfl ?_
            refine VJ.aload_n C 1 dX6_goThrough_172 rfl ?_
            refine VJ.aload_n C 1 dX6_goThrough_173 rfl ?_
            refine VJ.get (C0 := RX6) (T := TX6) (N := 38) (ci := 6) C in_X6_goThrough_X6 0 rfl rfl 6 (Nat.le_of_ble_eq_true rfl) (C.1.2.2.2.2 _ (List.mem_of_getElem? (i := 13) rfl)) (fun _ h9 => h9) (v := .ref (ad 3)) rfl dX6_goThrough_174 ?_
            refine VJ.iload C 0 dX6_goThrough_177 rfl ?_
            refine VJ.iald C 4 0 rfl rfl dX6_goThrough_179 ?_
            refine VJ.callV1 C [.int (R 3 v3.toNatClampNeg)] (pf [mW cI cZ o ad I R]) ([]) (fun r7 => some (.int r7)) (fun r7 => pf [mW cI cZ o ad I R]) (fun r7 => pf [mW cI cZ o ad I R]) (fun r7 => [.int r7, .int v3, .ref o]) 0 0 (fun _ h9 => c_X6_leadsTo l G cI cZ cQ cU cJ N o ad I R (R 3 v3.toNatClampNeg) _ h9) (vj_p0 _) (fun _ => vj_p0' _) 0 rfl rfl (cwV 1 C.1.2.2.2.2 gX6_goThrough_X6_leadsTo rfl rfl rfl hyV_X6_leadsTo ⟨Nat.le_of_ble_eq_true rfl, Nat.le_of_ble_eq_true rfl⟩) rfl rfl (fun _ => rfl) (Nat.le_of_ble_eq_true rfl) dX6_goThrough_180 ⟨Nat.le_of_ble_eq_true rfl, Nat.le_of_ble_eq_true rfl⟩ ⟨rfl, rfl⟩ (fun r7 => ?_)
            refine VJ.aload_n C 1 dX6_goThrough_183 rfl ?_
            refine VJ.aload_n C 1 dX6_goThrough_184 rfl ?_
            refine VJ.get (C0 := RX6) (T := TX6) (N := 38) (ci := 6) C in_X6_goThrough_X6 0 rfl rfl 7 (Nat.le_of_ble_eq_true rfl) (C.1.2.2.2.2 _ (List.mem_of_getElem? (i := 12) rfl)) (fun _ h9 => h9) (v := .ref (ad 4)) rfl dX6_goThrough_185 ?_
            refine VJ.iload C 0 dX6_goThrough_188 rfl ?_
            refine VJ.iald C 5 0 rfl rfl dX6_goThrough_190 ?_
            refine VJ.callV1 C [.int (R 4 v3.toNatClampNeg)] (pf [mW cI cZ o ad I R]) ([]) (fun r8 => some (.int r8)) (fun r8 => pf [mW cI cZ o ad I R]) (fun r8 => pf [mW cI cZ o ad I R]) (fun r8 => [.int r8, .int r7, .int v3, .ref o]) 0 0 (fun _ h9 => c_X6_leadsTo l G cI cZ cQ cU cJ N o ad I R (R 4 v3.toNatClampNeg) _ h9) (vj_p0 _) (fun _ => vj_p0' _) 0 rfl rfl (cwV 1 C.1.2.2.2.2 gX6_goThrough_X6_leadsTo rfl rfl rfl hyV_X6_leadsTo ⟨Nat.le_of_ble_eq_true rfl, Nat.le_of_ble_eq_true rfl⟩) rfl rfl (fun _ => rfl) (Nat.le_of_ble_eq_true rfl) dX6_goThrough_191 ⟨Nat.le_of_ble_eq_true rfl, Nat.le_of_ble_eq_true rfl⟩ ⟨rfl, rfl⟩ (fun r8 => ?_)
            refine VJ.callV1 C [.int v3, .int r7, .int r8] (pf [mW cI cZ o ad I R]) ([]) (fun R9 => none) (fun R9 => pf [mW cI cZ o ad I R9]) (fun R9 => pf [mW cI cZ o ad I R9]) (fun R9 => []) 0 0 (fun _ h9 => c_X6_count l G cI cZ cQ cU cJ o ad I R v3 r7 r8 _ h9) (vj_p0 _) (fun _ => vj_p0' _) 0 rfl rfl (cwV 3 C.1.2.2.2.2 gX6_goThrough_X6_count rfl rfl rfl hyV_X6_count ⟨Nat.le_of_ble_eq_true rfl, Nat.le_of_ble_eq_true rfl⟩) rfl rfl (fun _ => rfl) (Nat.le_of_ble_eq_true rfl) dX6_goThrough_194 ⟨Nat.le_of_ble_eq_true rfl, Nat.le_of_ble_eq_true rfl⟩ ⟨rfl, rfl⟩ (fun R9 => ?_)
            refine VJ.iincN C 4 (fun v10 => [(3, .int v10), (4, .int v3), (0, .ref o), (1, .int x1), (2, .int x2)]) dX6_goThrough_197 rfl (Nat.le_of_ble_eq_true rfl) (fun _ => rfl) (fun v10 => ?_)
            refine VJ.goto C 132 dX6_goThrough_200 (by decide) ?_
            refine VJ.sub [2, 3, 4, 0] rfl ?_
            exact i132 R9 x1 x2 v10
  have j79 : ∀ (n9 : Nat) (R : RI) (x1 : Int32) (x2 : Int32) (x3 : Int32), VJ p l e rmX6_goThrough s m args below meth c 5 G vwCl A (QR below G vwCl A args s rmX6_goThrough.cells rmX6_goThrough.slots (fun out : RI => none) (fun out : RI => pf [mW cI cZ o ad I out])) 0 0 (f_X6_goThrough_l79 N I  n9 R x1 x2 x3) (pf [mW cI cZ o ad I R]) 79 [(0, .ref o), (1, .int x1), (2, .int x2), (3, .int x3)] [] := by
    intro  n9
    induction n9 with
    | zero => intro R x1 x2 x3; exact VJ.fnone rfl
    | succ n9 i79 =>
      intro R x1 x2 x3
      refine VJ.eqf (f' := f_X6_goThrough_l79b N I  (f_X6_goThrough_l79 N I  n9) R x1 x2 x3) rfl ?_
      generalize f_X6_goThrough_l79 N I  n9 = k79 at i79 ⊢
      unfold f_X6_goThrough_l79b
      refine VJ.iload_n C 3 dX6_goThrough_79 rfl ?_
      refine VJ.aload_n C 0 dX6_goThrough_80 rfl ?_
      refine VJ.get (C0 := RX6) (T := TX6) (N := 38) (ci := 6) C in_X6_goThrough_X6 0 rfl rfl 2 (Nat.le_of_ble_eq_true rfl) (C.1.2.2.2.2 _ (List.mem_of_getElem? (i := 10) rfl)) (fun _ h9 => h9) (v := .int (I 2)) rfl dX6_goThrough_81 ?_
      refine VJ.icmp_ge C 130 dX6_goThrough_84 (by decide) (fun _ => ?_) (fun _ => ?_)
      · refine VJ.iconst (v := 0) C dX6_goThrough_130 (by decide) ?_
        refine VJ.istore_n C [(3, .int 0), (0, .ref o), (1, .int x1), (2, .int x2)] dX6_goThrough_131 (Nat.le_of_ble_eq_true rfl) rfl ?_
        refine VJ.sub [1, 2, 3, 0] rfl ?_
        exact j132 N R x1 x2 0
      · refine VJ.aload_n C 0 dX6_goThrough_87 rfl ?_
        refine VJ.get (C0 := RX6) (T := TX6) (N := 38) (ci := 6) C in_X6_goThrough_X6 0 rfl rfl 3 (Nat.le_of_ble_eq_true rfl) (C.1.2.2.2.2 _ (List.mem_of_getElem? (i := 11) rfl)) (fun _ h9 => h9) (v := .ref (ad 0)) rfl dX6_goThrough_88 ?_
        refine VJ.iload_n C 3 dX6_goThrough_91 rfl ?_
        refine VJ.iald C 1 0 rfl rfl dX6_goThrough_92 ?_
        refine VJ.bipush (v := 7) C dX6_goThrough_93 (by decide) ?_
        refine VJ.icmp_ne C 124 dX6_goThrough_95 (by decide) (fun _ => ?_) (fun _ => ?_)
        · refine VJ.iincN C 3 (fun v11 => [(3, .int v11), (0, .ref o), (1, .int x1), (2, .int x2)]) dX6_goThrough_124 rfl (Nat.le_of_ble_eq_true rfl) (fun _ => rfl) (fun v11 => ?_)
          refine VJ.goto C 79 dX6_goThrough_127 (by decide) ?_
          refine VJ.sub [1, 2, 3, 0] rfl ?_
          exact i79 R x1 x2 v11
        · refine VJ.aload_n C 0 dX6_goThrough_98 rfl ?_
          refine VJ.iload_n C 3 dX6_goThrough_99 rfl ?_
          refine VJ.iload_n C 2 dX6_goThrough_100 rfl ?_
          refine VJ.callV1 C [.int x3, .int x2] (pf [mW cI cZ o ad I R]) ([]) (fun r12 => some (.int r12)) (fun r12 => pf [mW cI cZ o ad I R]) (fun r12 => pf [mW cI cZ o ad I R]) (fun r12 => [.int r12]) 0 0 (fun _ h9 => c_X6_isKnown l G cI cZ cQ cU cJ o ad I R x3 x2 _ h9) (vj_p0 _) (fun _ => vj_p0' _) 0 rfl rfl (cwV 2 C.1.2.2.2.2 gX6_goThrough_X6_isKnown rfl rfl rfl hyV_X6_isKnown ⟨Nat.le_of_ble_eq_true rfl, Nat.le_of_ble_eq_true rfl⟩) rfl rfl (fun _ => rfl) (Nat.le_of_ble_eq_true rfl) dX6_goThrough_101 ⟨Nat.le_of_ble_eq_true rfl, Nat.le_of_ble_eq_true rfl⟩ ⟨rfl, rfl⟩ (fun r12 => ?_)
          refine VJ.if_eq C 124 dX6_goThrough_104 (by decide) (fun _ => ?_) (fun _ => ?_)
          · refine VJ.iincN C 3 (fun v13 => [(3, .int v13), (0, .ref o), (1, .int x1), (2, .int x2)]) dX6_goThrough_124 rfl (Nat.le_of_ble_eq_true rfl) (fun _ => rfl) (fun v13 => ?_)
            refine VJ.goto C 79 dX6_goThrough_127 (by decide) ?_
            refine VJ.sub [1, 2, 3, 0] rfl ?_
            exact i79 R x1 x2 v13
          · refine VJ.aload_n C 0 dX6_goThrough_107 rfl ?_
            refine VJ.get (C0 := RX6) (T := TX6) (N := 38) (ci := 6) C in_X6_goThrough_X6 0 rfl rfl 18 (Nat.le_of_ble_eq_true rfl) (C.1.2.2.2.2 _ (List.mem_of_getElem? (i := 1) rfl)) (fun _ h9 => h9) (v := .ref (ad 11)) rfl dX6_goThrough_108 ?_
            refine VJ.aload_n C 0 dX6_goThrough_111 rfl ?_
            refine VJ.get (C0 := RX6) (T := TX6) (N := 38) (ci := 6) C in_X6_goThrough_X6 0 rfl rfl 7 (Nat.le_of_ble_eq_true rfl) (C.1.2.2.2.2 _ (List.mem_of_getElem? (i := 12) rfl)) (fun _ h9 => h9) (v := .ref (ad 4)) rfl dX6_goThrough_112 ?_
            refine VJ.iload_n C 3 dX6_goThrough_115 rfl ?_
            refine VJ.iald C 5 0 rfl rfl dX6_goThrough_116 ?_
            refine VJ.aload_n C 0 dX6_goThrough_117 rfl ?_
            refine VJ.get (C0 := RX6) (T := TX6) (N := 38) (ci := 6) C in_X6_goThrough_X6 0 rfl rfl 6 (Nat.le_of_ble_eq_true rfl) (C.1.2.2.2.2 _ (List.mem_of_getElem? (i := 13) rfl)) (fun _ h9 => h9) (v := .ref (ad 3)) rfl dX6_goThrough_118 ?_
            refine VJ.iload_n C 3 dX6_goThrough_121 rfl ?_
            refine VJ.iald C 4 0 rfl rfl dX6_goThrough_122 ?_
            refine VJ.iastR C 12 0 R 11 (fun R14 => pf [mW cI cZ o ad I R14]) rfl rfl (fun _ => rfl) dX6_goThrough_123 (fun R14 => ?_)
            refine VJ.iincN C 3 (fun v15 => [(3, .int v15), (0, .ref o), (1, .int x1), (2, .int x2)]) dX6_goThrough_124 rfl (Nat.le_of_ble_eq_true rfl) (fun _ => rfl) (fun v15 => ?_)
            refine VJ.goto C 79 dX6_goThrough_127 (by decide) ?_
            refine VJ.sub [1, 2, 3, 0] rfl ?_
            exact i79 R14 x1 x2 v15
  have j2 : ∀ (n9 : Nat) (R : RI) (x1 : Int32) (x2 : Int32) (x3 : Int32), VJ p l e rmX6_goThrough s m args below meth c 5 G vwCl A (QR below G vwCl A args s rmX6_goThrough.cells rmX6_goThrough.slots (fun out : RI => none) (fun out : RI => pf [mW cI cZ o ad I out])) 0 0 (f_X6_goThrough_l2 N I  n9 R x1 x2 x3) (pf [mW cI cZ o ad I R]) 2 [(0, .ref o), (1, .int x1), (2, .int x2), (3, .int x3)] [] := by
    intro  n9
    induction n9 with
    | zero => intro R x1 x2 x3; exact VJ.fnone rfl
    | succ n9 i2 =>
      intro R x1 x2 x3
      refine VJ.eqf (f' := f_X6_goThrough_l2b N I  (f_X6_goThrough_l2 N I  n9) R x1 x2 x3) rfl ?_
      generalize f_X6_goThrough_l2 N I  n9 = k2 at i2 ⊢
      unfold f_X6_goThrough_l2b
      refine VJ.iload_n C 3 dX6_goThrough_2 rfl ?_
      refine VJ.bipush (v := 24) C dX6_goThrough_3 (by decide) ?_
      refine VJ.icmp_ge C 77 dX6_goThrough_5 (by decide) (fun _ => ?_) (fun _ => ?_)
      · refine VJ.iconst (v := 0) C dX6_goThrough_77 (by decide) ?_
        refine VJ.istore_n C [(3, .int 0), (0, .ref o), (1, .int x1), (2, .int x2)] dX6_goThrough_78 (Nat.le_of_ble_eq_true rfl) rfl ?_
        refine VJ.sub [1, 2, 3, 0] rfl ?_
        exact j79 N R x1 x2 0
      · refine VJ.aload_n C 0 dX6_goThrough_8 rfl ?_
        refine VJ.get (C0 := RX6) (T := TX6) (N := 38) (ci := 6) C in_X6_goThrough_X6 0 rfl rfl 18 (Nat.le_of_ble_eq_true rfl) (C.1.2.2.2.2 _ (List.mem_of_getElem? (i := 1) rfl)) (fun _ h9 => h9) (v := .ref (ad 11)) rfl dX6_goThrough_9 ?_
        refine VJ.iload_n C 3 dX6_goThrough_12 rfl ?_
        refine VJ.iconst (v := (-1)) C dX6_goThrough_13 (by decide) ?_
        refine VJ.iastR C 12 0 R 11 (fun R16 => pf [mW cI cZ o ad I R16]) rfl rfl (fun _ => rfl) dX6_goThrough_14 (fun R16 => ?_)
        refine VJ.aload_n C 0 dX6_goThrough_15 rfl ?_
        refine VJ.get (C0 := RX6) (T := TX6) (N := 38) (ci := 6) C in_X6_goThrough_X6 0 rfl rfl 19 (Nat.le_of_ble_eq_true rfl) (C.1.2.2.2.2 _ (List.mem_of_getElem? (i := 2) rfl)) (fun _ h9 => h9) (v := .ref (ad 12)) rfl dX6_goThrough_16 ?_
        refine VJ.iload_n C 3 dX6_goThrough_19 rfl ?_
        refine VJ.iconst (v := 0) C dX6_goThrough_20 (by decide) ?_
        refine VJ.iastR C 13 0 R16 12 (fun R17 => pf [mW cI cZ o ad I R17]) rfl rfl (fun _ => rfl) dX6_goThrough_21 (fun R17 => ?_)
        refine VJ.aload_n C 0 dX6_goThrough_22 rfl ?_
        refine VJ.get (C0 := RX6) (T := TX6) (N := 38) (ci := 6) C in_X6_goThrough_X6 0 rfl rfl 20 (Nat.le_of_ble_eq_true rfl) (C.1.2.2.2.2 _ (List.mem_of_getElem? (i := 3) rfl)) (fun _ h9 => h9) (v := .ref (ad 13)) rfl dX6_goThrough_23 ?_
        refine VJ.iload_n C 3 dX6_goThrough_26 rfl ?_
        refine VJ.iconst (v := (-1)) C dX6_goThrough_27 (by decide) ?_
        refine VJ.iastR C 14 0 R17 13 (fun R18 => pf [mW cI cZ o ad I R18]) rfl rfl (fun _ => rfl) dX6_goThrough_28 (fun R18 => ?_)
        refine VJ.aload_n C 0 dX6_goThrough_29 rfl ?_
        refine VJ.get (C0 := RX6) (T := TX6) (N := 38) (ci := 6) C in_X6_goThrough_X6 0 rfl rfl 21 (Nat.le_of_ble_eq_true rfl) (C.1.2.2.2.2 _ (List.mem_of_getElem? (i := 4) rfl)) (fun _ h9 => h9) (v := .ref (ad 14)) rfl dX6_goThrough_30 ?_
        refine VJ.iload_n C 3 dX6_goThrough_33 rfl ?_
        refine VJ.iconst (v := (-1)) C dX6_goThrough_34 (by decide) ?_
        refine VJ.iastR C 15 0 R18 14 (fun R19 => pf [mW cI cZ o ad I R19]) rfl rfl (fun _ => rfl) dX6_goThrough_35 (fun R19 => ?_)
        refine VJ.aload_n C 0 dX6_goThrough_36 rfl ?_
        refine VJ.get (C0 := RX6) (T := TX6) (N := 38) (ci := 6) C in_X6_goThrough_X6 0 rfl rfl 22 (Nat.le_of_ble_eq_true rfl) (C.1.2.2.2.2 _ (List.mem_of_getElem? (i := 5) rfl)) (fun _ h9 => h9) (v := .ref (ad 15)) rfl dX6_goThrough_37 ?_
        refine VJ.iload_n C 3 dX6_goThrough_40 rfl ?_
        refine VJ.iconst (v := (-1)) C dX6_goThrough_41 (by decide) ?_
        refine VJ.iastR C 16 0 R19 15 (fun R20 => pf [mW cI cZ o ad I R20]) rfl rfl (fun _ => rfl) dX6_goThrough_42 (fun R20 => ?_)
        refine VJ.aload_n C 0 dX6_goThrough_43 rfl ?_
        refine VJ.get (C0 := RX6) (T := TX6) (N := 38) (ci := 6) C in_X6_goThrough_X6 0 rfl rfl 23 (Nat.le_of_ble_eq_true rfl) (C.1.2.2.2.2 _ (List.mem_of_getElem? (i := 6) rfl)) (fun _ h9 => h9) (v := .ref (ad 16)) rfl dX6_goThrough_44 ?_
        refine VJ.iload_n C 3 dX6_goThrough_47 rfl ?_
        refine VJ.iconst (v := (-1)) C dX6_goThrough_48 (by decide) ?_
        refine VJ.iastR C 17 0 R20 16 (fun R21 => pf [mW cI cZ o ad I R21]) rfl rfl (fun _ => rfl) dX6_goThrough_49 (fun R21 => ?_)
        refine VJ.aload_n C 0 dX6_goThrough_50 rfl ?_
        refine VJ.get (C0 := RX6) (T := TX6) (N := 38) (ci := 6) C in_X6_goThrough_X6 0 rfl rfl 24 (Nat.le_of_ble_eq_true rfl) (C.1.2.2.2.2 _ (List.mem_of_getElem? (i := 7) rfl)) (fun _ h9 => h9) (v := .ref (ad 17)) rfl dX6_goThrough_51 ?_
        refine VJ.iload_n C 3 dX6_goThrough_54 rfl ?_
        refine VJ.iconst (v := (-1)) C dX6_goThrough_55 (by decide) ?_
        refine VJ.iastR C 18 0 R21 17 (fun R22 => pf [mW cI cZ o ad I R22]) rfl rfl (fun _ => rfl) dX6_goThrough_56 (fun R22 => ?_)
        refine VJ.aload_n C 0 dX6_goThrough_57 rfl ?_
        refine VJ.get (C0 := RX6) (T := TX6) (N := 38) (ci := 6) C in_X6_goThrough_X6 0 rfl rfl 25 (Nat.le_of_ble_eq_true rfl) (C.1.2.2.2.2 _ (List.mem_of_getElem? (i := 8) rfl)) (fun _ h9 => h9) (v := .ref (ad 18)) rfl dX6_goThrough_58 ?_
        refine VJ.iload_n C 3 dX6_goThrough_61 rfl ?_
        refine VJ.iconst (v := (-1)) C dX6_goThrough_62 (by decide) ?_
        refine VJ.iastR C 19 0 R22 18 (fun R23 => pf [mW cI cZ o ad I R23]) rfl rfl (fun _ => rfl) dX6_goThrough_63 (fun R23 => ?_)
        refine VJ.aload_n C 0 dX6_goThrough_64 rfl ?_
        refine VJ.get (C0 := RX6) (T := TX6) (N := 38) (ci := 6) C in_X6_goThrough_X6 0 rfl rfl 26 (Nat.le_of_ble_eq_true rfl) (C.1.2.2.2.2 _ (List.mem_of_getElem? (i := 9) rfl)) (fun _ h9 => h9) (v := .ref (ad 19)) rfl dX6_goThrough_65 ?_
        refine VJ.iload_n C 3 dX6_goThrough_68 rfl ?_
        refine VJ.iconst (v := 0) C dX6_goThrough_69 (by decide) ?_
        refine VJ.zastR C 20 1 R23 19 (fun R24 => pf [mW cI cZ o ad I R24]) rfl rfl (fun _ => rfl) dX6_goThrough_70 (fun R24 => ?_)
        refine VJ.iincN C 3 (fun v25 => [(3, .int v25), (0, .ref o), (1, .int x1), (2, .int x2)]) dX6_goThrough_71 rfl (Nat.le_of_ble_eq_true rfl) (fun _ => rfl) (fun v25 => ?_)
        refine VJ.goto C 2 dX6_goThrough_74 (by decide) ?_
        refine VJ.sub [1, 2, 3, 0] rfl ?_
        exact i2 R24 x1 x2 v25
  unfold f_X6_goThrough
  refine VJ.iconst (v := 0) C dX6_goThrough_0 (by decide) ?_
  refine VJ.istore_n C [(3, .int 0), (0, .ref o), (1, .int x1), (2, .int x2)] dX6_goThrough_1 (Nat.le_of_ble_eq_true rfl) rfl ?_
  refine VJ.sub [1, 2, 3, 0] rfl ?_
  exact j2 N R x1 x2 0

def f_X6_ageOf (I : OI) (R : RI) (x1 : Int32) (x2 : Int32) : Option Int32 :=
  og x1 24 (if (R 12 x1.toNatClampNeg) = 1 then (og x1 24 (some ((x2 - (R 17 x1.toNatClampNeg)) / 365))) else (some (-1)))
abbrev rmX6_ageOf : Room := { frames := 0, cells := 0, slots := 0, locals := 0 }
theorem in_X6_ageOf_X6 : ∀ w ∈ u_ws RX6 TX6 38, w ∈ wsX6_ageOf := in_of 3 rfl
theorem hy_X6_ageOf : yX6_ageOf.cls ≠ "java/lang/invoke/MethodHandle" ∧ yX6_ageOf.cls ≠ "java/lang/invoke/VarHandle" ∧ (parseMethodDescriptor yX6_ageOf.desc).map (fun d => d.parameters.length) = some 2 := by decide +kernel
theorem hyV_X6_ageOf : yX6_ageOf.cls = RX6 ∧ yX6_ageOf.cls ≠ "java/lang/invoke/MethodHandle" ∧ yX6_ageOf.cls ≠ "java/lang/invoke/VarHandle" ∧ (parseMethodDescriptor yX6_ageOf.desc).map (fun d => d.parameters.length) = some 2 := ⟨rfl, hy_X6_ageOf⟩
set_option maxHeartbeats 8000000 in
set_option maxRecDepth 100000 in
theorem c_X6_ageOf (l : Launch) (G : va_G) (cI cZ cQ cU cJ : ClassId) (o : Nat) (ad : Nat → Nat) (I : OI) (R : RI) (x1 : Int32) (x2 : Int32) (out : Int32) (hf : f_X6_ageOf I R x1 x2 = some out) : Con l yX6_ageOf wsX6_ageOf rmX6_ageOf G vwCl (tys cI cZ cQ cU cJ) nws [.ref o, .int x1, .int x2] (pf [mW cI cZ o ad I R]) (some (.int out)) (pf [mW cI cZ o ad I R]) := by
  refine con_of (rv := fun out : Int32 => some (.int out)) (Wd := fun out : Int32 => pf [mW cI cZ o ad I R]) (maxL := 3) (own := RX6) rfl (plainFor_of_name (by decide +kernel)) rfl (Nat.le_of_ble_eq_true rfl) ?_ hf
  intro p e s m args below meth c A C hret hname
  unfold f_X6_ageOf
  refine VJ.aload_n C 0 dX6_ageOf_0 rfl ?_
  refine VJ.get (C0 := RX6) (T := TX6) (N := 38) (ci := 6) C in_X6_ageOf_X6 0 rfl rfl 19 (Nat.le_of_ble_eq_true rfl) (C.1.2.2.2.2 _ (List.mem_of_getElem? (i := 1) rfl)) (fun _ h9 => h9) (v := .ref (ad 12)) rfl dX6_ageOf_1 ?_
  refine VJ.iload_n C 1 dX6_ageOf_4 rfl ?_
  refine VJ.iald C 13 0 rfl rfl dX6_ageOf_5 ?_
  refine VJ.iconst (v := 1) C dX6_ageOf_6 (by decide) ?_
  refine VJ.icmp_ne C 25 dX6_ageOf_7 (by decide) (fun _ => ?_) (fun _ => ?_)
  · refine VJ.iconst (v := (-1)) C dX6_ageOf_25 (by decide) ?_
    exact VJ.iret C hret rfl rfl dX6_ageOf_26
  · refine VJ.iload_n C 2 dX6_ageOf_10 rfl ?_
    refine VJ.aload_n C 0 dX6_ageOf_11 rfl ?_
    refine VJ.get (C0 := RX6) (T := TX6) (N := 38) (ci := 6) C in_X6_ageOf_X6 0 rfl rfl 24 (Nat.le_of_ble_eq_true rfl) (C.1.2.2.2.2 _ (List.mem_of_getElem? (i := 2) rfl)) (fun _ h9 => h9) (v := .ref (ad 17)) rfl dX6_ageOf_12 ?_
    refine VJ.iload_n C 1 dX6_ageOf_15 rfl ?_
    refine VJ.iald C 18 0 rfl rfl dX6_ageOf_16 ?_
    refine VJ.isub C dX6_ageOf_17 ?_
    refine VJ.sipush (v := 365) C dX6_ageOf_18 (by decide) ?_
    refine VJ.idiv C dX6_ageOf_21 (by decide) ?_
    refine VJ.goto C 26 dX6_ageOf_22 (by decide) ?_
    exact VJ.iret C hret rfl rfl dX6_ageOf_26

def f_X6_isChild (I : OI) (R : RI) (x1 : Int32) (x2 : Int32) (x3 : Int32) : Option Int32 :=
  og x1 24 (if (R 16 x1.toNatClampNeg) = x2 then (ob1 (f_X6_ageOf I R x1 x3) (fun r1 => if 18 ≤ r1 then (some 0) else (og x1 24 (if (R 15 x1.toNatClampNeg) = (-1) then (some 1) else (some 0))))) else (some 0))
abbrev rmX6_isChild : Room := { frames := 1, cells := 0, slots := 0, locals := 22 }
theorem in_X6_isChild_X6 : ∀ w ∈ u_ws RX6 TX6 38, w ∈ wsX6_isChild := in_of 10 rfl
theorem hy_X6_isChild : yX6_isChild.cls ≠ "java/lang/invoke/MethodHandle" ∧ yX6_isChild.cls ≠ "java/lang/invoke/VarHandle" ∧ (parseMethodDescriptor yX6_isChild.desc).map (fun d => d.parameters.length) = some 3 := by decide +kernel
theorem hyV_X6_isChild : yX6_isChild.cls = RX6 ∧ yX6_isChild.cls ≠ "java/lang/invoke/MethodHandle" ∧ yX6_isChild.cls ≠ "java/lang/invoke/VarHandle" ∧ (parseMethodDescriptor yX6_isChild.desc).map (fun d => d.parameters.length) = some 3 := ⟨rfl, hy_X6_isChild⟩
set_option maxHeartbeats 8000000 in
set_option maxRecDepth 100000 in
theorem c_X6_isChild (l : Launch) (G : va_G) (cI cZ cQ cU cJ : ClassId) (o : Nat) (ad : Nat → Nat) (I : OI) (R : RI) (x1 : Int32) (x2 : Int32) (x3 : Int32) (out : Int32) (hf : f_X6_isChild I R x1 x2 x3 = some out) : Con l yX6_isChild wsX6_isChild rmX6_isChild G vwCl (tys cI cZ cQ cU cJ) nws [.ref o, .int x1, .int x2, .int x3] (pf [mW cI cZ o ad I R]) (some (.int out)) (pf [mW cI cZ o ad I R]) := by
  refine con_of (rv := fun out : Int32 => some (.int out)) (Wd := fun out : Int32 => pf [mW cI cZ o ad I R]) (maxL := 4) (own := RX6) rfl (plainFor_of_name (by decide +kernel)) rfl (Nat.le_of_ble_eq_true rfl) ?_ hf
  intro p e s m args below meth c A C hret hname
  unfold f_X6_isChild
  refine VJ.aload_n C 0 dX6_isChild_0 rfl ?_
  refine VJ.get (C0 := RX6) (T := TX6) (N := 38) (ci := 6) C in_X6_isChild_X6 0 rfl rfl 23 (Nat.le_of_ble_eq_true rfl) (C.1.2.2.2.2 _ (List.mem_of_getElem? (i := 1) rfl)) (fun _ h9 => h9) (v := .ref (ad 16)) rfl dX6_isChild_1 ?_
  refine VJ.iload_n C 1 dX6_isChild_4 rfl ?_
  refine VJ.iald C 17 0 rfl rfl dX6_isChild_5 ?_
  refine VJ.iload_n C 2 dX6_isChild_6 rfl ?_
  refine VJ.icmp_ne C 35 dX6_isChild_7 (by decide) (fun _ => ?_) (fun _ => ?_)
  · refine VJ.iconst (v := 0) C dX6_isChild_35 (by decide) ?_
    exact VJ.zret C rfl hret rfl rfl dX6_isChild_36
  · refine VJ.aload_n C 0 dX6_isChild_10 rfl ?_
    refine VJ.iload_n C 1 dX6_isChild_11 rfl ?_
    refine VJ.iload_n C 3 dX6_isChild_12 rfl ?_
    refine VJ.callV1 C [.int x1, .int x3] (pf [mW cI cZ o ad I R]) ([]) (fun r1 => some (.int r1)) (fun r1 => pf [mW cI cZ o ad I R]) (fun r1 => pf [mW cI cZ o ad I R]) (fun r1 => [.int r1]) 0 0 (fun _ h9 => c_X6_ageOf l G cI cZ cQ cU cJ o ad I R x1 x3 _ h9) (vj_p0 _) (fun _ => vj_p0' _) 0 rfl rfl (cwV 2 C.1.2.2.2.2 gX6_isChild_X6_ageOf rfl rfl rfl hyV_X6_ageOf ⟨Nat.le_of_ble_eq_true rfl, Nat.le_of_ble_eq_true rfl⟩) rfl rfl (fun _ => rfl) (Nat.le_of_ble_eq_true rfl) dX6_isChild_13 ⟨Nat.le_of_ble_eq_true rfl, Nat.le_of_ble_eq_true rfl⟩ ⟨rfl, rfl⟩ (fun r1 => ?_)
    refine VJ.bipush (v := 18) C dX6_isChild_16 (by decide) ?_
    refine VJ.icmp_ge C 35 dX6_isChild_18 (by decide) (fun _ => ?_) (fun _ => ?_)
    · refine VJ.iconst (v := 0) C dX6_isChild_35 (by decide) ?_
      exact VJ.zret C rfl hret rfl rfl dX6_isChild_36
    · refine VJ.aload_n C 0 dX6_isChild_21 rfl ?_
      refine VJ.get (C0 := RX6) (T := TX6) (N := 38) (ci := 6) C in_X6_isChild_X6 0 rfl rfl 22 (Nat.le_of_ble_eq_true rfl) (C.1.2.2.2.2 _ (List.mem_of_getElem? (i := 2) rfl)) (fun _ h9 => h9) (v := .ref (ad 15)) rfl dX6_isChild_22 ?_
      refine VJ.iload_n C 1 dX6_isChild_25 rfl ?_
      refine VJ.iald C 16 0 rfl rfl dX6_isChild_26 ?_
      refine VJ.iconst (v := (-1)) C dX6_isChild_27 (by decide) ?_
      refine VJ.icmp_ne C 35 dX6_isChild_28 (by decide) (fun _ => ?_) (fun _ => ?_)
      · refine VJ.iconst (v := 0) C dX6_isChild_35 (by decide) ?_
        exact VJ.zret C rfl hret rfl rfl dX6_isChild_36
      · refine VJ.iconst (v := 1) C dX6_isChild_31 (by decide) ?_
        refine VJ.goto C 36 dX6_isChild_32 (by decide) ?_
        exact VJ.zret C rfl hret rfl rfl dX6_isChild_36

set_option maxHeartbeats 4000000 in
set_option maxRecDepth 100000 in
def f_X6_settle_j165 (N : Nat) (I : OI) (k39 : RI → Int32 → Int32 → Option RI) (k47 : RI → Int32 → Int32 → Int32 → Option RI) (k58 : RI → Int32 → Int32 → Int32 → Int32 → Option RI) (R : RI) (x1 : Int32) (x3 : Int32) (x4 : Int32) : Option RI :=
  og x4 24 (og x3 24 (ol (va_up R 20 (upd (R 20) x3.toNatClampNeg (R 20 x4.toNatClampNeg))) (fun R4 => ol (x4 + Int32.ofInt 1) (fun v5 => k58 R4 x1 1 x3 v5))))
set_option maxHeartbeats 4000000 in
set_option maxRecDepth 100000 in
def f_X6_settle_j109 (N : Nat) (I : OI) (k39 : RI → Int32 → Int32 → Option RI) (k47 : RI → Int32 → Int32 → Int32 → Option RI) (k58 : RI → Int32 → Int32 → Int32 → Int32 → Option RI) (R : RI) (x1 : Int32) (x2 : Int32) (x3 : Int32) (x4 : Int32) (y0 : Int32) : Option RI :=
  if y0 = 0 then (ol (x4 + Int32.ofInt 1) (fun v2 => k58 R x1 x2 x3 v2)) else (og x4 24 (og x3 24 (if (R 20 x3.toNatClampNeg) ≤ (R 20 x4.toNatClampNeg) then (ol (x4 + Int32.ofInt 1) (fun v3 => k58 R x1 x2 x3 v3)) else (og x3 24 (if (R 15 x3.toNatClampNeg) = x4 then (f_X6_settle_j165 N I k39 k47 k58 R x1 x3 x4) else (ob1 (f_X6_isChild I R x3 x4 x1) (fun r6 => if r6 = 0 then (ob1 (f_X6_isChild I R x4 x3 x1) (fun r7 => if r7 = 0 then (ol (x4 + Int32.ofInt 1) (fun v8 => k58 R x1 x2 x3 v8)) else (f_X6_settle_j165 N I k39 k47 k58 R x1 x3 x4))) else (f_X6_settle_j165 N I k39 k47 k58 R x1 x3 x4))))))))
set_option maxHeartbeats 4000000 in
set_option maxRecDepth 100000 in
def f_X6_settle_l58b (N : Nat) (I : OI) (k39 : RI → Int32 → Int32 → Option RI) (k47 : RI → Int32 → Int32 → Int32 → Option RI) (k58 : RI → Int32 → Int32 → Int32 → Int32 → Option RI) (R : RI) (x1 : Int32) (x2 : Int32) (x3 : Int32) (x4 : Int32) : Option RI :=
  if (I 4) ≤ x4 then (ol (x3 + Int32.ofInt 1) (fun v1 => k47 R x1 x2 v1)) else (og x3 24 (if (R 12 x3.toNatClampNeg) = 1 then (og x4 24 (if (R 12 x4.toNatClampNeg) = 1 then (og x3 24 (og x4 24 (if (R 13 x3.toNatClampNeg) = (R 13 x4.toNatClampNeg) then (f_X6_settle_j109 N I k39 k47 k58 R x1 x2 x3 x4 1) else (f_X6_settle_j109 N I k39 k47 k58 R x1 x2 x3 x4 0)))) else (f_X6_settle_j109 N I k39 k47 k58 R x1 x2 x3 x4 0))) else (f_X6_settle_j109 N I k39 k47 k58 R x1 x2 x3 x4 0)))
set_option maxHeartbeats 4000000 in
set_option maxRecDepth 100000 in
def f_X6_settle_l58 (N : Nat) (I : OI) (k39 : RI → Int32 → Int32 → Option RI) (k47 : RI → Int32 → Int32 → Int32 → Option RI) : Nat → RI → Int32 → Int32 → Int32 → Int32 → Option RI
  | 0 => fun _ _ _ _ _ => none
  | n9 + 1 => f_X6_settle_l58b N I k39 k47 (f_X6_settle_l58 N I k39 k47 n9)
set_option maxHeartbeats 4000000 in
set_option maxRecDepth 100000 in
def f_X6_settle_l47b (N : Nat) (I : OI) (k39 : RI → Int32 → Int32 → Option RI) (k47 : RI → Int32 → Int32 → Int32 → Option RI) (R : RI) (x1 : Int32) (x2 : Int32) (x3 : Int32) : Option RI :=
  if (I 4) ≤ x3 then (k39 R x1 x2) else (f_X6_settle_l58 N I k39 k47 N R x1 x2 x3 0)
set_option maxHeartbeats 4000000 in
set_option maxRecDepth 100000 in
def f_X6_settle_l47 (N : Nat) (I : OI) (k39 : RI → Int32 → Int32 → Option RI) : Nat → RI → Int32 → Int32 → Int32 → Option RI
  | 0 => fun _ _ _ _ => none
  | n9 + 1 => f_X6_settle_l47b N I k39 (f_X6_settle_l47 N I k39 n9)
set_option maxHeartbeats 4000000 in
set_option maxRecDepth 100000 in
def f_X6_settle_l39b (N : Nat) (I : OI) (k39 : RI → Int32 → Int32 → Option RI) (R : RI) (x1 : Int32) (x2 : Int32) : Option RI :=
  if x2 = 0 then (some R) else (f_X6_settle_l47 N I k39 N R x1 0 0)
set_option maxHeartbeats 4000000 in
set_option maxRecDepth 100000 in
def f_X6_settle_l39 (N : Nat) (I : OI) : Nat → RI → Int32 → Int32 → Option RI
  | 0 => fun _ _ _ => none
  | n9 + 1 => f_X6_settle_l39b N I (f_X6_settle_l39 N I n9)
set_option maxHeartbeats 4000000 in
set_option maxRecDepth 100000 in
def f_X6_settle_j30 (N : Nat) (I : OI) (k2 : RI → Int32 → Int32 → Option RI) (R : RI) (x1 : Int32) (x2 : Int32) (y0 : Int32) (y1 : Int32) : Option RI :=
  og y1 24 (ol (va_up R 20 (upd (R 20) y1.toNatClampNeg y0)) (fun R9 => ol (x2 + Int32.ofInt 1) (fun v10 => k2 R9 x1 v10)))
set_option maxHeartbeats 4000000 in
set_option maxRecDepth 100000 in
def f_X6_settle_l2b (N : Nat) (I : OI) (k2 : RI → Int32 → Int32 → Option RI) (R : RI) (x1 : Int32) (x2 : Int32) : Option RI :=
  if (I 4) ≤ x2 then (f_X6_settle_l39 N I N R x1 1) else (og x2 24 (if (R 12 x2.toNatClampNeg) = 1 then (f_X6_settle_j30 N I k2 R x1 x2 x2 x2) else (f_X6_settle_j30 N I k2 R x1 x2 (-1) x2)))
set_option maxHeartbeats 4000000 in
set_option maxRecDepth 100000 in
def f_X6_settle_l2 (N : Nat) (I : OI) : Nat → RI → Int32 → Int32 → Option RI
  | 0 => fun _ _ _ => none
  | n9 + 1 => f_X6_settle_l2b N I (f_X6_settle_l2 N I n9)
def f_X6_settle (N : Nat) (I : OI) (R : RI) (x1 : Int32) : Option RI :=
  f_X6_settle_l2 N I N R x1 0
abbrev rmX6_settle : Room := { frames := 2, cells := 0, slots := 0, locals := 45 }
theorem in_X6_settle_X6 : ∀ w ∈ u_ws RX6 TX6 38, w ∈ wsX6_settle := in_of 17 rfl
theorem hy_X6_settle : yX6_settle.cls ≠ "java/lang/invoke/MethodHandle" ∧ yX6_settle.cls ≠ "java/lang/invoke/VarHandle" ∧ (parseMethodDescriptor yX6_settle.desc).map (fun d => d.parameters.length) = some 1 := by decide +kernel
theorem hyV_X6_settle : yX6_settle.cls = RX6 ∧ yX6_settle.cls ≠ "java/lang/invoke/MethodHandle" ∧ yX6_settle.cls ≠ "java/lang/invoke/VarHandle" ∧ (parseMethodDescriptor yX6_settle.desc).map (fun d => d.parameters.length) = some 1 := ⟨rfl, hy_X6_settle⟩
set_option maxHeartbeats 8000000 in
set_option maxRecDepth 100000 in
theorem c_X6_settle (l : Launch) (G : va_G) (cI cZ cQ cU cJ : ClassId) (N : Nat) (o : Nat) (ad : Nat → Nat) (I : OI) (R : RI) (x1 : Int32) (out : RI) (hf : f_X6_settle N I R x1 = some out) : Con l yX6_settle wsX6_settle rmX6_settle G vwCl (tys cI cZ cQ cU cJ) nws [.ref o, .int x1] (pf [mW cI cZ o ad I R]) (none) (pf [mW cI cZ o ad I out]) := by
  refine con_of (rv := fun out : RI => none) (Wd := fun out : RI => pf [mW cI cZ o ad I out]) (maxL := 6) (own := RX6) rfl (plainFor_of_name (by decide +kernel)) rfl (Nat.le_of_ble_eq_true rfl) ?_ hf
  intro p e s m args below meth c A C hret hname
  have j165 : ∀ (k39 : RI → Int32 → Int32 → Option RI) (i39 : ∀ (R : RI) (x1 : Int32) (x2 : Int32), VJ p l e rmX6_settle s m args below meth c 6 G vwCl A (QR below G vwCl A args s rmX6_settle.cells rmX6_settle.slots (fun out : RI => none) (fun out : RI => pf [mW cI cZ o ad I out])) 0 0 (k39 R x1 x2) (pf [mW cI cZ o ad I R]) 39 [(0, .ref o), (1, .int x1), (2, .int x2)] []) (k47 : RI → Int32 → Int32 → Int32 → Option RI) (i47 : ∀ (R : RI) (x1 : Int32) (x2 : Int32) (x3 : Int32), VJ p l e rmX6_settle s m args below meth c 6 G vwCl A (QR below G vwCl A args s rmX6_settle.cells rmX6_settle.slots (fun out : RI => none) (fun out : RI => pf [mW cI cZ o ad I out])) 0 0 (k47 R x1 x2 x3) (pf [mW cI cZ o ad I R]) 47 [(0, .ref o), (1, .int x1), (2, .int x2), (3, .int x3)] []) (k58 : RI → Int32 → Int32 → Int32 → Int32 → Option RI) (i58 : ∀ (R : RI) (x1 : Int32) (x2 : Int32) (x3 : Int32) (x4 : Int32), VJ p l e rmX6_settle s m args below meth c 6 G vwCl A (QR below G vwCl A args s rmX6_settle.cells rmX6_settle.slots (fun out : RI => none) (fun out : RI => pf [mW cI cZ o ad I out])) 0 0 (k58 R x1 x2 x3 x4) (pf [mW cI cZ o ad I R]) 58 [(0, .ref o), (1, .int x1), (2, .int x2), (3, .int x3), (4, .int x4)] []) (R : RI) (x1 : Int32) (x3 : Int32) (x4 : Int32), VJ p l e rmX6_settle s m args below meth c 6 G vwCl A (QR below G vwCl A args s rmX6_settle.cells rmX6_settle.slots (fun out : RI => none) (fun out : RI => pf [mW cI cZ o ad I out])) 0 0 (f_X6_settle_j165 N I k39 k47 k58 R x1 x3 x4) (pf [mW cI cZ o ad I R]) 165 [(0, .ref o), (1, .int x1), (3, .int x3), (4, .int x4)] [] := by
    intro k39 i39 k47 i47 k58 i58 R x1 x3 x4
    unfold f_X6_settle_j165
    refine VJ.aload_n C 0 dX6_settle_165 rfl ?_
    refine VJ.get (C0 := RX6) (T := TX6) (N := 38) (ci := 6) C in_X6_settle_X6 0 rfl rfl 27 (Nat.le_of_ble_eq_true rfl) (C.1.2.2.2.2 _ (List.mem_of_getElem? (i := 2) rfl)) (fun _ h9 => h9) (v := .ref (ad 20)) rfl dX6_settle_166 ?_
    refine VJ.iload_n C 2 dX6_settle_169 rfl ?_
    refine VJ.aload_n C 0 dX6_settle_170 rfl ?_
    refine VJ.get (C0 := RX6) (T := TX6) (N := 38) (ci := 6) C in_X6_settle_X6 0 rfl rfl 27 (Nat.le_of_ble_eq_true rfl) (C.1.2.2.2.2 _ (List.mem_of_getElem? (i := 2) rfl)) (fun _ h9 => h9) (v := .ref (ad 20)) rfl dX6_settle_171 ?_
    refine VJ.iload C 3 dX6_settle_174 rfl ?_
    refine VJ.iald C 21 0 rfl rfl dX6_settle_176 ?_
    refine VJ.iastR C 21 0 R 20 (fun R4 => pf [mW cI cZ o ad I R4]) rfl rfl (fun _ => rfl) dX6_settle_177 (fun R4 => ?_)
    refine VJ.iconst (v := 1) C dX6_settle_178 (by decide) ?_
    refine VJ.istore_n C [(2, .int 1), (0, .ref o), (1, .int x1), (3, .int x3), (4, .int x4)] dX6_settle_179 (Nat.le_of_ble_eq_true rfl) rfl ?_
    refine VJ.iincN C 4 (fun v5 => [(4, .int v5), (2, .int 1), (0, .ref o), (1, .int x1), (3, .int x3)]) dX6_settle_180 rfl (Nat.le_of_ble_eq_true rfl) (fun _ => rfl) (fun v5 => ?_)
    refine VJ.goto C 58 dX6_settle_183 (by decide) ?_
    refine VJ.sub [2, 3, 1, 4, 0] rfl ?_
    exact i58 R4 x1 1 x3 v5
  have j109 : ∀ (k39 : RI → Int32 → Int32 → Option RI) (i39 : ∀ (R : RI) (x1 : Int32) (x2 : Int32), VJ p l e rmX6_settle s m args below meth c 6 G vwCl A (QR below G vwCl A args s rmX6_settle.cells rmX6_settle.slots (fun out : RI => none) (fun out : RI => pf [mW cI cZ o ad I out])) 0 0 (k39 R x1 x2) (pf [mW cI cZ o ad I R]) 39 [(0, .ref o), (1, .int x1), (2, .int x2)] []) (k47 : RI → Int32 → Int32 → Int32 → Option RI) (i47 : ∀ (R : RI) (x1 : Int32) (x2 : Int32) (x3 : Int32), VJ p l e rmX6_settle s m args below meth c 6 G vwCl A (QR below G vwCl A args s rmX6_settle.cells rmX6_settle.slots (fun out : RI => none) (fun out : RI => pf [mW cI cZ o ad I out])) 0 0 (k47 R x1 x2 x3) (pf [mW cI cZ o ad I R]) 47 [(0, .ref o), (1, .int x1), (2, .int x2), (3, .int x3)] []) (k58 : RI → Int32 → Int32 → Int32 → Int32 → Option RI) (i58 : ∀ (R : RI) (x1 : Int32) (x2 : Int32) (x3 : Int32) (x4 : Int32), VJ p l e rmX6_settle s m args below meth c 6 G vwCl A (QR below G vwCl A args s rmX6_settle.cells rmX6_settle.slots (fun out : RI => none) (fun out : RI => pf [mW cI cZ o ad I out])) 0 0 (k58 R x1 x2 x3 x4) (pf [mW cI cZ o ad I R]) 58 [(0, .ref o), (1, .int x1), (2, .int x2), (3, .int x3), (4, .int x4)] []) (R : RI) (x1 : Int32) (x2 : Int32) (x3 : Int32) (x4 : Int32) (y0 : Int32), VJ p l e rmX6_settle s m args below meth c 6 G vwCl A (QR below G vwCl A args s rmX6_settle.cells rmX6_settle.slots (fun out : RI => none) (fun out : RI => pf [mW cI cZ o ad I out])) 0 0 (f_X6_settle_j109 N I k39 k47 k58 R x1 x2 x3 x4 y0) (pf [mW cI cZ o ad I R]) 109 [(0, .ref o), (1, .int x1), (2, .int x2), (3, .int x3), (4, .int x4)] [.int y0] := by
    intro k39 i39 k47 i47 k58 i58 R x1 x2 x3 x4 y0
    unfold f_X6_settle_j109
    refine VJ.istore C [(5, .int y0), (0, .ref o), (1, .int x1), (2, .int x2), (3, .int x3), (4, .int x4)] dX6_settle_109 (Nat.le_of_ble_eq_true rfl) rfl ?_
    refine VJ.iload C 0 dX6_settle_111 rfl ?_
    refine VJ.if_eq C 180 dX6_settle_113 (by decide) (fun _ => ?_) (fun _ => ?_)
    · refine VJ.iincN C 5 (fun v2 => [(4, .int v2), (5, .int y0), (0, .ref o), (1, .int x1), (2, .int x2), (3, .int x3)]) dX6_settle_180 rfl (Nat.le_of_ble_eq_true rfl) (fun _ => rfl) (fun v2 => ?_)
      refine VJ.goto C 58 dX6_settle_183 (by decide) ?_
      refine VJ.sub [2, 3, 4, 5, 0] rfl ?_
      exact i58 R x1 x2 x3 v2
    · refine VJ.aload_n C 1 dX6_settle_116 rfl ?_
      refine VJ.get (C0 := RX6) (T := TX6) (N := 38) (ci := 6) C in_X6_settle_X6 0 rfl rfl 27 (Nat.le_of_ble_eq_true rfl) (C.1.2.2.2.2 _ (List.mem_of_getElem? (i := 2) rfl)) (fun _ h9 => h9) (v := .ref (ad 20)) rfl dX6_settle_117 ?_
      refine VJ.iload C 5 dX6_settle_120 rfl ?_
      refine VJ.iald C 21 0 rfl rfl dX6_settle_122 ?_
      refine VJ.aload_n C 1 dX6_settle_123 rfl ?_
      refine VJ.get (C0 := RX6) (T := TX6) (N := 38) (ci := 6) C in_X6_settle_X6 0 rfl rfl 27 (Nat.le_of_ble_eq_true rfl) (C.1.2.2.2.2 _ (List.mem_of_getElem? (i := 2) rfl)) (fun _ h9 => h9) (v := .ref (ad 20)) rfl dX6_settle_124 ?_
      refine VJ.iload_n C 4 dX6_settle_127 rfl ?_
      refine VJ.iald C 21 0 rfl rfl dX6_settle_128 ?_
      refine VJ.icmp_ge C 180 dX6_settle_129 (by decide) (fun _ => ?_) (fun _ => ?_)
      · refine VJ.iincN C 5 (fun v3 => [(4, .int v3), (5, .int y0), (0, .ref o), (1, .int x1), (2, .int x2), (3, .int x3)]) dX6_settle_180 rfl (Nat.le_of_ble_eq_true rfl) (fun _ => rfl) (fun v3 => ?_)
        refine VJ.goto C 58 dX6_settle_183 (by decide) ?_
        refine VJ.sub [2, 3, 4, 5, 0] rfl ?_
        exact i58 R x1 x2 x3 v3
      · refine VJ.aload_n C 1 dX6_settle_132 rfl ?_
        refine VJ.get (C0 := RX6) (T := TX6) (N := 38) (ci := 6) C in_X6_settle_X6 0 rfl rfl 22 (Nat.le_of_ble_eq_true rfl) (C.1.2.2.2.2 _ (List.mem_of_getElem? (i := 5) rfl)) (fun _ h9 => h9) (v := .ref (ad 15)) rfl dX6_settle_133 ?_
        refine VJ.iload_n C 4 dX6_settle_136 rfl ?_
        refine VJ.iald C 16 0 rfl rfl dX6_settle_137 ?_
        refine VJ.iload C 5 dX6_settle_138 rfl ?_
        refine VJ.icmp_eq C 165 dX6_settle_140 (by decide) (fun _ => ?_) (fun _ => ?_)
        · refine VJ.sub [1, 2, 4, 5] rfl ?_
          exact j165 k39 i39 k47 i47 k58 i58 R x1 x3 x4
        · refine VJ.aload_n C 1 dX6_settle_143 rfl ?_
          refine VJ.iload_n C 4 dX6_settle_144 rfl ?_
          refine VJ.iload C 5 dX6_settle_145 rfl ?_
          refine VJ.iload_n C 2 dX6_settle_147 rfl ?_
          refine VJ.callV1 C [.int x3, .int x4, .int x1] (pf [mW cI cZ o ad I R]) ([]) (fun r6 => some (.int r6)) (fun r6 => pf [mW cI cZ o ad I R]) (fun r6 => pf [mW cI cZ o ad I R]) (fun r6 => [.int r6]) 0 0 (fun _ h9 => c_X6_isChild l G cI cZ cQ cU cJ o ad I R x3 x4 x1 _ h9) (vj_p0 _) (fun _ => vj_p0' _) 0 rfl rfl (cwV 3 C.1.2.2.2.2 gX6_settle_X6_isChild rfl rfl rfl hyV_X6_isChild ⟨Nat.le_of_ble_eq_true rfl, Nat.le_of_ble_eq_true rfl⟩) rfl rfl (fun _ => rfl) (Nat.le_of_ble_eq_true rfl) dX6_settle_148 ⟨Nat.le_of_ble_eq_true rfl, Nat.le_of_ble_eq_true rfl⟩ ⟨rfl, rfl⟩ (fun r6 => ?_)
          refine VJ.if_ne C 165 dX6_settle_151 (by decide) (fun _ => ?_) (fun _ => ?_)
          · refine VJ.sub [1, 2, 4, 5] rfl ?_
            exact j165 k39 i39 k47 i47 k58 i58 R x1 x3 x4
          · refine VJ.aload_n C 1 dX6_settle_154 rfl ?_
            refine VJ.iload C 5 dX6_settle_155 rfl ?_
            refine VJ.iload_n C 4 dX6_settle_157 rfl ?_
            refine VJ.iload_n C 2 dX6_settle_158 rfl ?_
            refine VJ.callV1 C [.int x4, .int x3, .int x1] (pf [mW cI cZ o ad I R]) ([]) (fun r7 => some (.int r7)) (fun r7 => pf [mW cI cZ o ad I R]) (fun r7 => pf [mW cI cZ o ad I R]) (fun r7 => [.int r7]) 0 0 (fun _ h9 => c_X6_isChild l G cI cZ cQ cU cJ o ad I R x4 x3 x1 _ h9) (vj_p0 _) (fun _ => vj_p0' _) 0 rfl rfl (cwV 3 C.1.2.2.2.2 gX6_settle_X6_isChild rfl rfl rfl hyV_X6_isChild ⟨Nat.le_of_ble_eq_true rfl, Nat.le_of_ble_eq_true rfl⟩) rfl rfl (fun _ => rfl) (Nat.le_of_ble_eq_true rfl) dX6_settle_159 ⟨Nat.le_of_ble_eq_true rfl, Nat.le_of_ble_eq_true rfl⟩ ⟨rfl, rfl⟩ (fun r7 => ?_)
            refine VJ.if_eq C 180 dX6_settle_162 (by decide) (fun _ => ?_) (fun _ => ?_)
            · refine VJ.iincN C 5 (fun v8 => [(4, .int v8), (5, .int y0), (0, .ref o), (1, .int x1), (2, .int x2), (3, .int x3)]) dX6_settle_180 rfl (Nat.le_of_ble_eq_true rfl) (fun _ => rfl) (fun v8 => ?_)
              refine VJ.goto C 58 dX6_settle_183 (by decide) ?_
              refine VJ.sub [2, 3, 4, 5, 0] rfl ?_
              exact i58 R x1 x2 x3 v8
            · refine VJ.sub [1, 2, 4, 5] rfl ?_
              exact j165 k39 i39 k47 i47 k58 i58 R x1 x3 x4
  have j58 : ∀ (k39 : RI → Int32 → Int32 → Option RI) (i39 : ∀ (R : RI) (x1 : Int32) (x2 : Int32), VJ p l e rmX6_settle s m args below meth c 6 G vwCl A (QR below G vwCl A args s rmX6_settle.cells rmX6_settle.slots (fun out : RI => none) (fun out : RI => pf [mW cI cZ o ad I out])) 0 0 (k39 R x1 x2) (pf [mW cI cZ o ad I R]) 39 [(0, .ref o), (1, .int x1), (2, .int x2)] []) (k47 : RI → Int32 → Int32 → Int32 → Option RI) (i47 : ∀ (R : RI) (x1 : Int32) (x2 : Int32) (x3 : Int32), VJ p l e rmX6_settle s m args below meth c 6 G vwCl A (QR below G vwCl A args s rmX6_settle.cells rmX6_settle.slots (fun out : RI => none) (fun out : RI => pf [mW cI cZ o ad I out])) 0 0 (k47 R x1 x2 x3) (pf [mW cI cZ o ad I R]) 47 [(0, .ref o), (1, .int x1), (2, .int x2), (3, .int x3)] []) (n9 : Nat) (R : RI) (x1 : Int32) (x2 : Int32) (x3 : Int32) (x4 : Int32), VJ p l e rmX6_settle s m args below meth c 6 G vwCl A (QR below G vwCl A args s rmX6_settle.cells rmX6_settle.slots (fun out : RI => none) (fun out : RI => pf [mW cI cZ o ad I out])) 0 0 (f_X6_settle_l58 N I k39 k47 n9 R x1 x2 x3 x4) (pf [mW cI cZ o ad I R]) 58 [(0, .ref o), (1, .int x1), (2, .int x2), (3, .int x3), (4, .int x4)] [] := by
    intro k39 i39 k47 i47 n9
    induction n9 with
    | zero => intro R x1 x2 x3 x4; exact VJ.fnone rfl
    | succ n9 i58 =>
      intro R x1 x2 x3 x4
      refine VJ.eqf (f' := f_X6_settle_l58b N I k39 k47 (f_X6_settle_l58 N I k39 k47 n9) R x1 x2 x3 x4) rfl ?_
      generalize f_X6_settle_l58 N I k39 k47 n9 = k58 at i58 ⊢
      unfold f_X6_settle_l58b
      refine VJ.iload C 4 dX6_settle_58 rfl ?_
      refine VJ.aload_n C 0 dX6_settle_60 rfl ?_
      refine VJ.get (C0 := RX6) (T := TX6) (N := 38) (ci := 6) C in_X6_settle_X6 0 rfl rfl 13 (Nat.le_of_ble_eq_true rfl) (C.1.2.2.2.2 _ (List.mem_of_getElem? (i := 1) rfl)) (fun _ h9 => h9) (v := .int (I 4)) rfl dX6_settle_61 ?_
      refine VJ.icmp_ge C 186 dX6_settle_64 (by decide) (fun _ => ?_) (fun _ => ?_)
      · refine VJ.iincN C 3 (fun v1 => [(3, .int v1), (0, .ref o), (1, .int x1), (2, .int x2), (4, .int x4)]) dX6_settle_186 rfl (Nat.le_of_ble_eq_true rfl) (fun _ => rfl) (fun v1 => ?_)
        refine VJ.goto C 47 dX6_settle_189 (by decide) ?_
        refine VJ.sub [1, 2, 3, 0] rfl ?_
        exact i47 R x1 x2 v1
      · refine VJ.aload_n C 0 dX6_settle_67 rfl ?_
        refine VJ.get (C0 := RX6) (T := TX6) (N := 38) (ci := 6) C in_X6_settle_X6 0 rfl rfl 19 (Nat.le_of_ble_eq_true rfl) (C.1.2.2.2.2 _ (List.mem_of_getElem? (i := 3) rfl)) (fun _ h9 => h9) (v := .ref (ad 12)) rfl dX6_settle_68 ?_
        refine VJ.iload_n C 3 dX6_settle_71 rfl ?_
        refine VJ.iald C 13 0 rfl rfl dX6_settle_72 ?_
        refine VJ.iconst (v := 1) C dX6_settle_73 (by decide) ?_
        refine VJ.icmp_ne C 108 dX6_settle_74 (by decide) (fun _ => ?_) (fun _ => ?_)
        · refine VJ.iconst (v := 0) C dX6_settle_108 (by decide) ?_
          exact j109 k39 i39 k47 i47 k58 i58 R x1 x2 x3 x4 0
        · refine VJ.aload_n C 0 dX6_settle_77 rfl ?_
          refine VJ.get (C0 := RX6) (T := TX6) (N := 38) (ci := 6) C in_X6_settle_X6 0 rfl rfl 19 (Nat.le_of_ble_eq_true rfl) (C.1.2.2.2.2 _ (List.mem_of_getElem? (i := 3) rfl)) (fun _ h9 => h9) (v := .ref (ad 12)) rfl dX6_settle_78 ?_
          refine VJ.iload C 4 dX6_settle_81 rfl ?_
          refine VJ.iald C 13 0 rfl rfl dX6_settle_83 ?_
          refine VJ.iconst (v := 1) C dX6_settle_84 (by decide) ?_
          refine VJ.icmp_ne C 108 dX6_settle_85 (by decide) (fun _ => ?_) (fun _ => ?_)
          · refine VJ.iconst (v := 0) C dX6_settle_108 (by decide) ?_
            exact j109 k39 i39 k47 i47 k58 i58 R x1 x2 x3 x4 0
          · refine VJ.aload_n C 0 dX6_settle_88 rfl ?_
            refine VJ.get (C0 := RX6) (T := TX6) (N := 38) (ci := 6) C in_X6_settle_X6 0 rfl rfl 20 (Nat.le_of_ble_eq_true rfl) (C.1.2.2.2.2 _ (List.mem_of_getElem? (i := 4) rfl)) (fun _ h9 => h9) (v := .ref (ad 13)) rfl dX6_settle_89 ?_
            refine VJ.iload_n C 3 dX6_settle_92 rfl ?_
            refine VJ.iald C 14 0 rfl rfl dX6_settle_93 ?_
            refine VJ.aload_n C 0 dX6_settle_94 rfl ?_
            refine VJ.get (C0 := RX6) (T := TX6) (N := 38) (ci := 6) C in_X6_settle_X6 0 rfl rfl 20 (Nat.le_of_ble_eq_true rfl) (C.1.2.2.2.2 _ (List.mem_of_getElem? (i := 4) rfl)) (fun _ h9 => h9) (v := .ref (ad 13)) rfl dX6_settle_95 ?_
            refine VJ.iload C 4 dX6_settle_98 rfl ?_
            refine VJ.iald C 14 0 rfl rfl dX6_settle_100 ?_
            refine VJ.icmp_ne C 108 dX6_settle_101 (by decide) (fun _ => ?_) (fun _ => ?_)
            · refine VJ.iconst (v := 0) C dX6_settle_108 (by decide) ?_
              exact j109 k39 i39 k47 i47 k58 i58 R x1 x2 x3 x4 0
            · refine VJ.iconst (v := 1) C dX6_settle_104 (by decide) ?_
              refine VJ.goto C 109 dX6_settle_105 (by decide) ?_
              exact j109 k39 i39 k47 i47 k58 i58 R x1 x2 x3 x4 1
  have j47 : ∀ (k39 : RI → Int32 → Int32 → Option RI) (i39 : ∀ (R : RI) (x1 : Int32) (x2 : Int32), VJ p l e rmX6_settle s m args below meth c 6 G vwCl A (QR below G vwCl A args s rmX6_settle.cells rmX6_settle.slots (fun out : RI => none) (fun out : RI => pf [mW cI cZ o ad I out])) 0 0 (k39 R x1 x2) (pf [mW cI cZ o ad I R]) 39 [(0, .ref o), (1, .int x1), (2, .int x2)] []) (n9 : Nat) (R : RI) (x1 : Int32) (x2 : Int32) (x3 : Int32), VJ p l e rmX6_settle s m args below meth c 6 G vwCl A (QR below G vwCl A args s rmX6_settle.cells rmX6_settle.slots (fun out : RI => none) (fun out : RI => pf [mW cI cZ o ad I out])) 0 0 (f_X6_settle_l47 N I k39 n9 R x1 x2 x3) (pf [mW cI cZ o ad I R]) 47 [(0, .ref o), (1, .int x1), (2, .int x2), (3, .int x3)] [] := by
    intro k39 i39 n9
    induction n9 with
    | zero => intro R x1 x2 x3; exact VJ.fnone rfl
    | succ n9 i47 =>
      intro R x1 x2 x3
      refine VJ.eqf (f' := f_X6_settle_l47b N I k39 (f_X6_settle_l47 N I k39 n9) R x1 x2 x3) rfl ?_
      generalize f_X6_settle_l47 N I k39 n9 = k47 at i47 ⊢
      unfold f_X6_settle_l47b
      refine VJ.iload_n C 3 dX6_settle_47 rfl ?_
      refine VJ.aload_n C 0 dX6_settle_48 rfl ?_
      refine VJ.get (C0 := RX6) (T := TX6) (N := 38) (ci := 6) C in_X6_settle_X6 0 rfl rfl 13 (Nat.le_of_ble_eq_true rfl) (C.1.2.2.2.2 _ (List.mem_of_getElem? (i := 1) rfl)) (fun _ h9 => h9) (v := .int (I 4)) rfl dX6_settle_49 ?_
      refine VJ.icmp_ge C 192 dX6_settle_52 (by decide) (fun _ => ?_) (fun _ => ?_)
      · refine VJ.goto C 39 dX6_settle_192 (by decide) ?_
        refine VJ.sub [0, 1, 2] rfl ?_
        exact i39 R x1 x2
      · refine VJ.iconst (v := 0) C dX6_settle_55 (by decide) ?_
        refine VJ.istore C [(4, .int 0), (0, .ref o), (1, .int x1), (2, .int x2), (3, .int x3)] dX6_settle_56 (Nat.le_of_ble_eq_true rfl) rfl ?_
        refine VJ.sub [1, 2, 3, 4, 0] rfl ?_
        exact j58 k39 i39 k47 i47 N R x1 x2 x3 0
  have j39 : ∀ (n9 : Nat) (R : RI) (x1 : Int32) (x2 : Int32), VJ p l e rmX6_settle s m args below meth c 6 G vwCl A (QR below G vwCl A args s rmX6_settle.cells rmX6_settle.slots (fun out : RI => none) (fun out : RI => pf [mW cI cZ o ad I out])) 0 0 (f_X6_settle_l39 N I  n9 R x1 x2) (pf [mW cI cZ o ad I R]) 39 [(0, .ref o), (1, .int x1), (2, .int x2)] [] := by
    intro  n9
    induction n9 with
    | zero => intro R x1 x2; exact VJ.fnone rfl
    | succ n9 i39 =>
      intro R x1 x2
      refine VJ.eqf (f' := f_X6_settle_l39b N I  (f_X6_settle_l39 N I  n9) R x1 x2) rfl ?_
      generalize f_X6_settle_l39 N I  n9 = k39 at i39 ⊢
      unfold f_X6_settle_l39b
      refine VJ.iload_n C 2 dX6_settle_39 rfl ?_
      refine VJ.if_eq C 195 dX6_settle_40 (by decide) (fun _ => ?_) (fun _ => ?_)
      · exact VJ.vret C hret rfl rfl dX6_settle_195
      · refine VJ.iconst (v := 0) C dX6_settle_43 (by decide) ?_
        refine VJ.istore_n C [(2, .int 0), (0, .ref o), (1, .int x1)] dX6_settle_44 (Nat.le_of_ble_eq_true rfl) rfl ?_
        refine VJ.iconst (v := 0) C dX6_settle_45 (by decide) ?_
        refine VJ.istore_n C [(3, .int 0), (2, .int 0), (0, .ref o), (1, .int x1)] dX6_settle_46 (Nat.le_of_ble_eq_true rfl) rfl ?_
        refine VJ.sub [2, 3, 1, 0] rfl ?_
        exact j47 k39 i39 N R x1 0 0
  have j30 : ∀ (k2 : RI → Int32 → Int32 → Option RI) (i2 : ∀ (R : RI) (x1 : Int32) (x2 : Int32), VJ p l e rmX6_settle s m args below meth c 6 G vwCl A (QR below G vwCl A args s rmX6_settle.cells rmX6_settle.slots (fun out : RI => none) (fun out : RI => pf [mW cI cZ o ad I out])) 0 0 (k2 R x1 x2) (pf [mW cI cZ o ad I R]) 2 [(0, .ref o), (1, .int x1), (2, .int x2)] []) (R : RI) (x1 : Int32) (x2 : Int32) (y0 : Int32) (y1 : Int32), VJ p l e rmX6_settle s m args below meth c 6 G vwCl A (QR below G vwCl A args s rmX6_settle.cells rmX6_settle.slots (fun out : RI => none) (fun out : RI => pf [mW cI cZ o ad I out])) 0 0 (f_X6_settle_j30 N I k2 R x1 x2 y0 y1) (pf [mW cI cZ o ad I R]) 30 [(0, .ref o), (1, .int x1), (2, .int x2)] [.int y0, .int y1, .ref (ad 20)] := by
    intro k2 i2 R x1 x2 y0 y1
    unfold f_X6_settle_j30
    refine VJ.iastR C 21 0 R 20 (fun R9 => pf [mW cI cZ o ad I R9]) rfl rfl (fun _ => rfl) dX6_settle_30 (fun R9 => ?_)
    refine VJ.iincN C 2 (fun v10 => [(2, .int v10), (0, .ref o), (1, .int x1)]) dX6_settle_31 rfl (Nat.le_of_ble_eq_true rfl) (fun _ => rfl) (fun v10 => ?_)
    refine VJ.goto C 2 dX6_settle_34 (by decide) ?_
    refine VJ.sub [1, 2, 0] rfl ?_
    exact i2 R9 x1 v10
  have j2 : ∀ (n9 : Nat) (R : RI) (x1 : Int32) (x2 : Int32), VJ p l e rmX6_settle s m args below meth c 6 G vwCl A (QR below G vwCl A args s rmX6_settle.cells rmX6_settle.slots (fun out : RI => none) (fun out : RI => pf [mW cI cZ o ad I out])) 0 0 (f_X6_settle_l2 N I  n9 R x1 x2) (pf [mW cI cZ o ad I R]) 2 [(0, .ref o), (1, .int x1), (2, .int x2)] [] := by
    intro  n9
    induction n9 with
    | zero => intro R x1 x2; exact VJ.fnone rfl
    | succ n9 i2 =>
      intro R x1 x2
      refine VJ.eqf (f' := f_X6_settle_l2b N I  (f_X6_settle_l2 N I  n9) R x1 x2) rfl ?_
      generalize f_X6_settle_l2 N I  n9 = k2 at i2 ⊢
      unfold f_X6_settle_l2b
      refine VJ.iload_n C 2 dX6_settle_2 rfl ?_
      refine VJ.aload_n C 0 dX6_settle_3 rfl ?_
      refine VJ.get (C0 := RX6) (T := TX6) (N := 38) (ci := 6) C in_X6_settle_X6 0 rfl rfl 13 (Nat.le_of_ble_eq_true rfl) (C.1.2.2.2.2 _ (List.mem_of_getElem? (i := 1) rfl)) (fun _ h9 => h9) (v := .int (I 4)) rfl dX6_settle_4 ?_
      refine VJ.icmp_ge C 37 dX6_settle_7 (by decide) (fun _ => ?_) (fun _ => ?_)
      · refine VJ.iconst (v := 1) C dX6_settle_37 (by decide) ?_
        refine VJ.istore_n C [(2, .int 1), (0, .ref o), (1, .int x1)] dX6_settle_38 (Nat.le_of_ble_eq_true rfl) rfl ?_
        refine VJ.sub [1, 2, 0] rfl ?_
        exact j39 N R x1 1
      · refine VJ.aload_n C 0 dX6_settle_10 rfl ?_
        refine VJ.get (C0 := RX6) (T := TX6) (N := 38) (ci := 6) C in_X6_settle_X6 0 rfl rfl 27 (Nat.le_of_ble_eq_true rfl) (C.1.2.2.2.2 _ (List.mem_of_getElem? (i := 2) rfl)) (fun _ h9 => h9) (v := .ref (ad 20)) rfl dX6_settle_11 ?_
        refine VJ.iload_n C 2 dX6_settle_14 rfl ?_
        refine VJ.aload_n C 0 dX6_settle_15 rfl ?_
        refine VJ.get (C0 := RX6) (T := TX6) (N := 38) (ci := 6) C in_X6_settle_X6 0 rfl rfl 19 (Nat.le_of_ble_eq_true rfl) (C.1.2.2.2.2 _ (List.mem_of_getElem? (i := 3) rfl)) (fun _ h9 => h9) (v := .ref (ad 12)) rfl dX6_settle_16 ?_
        refine VJ.iload_n C 2 dX6_settle_19 rfl ?_
        refine VJ.iald C 13 0 rfl rfl dX6_settle_20 ?_
        refine VJ.iconst (v := 1) C dX6_settle_21 (by decide) ?_
        refine VJ.icmp_ne C 29 dX6_settle_22 (by decide) (fun _ => ?_) (fun _ => ?_)
        · refine VJ.iconst (v := (-1)) C dX6_settle_29 (by decide) ?_
          exact j30 k2 i2 R x1 x2 (-1) x2
        · refine VJ.iload_n C 2 dX6_settle_25 rfl ?_
          refine VJ.goto C 30 dX6_settle_26 (by decide) ?_
          exact j30 k2 i2 R x1 x2 x2 x2
  unfold f_X6_settle
  refine VJ.iconst (v := 0) C dX6_settle_0 (by decide) ?_
  refine VJ.istore_n C [(2, .int 0), (0, .ref o), (1, .int x1)] dX6_settle_1 (Nat.le_of_ble_eq_true rfl) rfl ?_
  refine VJ.sub [1, 2, 0] rfl ?_
  exact j2 N R x1 0

def f_X6_tells (N : Nat) (I : OI) (R : RI) (x1 : Int32) (x2 : Int32) (x3 : Int32) : Option (Int32 × RI) :=
  if 3 ≤ x2 then (if 6 ≤ x2 then (ob1 (f_X6_settle N I R x3) (fun R1 => og x1 24 (some (R1 20 x1.toNatClampNeg, R1)))) else (if x2 = 3 then (og x1 24 (some (R 15 x1.toNatClampNeg, R))) else (if x2 = 4 then (og x1 24 (some (R 16 x1.toNatClampNeg, R))) else (ob1 (f_X6_ageOf I R x1 x3) (fun r2 => some (r2, R)))))) else (if x2 = 0 then (og x1 24 (some (R 12 x1.toNatClampNeg, R))) else (if x2 = 1 then (og x1 24 (some (R 13 x1.toNatClampNeg, R))) else (og x1 24 (some (R 14 x1.toNatClampNeg, R)))))
abbrev rmX6_tells : Room := { frames := 3, cells := 0, slots := 0, locals := 70 }
theorem in_X6_tells_X6 : ∀ w ∈ u_ws RX6 TX6 38, w ∈ wsX6_tells := in_of 22 rfl
theorem hy_X6_tells : yX6_tells.cls ≠ "java/lang/invoke/MethodHandle" ∧ yX6_tells.cls ≠ "java/lang/invoke/VarHandle" ∧ (parseMethodDescriptor yX6_tells.desc).map (fun d => d.parameters.length) = some 3 := by decide +kernel
theorem hyV_X6_tells : yX6_tells.cls = RX6 ∧ yX6_tells.cls ≠ "java/lang/invoke/MethodHandle" ∧ yX6_tells.cls ≠ "java/lang/invoke/VarHandle" ∧ (parseMethodDescriptor yX6_tells.desc).map (fun d => d.parameters.length) = some 3 := ⟨rfl, hy_X6_tells⟩
set_option maxHeartbeats 8000000 in
set_option maxRecDepth 100000 in
theorem c_X6_tells (l : Launch) (G : va_G) (cI cZ cQ cU cJ : ClassId) (N : Nat) (o : Nat) (ad : Nat → Nat) (I : OI) (R : RI) (x1 : Int32) (x2 : Int32) (x3 : Int32) (out : Int32 × RI) (hf : f_X6_tells N I R x1 x2 x3 = some out) : Con l yX6_tells wsX6_tells rmX6_tells G vwCl (tys cI cZ cQ cU cJ) nws [.ref o, .int x1, .int x2, .int x3] (pf [mW cI cZ o ad I R]) (some (.int out.1)) (pf [mW cI cZ o ad I out.2]) := by
  refine con_of (rv := fun out : Int32 × RI => some (.int out.1)) (Wd := fun out : Int32 × RI => pf [mW cI cZ o ad I out.2]) (maxL := 4) (own := RX6) rfl (plainFor_of_name (by decide +kernel)) rfl (Nat.le_of_ble_eq_true rfl) ?_ hf
  intro p e s m args below meth c A C hret hname
  unfold f_X6_tells
  refine VJ.iload_n C 2 dX6_tells_0 rfl ?_
  refine VJ.iconst (v := 3) C dX6_tells_1 (by decide) ?_
  refine VJ.icmp_ge C 39 dX6_tells_2 (by decide) (fun _ => ?_) (fun _ => ?_)
  · refine VJ.iload_n C 2 dX6_tells_39 rfl ?_
    refine VJ.bipush (v := 6) C dX6_tells_40 (by decide) ?_
    refine VJ.icmp_ge C 80 dX6_tells_42 (by decide) (fun _ => ?_) (fun _ => ?_)
    · refine VJ.aload_n C 0 dX6_tells_80 rfl ?_
      refine VJ.iload_n C 3 dX6_tells_81 rfl ?_
      refine VJ.callV1 C [.int x3] (pf [mW cI cZ o ad I R]) ([]) (fun R1 => none) (fun R1 => pf [mW cI cZ o ad I R1]) (fun R1 => pf [mW cI cZ o ad I R1]) (fun R1 => []) 0 0 (fun _ h9 => c_X6_settle l G cI cZ cQ cU cJ N o ad I R x3 _ h9) (vj_p0 _) (fun _ => vj_p0' _) 0 rfl rfl (cwV 1 C.1.2.2.2.2 gX6_tells_X6_settle rfl rfl rfl hyV_X6_settle ⟨Nat.le_of_ble_eq_true rfl, Nat.le_of_ble_eq_true rfl⟩) rfl rfl (fun _ => rfl) (Nat.le_of_ble_eq_true rfl) dX6_tells_82 ⟨Nat.le_of_ble_eq_true rfl, Nat.le_of_ble_eq_true rfl⟩ ⟨rfl, rfl⟩ (fun R1 => ?_)
      refine VJ.aload_n C 0 dX6_tells_85 rfl ?_
      refine VJ.get (C0 := RX6) (T := TX6) (N := 38) (ci := 6) C in_X6_tells_X6 0 rfl rfl 27 (Nat.le_of_ble_eq_true rfl) (C.1.2.2.2.2 _ (List.mem_of_getElem? (i := 6) rfl)) (fun _ h9 => h9) (v := .ref (ad 20)) rfl dX6_tells_86 ?_
      refine VJ.iload_n C 1 dX6_tells_89 rfl ?_
      refine VJ.iald C 21 0 rfl rfl dX6_tells_90 ?_
      exact VJ.iret C hret rfl rfl dX6_tells_91
    · refine VJ.iload_n C 2 dX6_tells_45 rfl ?_
      refine VJ.iconst (v := 3) C dX6_tells_46 (by decide) ?_
      refine VJ.icmp_ne C 59 dX6_tells_47 (by decide) (fun _ => ?_) (fun _ => ?_)
      · refine VJ.iload_n C 2 dX6_tells_59 rfl ?_
        refine VJ.iconst (v := 4) C dX6_tells_60 (by decide) ?_
        refine VJ.icmp_ne C 73 dX6_tells_61 (by decide) (fun _ => ?_) (fun _ => ?_)
        · refine VJ.aload_n C 0 dX6_tells_73 rfl ?_
          refine VJ.iload_n C 1 dX6_tells_74 rfl ?_
          refine VJ.iload_n C 3 dX6_tells_75 rfl ?_
          refine VJ.callV1 C [.int x1, .int x3] (pf [mW cI cZ o ad I R]) ([]) (fun r2 => some (.int r2)) (fun r2 => pf [mW cI cZ o ad I R]) (fun r2 => pf [mW cI cZ o ad I R]) (fun r2 => [.int r2]) 0 0 (fun _ h9 => c_X6_ageOf l G cI cZ cQ cU cJ o ad I R x1 x3 _ h9) (vj_p0 _) (fun _ => vj_p0' _) 0 rfl rfl (cwV 2 C.1.2.2.2.2 gX6_tells_X6_ageOf rfl rfl rfl hyV_X6_ageOf ⟨Nat.le_of_ble_eq_true rfl, Nat.le_of_ble_eq_true rfl⟩) rfl rfl (fun _ => rfl) (Nat.le_of_ble_eq_true rfl) dX6_tells_76 ⟨Nat.le_of_ble_eq_true rfl, Nat.le_of_ble_eq_true rfl⟩ ⟨rfl, rfl⟩ (fun r2 => ?_)
          exact VJ.iret C hret rfl rfl dX6_tells_79
        · refine VJ.aload_n C 0 dX6_tells_64 rfl ?_
          refine VJ.get (C0 := RX6) (T := TX6) (N := 38) (ci := 6) C in_X6_tells_X6 0 rfl rfl 23 (Nat.le_of_ble_eq_true rfl) (C.1.2.2.2.2 _ (List.mem_of_getElem? (i := 5) rfl)) (fun _ h9 => h9) (v := .ref (ad 16)) rfl dX6_tells_65 ?_
          refine VJ.iload_n C 1 dX6_tells_68 rfl ?_
          refine VJ.iald C 17 0 rfl rfl dX6_tells_69 ?_
          refine VJ.goto C 79 dX6_tells_70 (by decide) ?_
          exact VJ.iret C hret rfl rfl dX6_tells_79
      · refine VJ.aload_n C 0 dX6_tells_50 rfl ?_
        refine VJ.get (C0 := RX6) (T := TX6) (N := 38) (ci := 6) C in_X6_tells_X6 0 rfl rfl 22 (Nat.le_of_ble_eq_true rfl) (C.1.2.2.2.2 _ (List.mem_of_getElem? (i := 4) rfl)) (fun _ h9 => h9) (v := .ref (ad 15)) rfl dX6_tells_51 ?_
        refine VJ.iload_n C 1 dX6_tells_54 rfl ?_
        refine VJ.iald C 16 0 rfl rfl dX6_tells_55 ?_
        refine VJ.goto C 79 dX6_tells_56 (by decide) ?_
        exact VJ.iret C hret rfl rfl dX6_tells_79
  · refine VJ.iload_n C 2 dX6_tells_5 rfl ?_
    refine VJ.if_ne C 18 dX6_tells_6 (by decide) (fun _ => ?_) (fun _ => ?_)
    · refine VJ.iload_n C 2 dX6_tells_18 rfl ?_
      refine VJ.iconst (v := 1) C dX6_tells_19 (by decide) ?_
      refine VJ.icmp_ne C 32 dX6_tells_20 (by decide) (fun _ => ?_) (fun _ => ?_)
      · refine VJ.aload_n C 0 dX6_tells_32 rfl ?_
        refine VJ.get (C0 := RX6) (T := TX6) (N := 38) (ci := 6) C in_X6_tells_X6 0 rfl rfl 21 (Nat.le_of_ble_eq_true rfl) (C.1.2.2.2.2 _ (List.mem_of_getElem? (i := 3) rfl)) (fun _ h9 => h9) (v := .ref (ad 14)) rfl dX6_tells_33 ?_
        refine VJ.iload_n C 1 dX6_tells_36 rfl ?_
        refine VJ.iald C 15 0 rfl rfl dX6_tells_37 ?_
        exact VJ.iret C hret rfl rfl dX6_tells_38
      · refine VJ.aload_n C 0 dX6_tells_23 rfl ?_
        refine VJ.get (C0 := RX6) (T := TX6) (N := 38) (ci := 6) C in_X6_tells_X6 0 rfl rfl 20 (Nat.le_of_ble_eq_true rfl) (C.1.2.2.2.2 _ (List.mem_of_getElem? (i := 2) rfl)) (fun _ h9 => h9) (v := .ref (ad 13)) rfl dX6_tells_24 ?_
        refine VJ.iload_n C 1 dX6_tells_27 rfl ?_
        refine VJ.iald C 14 0 rfl rfl dX6_tells_28 ?_
        refine VJ.goto C 38 dX6_tells_29 (by decide) ?_
        exact VJ.iret C hret rfl rfl dX6_tells_38
    · refine VJ.aload_n C 0 dX6_tells_9 rfl ?_
      refine VJ.get (C0 := RX6) (T := TX6) (N := 38) (ci := 6) C in_X6_tells_X6 0 rfl rfl 19 (Nat.le_of_ble_eq_true rfl) (C.1.2.2.2.2 _ (List.mem_of_getElem? (i := 1) rfl)) (fun _ h9 => h9) (v := .ref (ad 12)) rfl dX6_tells_10 ?_
      refine VJ.iload_n C 1 dX6_tells_13 rfl ?_
      refine VJ.iald C 13 0 rfl rfl dX6_tells_14 ?_
      refine VJ.goto C 38 dX6_tells_15 (by decide) ?_
      exact VJ.iret C hret rfl rfl dX6_tells_38

def f_X6_day (R : RI) (I : OI) : Option (Int32 × OI) :=
  ol (va_up I 0 0) (fun I1 => some (I1 1, I1))
abbrev rmX6_day : Room := { frames := 0, cells := 0, slots := 0, locals := 0 }
theorem in_X6_day_X6 : ∀ w ∈ u_ws RX6 TX6 38, w ∈ wsX6_day := in_of 3 rfl
theorem hy_X6_day : yX6_day.cls ≠ "java/lang/invoke/MethodHandle" ∧ yX6_day.cls ≠ "java/lang/invoke/VarHandle" ∧ (parseMethodDescriptor yX6_day.desc).map (fun d => d.parameters.length) = some 0 := by decide +kernel
theorem hyV_X6_day : yX6_day.cls = RX6 ∧ yX6_day.cls ≠ "java/lang/invoke/MethodHandle" ∧ yX6_day.cls ≠ "java/lang/invoke/VarHandle" ∧ (parseMethodDescriptor yX6_day.desc).map (fun d => d.parameters.length) = some 0 := ⟨rfl, hy_X6_day⟩
set_option maxHeartbeats 8000000 in
set_option maxRecDepth 100000 in
theorem c_X6_day (l : Launch) (G : va_G) (cI cZ cQ cU cJ : ClassId) (o : Nat) (ad : Nat → Nat) (I : OI) (R : RI) (out : Int32 × OI) (hf : f_X6_day R I = some out) : Con l yX6_day wsX6_day rmX6_day G vwCl (tys cI cZ cQ cU cJ) nws [.ref o] (pf [mW cI cZ o ad I R]) (some (.int out.1)) (pf [mW cI cZ o ad out.2 R]) := by
  refine con_of (rv := fun out : Int32 × OI => some (.int out.1)) (Wd := fun out : Int32 × OI => pf [mW cI cZ o ad out.2 R]) (maxL := 1) (own := RX6) rfl (plainFor_of_name (by decide +kernel)) rfl (Nat.le_of_ble_eq_true rfl) ?_ hf
  intro p e s m args below meth c A C hret hname
  unfold f_X6_day
  refine VJ.aload_n C 0 dX6_day_0 rfl ?_
  refine VJ.iconst (v := 0) C dX6_day_1 (by decide) ?_
  refine VJ.putI (C0 := RX6) (T := TX6) (N := 38) (ci := 6) C in_X6_day_X6 0 rfl rfl 0 (Nat.le_of_ble_eq_true rfl) (C.1.2.2.2.2 _ (List.mem_of_getElem? (i := 1) rfl)) (fun _ h9 => h9) (Ii := I) (jj := 0) (fun I1 => pf [mW cI cZ o ad I1 R]) tyX6 tyX6_ok nmX6 rfl rfl (Nat.le_of_ble_eq_true rfl) (fun _ => rfl) dX6_day_2 (fun I1 => ?_)
  refine VJ.aload_n C 0 dX6_day_5 rfl ?_
  refine VJ.get (C0 := RX6) (T := TX6) (N := 38) (ci := 6) C in_X6_day_X6 0 rfl rfl 1 (Nat.le_of_ble_eq_true rfl) (C.1.2.2.2.2 _ (List.mem_of_getElem? (i := 2) rfl)) (fun _ h9 => h9) (v := .int (I1 1)) rfl dX6_day_6 ?_
  exact VJ.iret C hret rfl rfl dX6_day_9

