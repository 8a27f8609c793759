

set_option maxHeartbeats 4000000 in
set_option maxRecDepth 100000 in
def f_X6_actOf_j33 (R : RI) (I : OI) (x1 : Int32) (x2 : Int32) (y0 : Int32) : Option (Int32 × OI) :=
  ob2 (f_X6_refused R I y0) (fun r3 I4 => if r3 = 0 then (if x2 = 0 then (og x1 150 (some (R 0 x1.toNatClampNeg, I4))) else (if x2 = 1 then (og x1 150 (some (R 1 x1.toNatClampNeg, I4))) else (if x2 = 2 then (og x1 150 (some (R 2 x1.toNatClampNeg, I4))) else (if x2 = 3 then (og x1 150 (some (R 3 x1.toNatClampNeg, I4))) else (og x1 150 (some (R 7 x1.toNatClampNeg, I4))))))) else (some (0, I4)))
def f_X6_actOf (R : RI) (I : OI) (x1 : Int32) (x2 : Int32) : Option (Int32 × OI) :=
  ob1 (f_X6_within x1 0 ((I 2) - 1)) (fun r1 => if r1 = 0 then (f_X6_actOf_j33 R I x1 x2 1) else (ob1 (f_X6_within x2 0 4) (fun r2 => if r2 = 0 then (f_X6_actOf_j33 R I x1 x2 2) else (f_X6_actOf_j33 R I x1 x2 0))))
abbrev rmX6_actOf : Room := { frames := 1, cells := 0, slots := 0, locals := 22 }
theorem in_X6_actOf_X6 : ∀ w ∈ u_ws RX6 TX6 38, w ∈ wsX6_actOf := in_of 16 rfl
theorem hy_X6_actOf : yX6_actOf.cls ≠ "java/lang/invoke/MethodHandle" ∧ yX6_actOf.cls ≠ "java/lang/invoke/VarHandle" ∧ (parseMethodDescriptor yX6_actOf.desc).map (fun d => d.parameters.length) = some 2 := by decide +kernel
theorem hyV_X6_actOf : yX6_actOf.cls = RX6 ∧ yX6_actOf.cls ≠ "java/lang/invoke/MethodHandle" ∧ yX6_actOf.cls ≠ "java/lang/invoke/VarHandle" ∧ (parseMethodDescriptor yX6_actOf.desc).map (fun d => d.parameters.length) = some 2 := ⟨rfl, hy_X6_actOf⟩
set_option maxHeartbeats 8000000 in
set_option maxRecDepth 100000 in
theorem c_X6_actOf (l : Launch) (G : va_G) (cI cZ cQ cU cJ : ClassId) (o : Nat) (ad : Nat → Nat) (I : OI) (R : RI) (x1 : Int32) (x2 : Int32) (out : Int32 × OI) (hf : f_X6_actOf R I x1 x2 = some out) : Con l yX6_actOf wsX6_actOf rmX6_actOf G vwCl (tys cI cZ cQ cU cJ) nws [.ref o, .int x1, .int x2] (pf [mW cI cZ o ad I R]) (some (.int out.1)) (pf [mW cI cZ o ad out.2 R]) := by
  refine con_of (rv := fun out : Int32 × OI => some (.int out.1)) (Wd := fun out : Int32 × OI => pf [mW cI cZ o ad out.2 R]) (maxL := 3) (own := RX6) rfl (plainFor_of_name (by decide +kernel)) rfl (Nat.le_of_ble_eq_true rfl) ?_ hf
  intro p e s m args below meth c A C hret hname
  have j33 : ∀ (I : OI) (x1 : Int32) (x2 : Int32) (y0 : Int32), VJ p l e rmX6_actOf s m args below meth c 3 G vwCl A (QR below G vwCl A args s rmX6_actOf.cells rmX6_actOf.slots (fun out : Int32 × OI => some (.int out.1)) (fun out : Int32 × OI => pf [mW cI cZ o ad out.2 R])) 0 0 (f_X6_actOf_j33 R  I x1 x2 y0) (pf [mW cI cZ o ad I R]) 33 [(0, .ref o), (1, .int x1), (2, .int x2)] [.int y0, .ref o] := by
    intro  I x1 x2 y0
    unfold f_X6_actOf_j33
    refine VJ.callV2 C [.int y0] (pf [mW cI cZ o ad I R]) ([]) (fun r3 I4 => some (.int r3)) (fun r3 I4 => pf [mW cI cZ o ad I4 R]) (fun r3 I4 => pf [mW cI cZ o ad I4 R]) (fun r3 I4 => [.int r3]) 0 0 (fun _ h9 => c_X6_refused l G cI cZ cQ cU cJ o ad I R y0 _ h9) (vj_p0 _) (fun _ _ => vj_p0' _) 0 rfl rfl (cwV 1 C.1.2.2.2.2 gX6_actOf_X6_refused rfl rfl rfl hyV_X6_refused ⟨Nat.le_of_ble_eq_true rfl, Nat.le_of_ble_eq_true rfl⟩) rfl rfl (fun _ _ => rfl) (Nat.le_of_ble_eq_true rfl) dX6_actOf_33 ⟨Nat.le_of_ble_eq_true rfl, Nat.le_of_ble_eq_true rfl⟩ ⟨rfl, rfl⟩ (fun r3 I4 => ?_)
    refine VJ.if_eq C 41 dX6_actOf_36 (by decide) (fun _ => ?_) (fun _ => ?_)
    · refine VJ.iload_n C 2 dX6_actOf_41 rfl ?_
      refine VJ.if_ne C 54 dX6_actOf_42 (by decide) (fun _ => ?_) (fun _ => ?_)
      · refine VJ.iload_n C 2 dX6_actOf_54 rfl ?_
        refine VJ.iconst (v := 1) C dX6_actOf_55 (by decide) ?_
        refine VJ.icmp_ne C 68 dX6_actOf_56 (by decide) (fun _ => ?_) (fun _ => ?_)
        · refine VJ.iload_n C 2 dX6_actOf_68 rfl ?_
          refine VJ.iconst (v := 2) C dX6_actOf_69 (by decide) ?_
          refine VJ.icmp_ne C 82 dX6_actOf_70 (by decide) (fun _ => ?_) (fun _ => ?_)
          · refine VJ.iload_n C 2 dX6_actOf_82 rfl ?_
            refine VJ.iconst (v := 3) C dX6_actOf_83 (by decide) ?_
            refine VJ.icmp_ne C 96 dX6_actOf_84 (by decide) (fun _ => ?_) (fun _ => ?_)
            · refine VJ.aload_n C 0 dX6_actOf_96 rfl ?_
              refine VJ.get (C0 := RX6) (T := TX6) (N := 38) (ci := 6) C in_X6_actOf_X6 0 rfl rfl 10 (Nat.le_of_ble_eq_true rfl) (C.1.2.2.2.2 _ (List.mem_of_getElem? (i := 6) rfl)) (fun _ h9 => h9) (v := .ref (ad 7)) rfl dX6_actOf_97 ?_
              refine VJ.iload_n C 1 dX6_actOf_100 rfl ?_
              refine VJ.iald C 8 0 rfl rfl dX6_actOf_101 ?_
              exact VJ.iret C hret rfl rfl dX6_actOf_102
            · refine VJ.aload_n C 0 dX6_actOf_87 rfl ?_
              refine VJ.get (C0 := RX6) (T := TX6) (N := 38) (ci := 6) C in_X6_actOf_X6 0 rfl rfl 6 (Nat.le_of_ble_eq_true rfl) (C.1.2.2.2.2 _ (List.mem_of_getElem? (i := 5) rfl)) (fun _ h9 => h9) (v := .ref (ad 3)) rfl dX6_actOf_88 ?_
              refine VJ.iload_n C 1 dX6_actOf_91 rfl ?_
              refine VJ.iald C 4 0 rfl rfl dX6_actOf_92 ?_
              refine VJ.goto C 102 dX6_actOf_93 (by decide) ?_
              exact VJ.iret C hret rfl rfl dX6_actOf_102
          · refine VJ.aload_n C 0 dX6_actOf_73 rfl ?_
            refine VJ.get (C0 := RX6) (T := TX6) (N := 38) (ci := 6) C in_X6_actOf_X6 0 rfl rfl 5 (Nat.le_of_ble_eq_true rfl) (C.1.2.2.2.2 _ (List.mem_of_getElem? (i := 4) rfl)) (fun _ h9 => h9) (v := .ref (ad 2)) rfl dX6_actOf_74 ?_
            refine VJ.iload_n C 1 dX6_actOf_77 rfl ?_
            refine VJ.iald C 3 0 rfl rfl dX6_actOf_78 ?_
            refine VJ.goto C 102 dX6_actOf_79 (by decide) ?_
            exact VJ.iret C hret rfl rfl dX6_actOf_102
        · refine VJ.aload_n C 0 dX6_actOf_59 rfl ?_
          refine VJ.get (C0 := RX6) (T := TX6) (N := 38) (ci := 6) C in_X6_actOf_X6 0 rfl rfl 4 (Nat.le_of_ble_eq_true rfl) (C.1.2.2.2.2 _ (List.mem_of_getElem? (i := 3) rfl)) (fun _ h9 => h9) (v := .ref (ad 1)) rfl dX6_actOf_60 ?_
          refine VJ.iload_n C 1 dX6_actOf_63 rfl ?_
          refine VJ.iald C 2 0 rfl rfl dX6_actOf_64 ?_
          refine VJ.goto C 102 dX6_actOf_65 (by decide) ?_
          exact VJ.iret C hret rfl rfl dX6_actOf_102
      · refine VJ.aload_n C 0 dX6_actOf_45 rfl ?_
        refine VJ.get (C0 := RX6) (T := TX6) (N := 38) (ci := 6) C in_X6_actOf_X6 0 rfl rfl 3 (Nat.le_of_ble_eq_true rfl) (C.1.2.2.2.2 _ (List.mem_of_getElem? (i := 2) rfl)) (fun _ h9 => h9) (v := .ref (ad 0)) rfl dX6_actOf_46 ?_
        refine VJ.iload_n C 1 dX6_actOf_49 rfl ?_
        refine VJ.iald C 1 0 rfl rfl dX6_actOf_50 ?_
        refine VJ.goto C 102 dX6_actOf_51 (by decide) ?_
        exact VJ.iret C hret rfl rfl dX6_actOf_102
    · refine VJ.iconst (v := 0) C dX6_actOf_39 (by decide) ?_
      exact VJ.iret C hret rfl rfl dX6_actOf_40
  unfold f_X6_actOf
  refine VJ.aload_n C 0 dX6_actOf_0 rfl ?_
  refine VJ.iload_n C 1 dX6_actOf_1 rfl ?_
  refine VJ.iconst (v := 0) C dX6_actOf_2 (by decide) ?_
  refine VJ.aload_n C 0 dX6_actOf_3 rfl ?_
  refine VJ.get (C0 := RX6) (T := TX6) (N := 38) (ci := 6) C in_X6_actOf_X6 0 rfl rfl 2 (Nat.le_of_ble_eq_true rfl) (C.1.2.2.2.2 _ (List.mem_of_getElem? (i := 1) rfl)) (fun _ h9 => h9) (v := .int (I 2)) rfl dX6_actOf_4 ?_
  refine VJ.iconst (v := 1) C dX6_actOf_7 (by decide) ?_
  refine VJ.isub C dX6_actOf_8 ?_
  refine VJ.callS1 C [.int x1, .int 0, .int ((I 2) - 1)] (pf []) (pf [mW cI cZ o ad I R]) (fun r1 => some (.int r1)) (fun r1 => pf []) (fun r1 => pf [mW cI cZ o ad I R]) (fun r1 => [.int r1, .ref o]) 0 0 (fun _ h9 => c_X6_within l G cI cZ cQ cU cJ x1 0 ((I 2) - 1) _ h9) (vj_pn _) (fun _ => vj_pn' _) (va_cwS 3 C.1.2.2.2.2 gX6_actOf_X6_within rfl rfl rfl hy_X6_within ⟨Nat.le_of_ble_eq_true rfl, Nat.le_of_ble_eq_true rfl⟩) rfl rfl (fun _ => rfl) (Nat.le_of_ble_eq_true rfl) dX6_actOf_9 ⟨Nat.le_of_ble_eq_true rfl, Nat.le_of_ble_eq_true rfl⟩ ⟨rfl, rfl⟩ (fun r1 => ?_)
  refine VJ.if_ne C 19 dX6_actOf_12 (by decide) (fun _ => ?_) (fun _ => ?_)
  · refine VJ.iload_n C 2 dX6_actOf_19 rfl ?_
    refine VJ.iconst (v := 0) C dX6_actOf_20 (by decide) ?_
    refine VJ.iconst (v := 4) C dX6_actOf_21 (by decide) ?_
    refine VJ.callS1 C [.int x2, .int 0, .int 4] (pf []) (pf [mW cI cZ o ad I R]) (fun r2 => some (.int r2)) (fun r2 => pf []) (fun r2 => pf [mW cI cZ o ad I R]) (fun r2 => [.int r2, .ref o]) 0 0 (fun _ h9 => c_X6_within l G cI cZ cQ cU cJ x2 0 4 _ h9) (vj_pn _) (fun _ => vj_pn' _) (va_cwS 3 C.1.2.2.2.2 gX6_actOf_X6_within rfl rfl rfl hy_X6_within ⟨Nat.le_of_ble_eq_true rfl, Nat.le_of_ble_eq_true rfl⟩) rfl rfl (fun _ => rfl) (Nat.le_of_ble_eq_true rfl) dX6_actOf_22 ⟨Nat.le_of_ble_eq_true rfl, Nat.le_of_ble_eq_true rfl⟩ ⟨rfl, rfl⟩ (fun r2 => ?_)
    refine VJ.if_ne C 32 dX6_actOf_25 (by decide) (fun _ => ?_) (fun _ => ?_)
    · refine VJ.iconst (v := 0) C dX6_actOf_32 (by decide) ?_
      exact j33 I x1 x2 0
    · refine VJ.iconst (v := 2) C dX6_actOf_28 (by decide) ?_
      refine VJ.goto C 33 dX6_actOf_29 (by decide) ?_
      exact j33 I x1 x2 2
  · refine VJ.iconst (v := 1) C dX6_actOf_15 (by decide) ?_
    refine VJ.goto C 33 dX6_actOf_16 (by decide) ?_
    exact j33 I x1 x2 1

set_option maxHeartbeats 4000000 in
set_option maxRecDepth 100000 in
def f_X6_asOf_j45 (N : Nat) (I : OI) (R : RI) (x1 : Int32) (x2 : Int32) (x3 : Int32) (x4 : Int32) (y0 : Int32) : Option (Int32 × OI × RI) :=
  ob2 (f_X6_refused R I y0) (fun r3 I4 => if r3 = 0 then (ob1 (f_X6_goThrough N I4 R x3 x4) (fun R5 => ob2 (f_X6_tells N I4 R5 x1 x2 x3) (fun r6 R7 => some (r6, I4, R7)))) else (some (0, I4, R)))
def f_X6_asOf (N : Nat) (I : OI) (R : RI) (x1 : Int32) (x2 : Int32) (x3 : Int32) (x4 : Int32) : Option (Int32 × OI × RI) :=
  ob1 (f_X6_isPerson I R x1) (fun r1 => if r1 = 0 then (f_X6_asOf_j45 N I R x1 x2 x3 x4 1) else (ob1 (f_X6_within x2 0 6) (fun r2 => if r2 = 0 then (f_X6_asOf_j45 N I R x1 x2 x3 x4 2) else (ob1 (f_X6_isDay I R x3) (fun r8 => if r8 = 0 then (f_X6_asOf_j45 N I R x1 x2 x3 x4 2) else (ob1 (f_X6_isDay I R x4) (fun r9 => if r9 = 0 then (f_X6_asOf_j45 N I R x1 x2 x3 x4 2) else (f_X6_asOf_j45 N I R x1 x2 x3 x4 0))))))))
abbrev rmX6_asOf : Room := { frames := 4, cells := 0, slots := 0, locals := 93 }
theorem hy_X6_asOf : yX6_asOf.cls ≠ "java/lang/invoke/MethodHandle" ∧ yX6_asOf.cls ≠ "java/lang/invoke/VarHandle" ∧ (parseMethodDescriptor yX6_asOf.desc).map (fun d => d.parameters.length) = some 4 := by decide +kernel
theorem hyV_X6_asOf : yX6_asOf.cls = RX6 ∧ yX6_asOf.cls ≠ "java/lang/invoke/MethodHandle" ∧ yX6_asOf.cls ≠ "java/lang/invoke/VarHandle" ∧ (parseMethodDescriptor yX6_asOf.desc).map (fun d => d.parameters.length) = some 4 := ⟨rfl, hy_X6_asOf⟩
set_option maxHeartbeats 8000000 in
set_option maxRecDepth 100000 in
theorem c_X6_asOf (l : Launch) (G : va_G) (cI cZ cQ cU cJ : ClassId) (N : Nat) (o : Nat) (ad : Nat → Nat) (I : OI) (R : RI) (x1 : Int32) (x2 : Int32) (x3 : Int32) (x4 : Int32) (out : Int32 × OI × RI) (hf : f_X6_asOf N I R x1 x2 x3 x4 = some out) : Con l yX6_asOf wsX6_asOf rmX6_asOf G vwCl (tys cI cZ cQ cU cJ) nws [.ref o, .int x1, .int x2, .int x3, .int x4] (pf [mW cI cZ o ad I R]) (some (.int out.1)) (pf [mW cI cZ o ad out.2.1 out.2.2]) := by
  refine con_of (rv := fun out : Int32 × OI × RI => some (.int out.1)) (Wd := fun out : Int32 × OI × RI => pf [mW cI cZ o ad out.2.1 out.2.2]) (maxL := 5) (own := RX6) rfl (plainFor_of_name (by decide +kernel)) rfl (Nat.le_of_ble_eq_true rfl) ?_ hf
  intro p e s m args below meth c A C hret hname
  have j45 : ∀ (I : OI) (R : RI) (x1 : Int32) (x2 : Int32) (x3 : Int32) (x4 : Int32) (y0 : Int32), VJ p l e rmX6_asOf s m args below meth c 5 G vwCl A (QR below G vwCl A args s rmX6_asOf.cells rmX6_asOf.slots (fun out : Int32 × OI × RI => some (.int out.1)) (fun out : Int32 × OI × RI => pf [mW cI cZ o ad out.2.1 out.2.2])) 0 0 (f_X6_asOf_j45 N  I R x1 x2 x3 x4 y0) (pf [mW cI cZ o ad I R]) 45 [(0, .ref o), (1, .int x1), (2, .int x2), (3, .int x3), (4, .int x4)] [.int y0, .ref o] := by
    intro  I R x1 x2 x3 x4 y0
    unfold f_X6_asOf_j45
    refine VJ.callV2 C [.int y0] (pf [mW cI cZ o ad I R]) ([]) (fun r3 I4 => some (.int r3)) (fun r3 I4 => pf [mW cI cZ o ad I4 R]) (fun r3 I4 => pf [mW cI cZ o ad I4 R]) (fun r3 I4 => [.int r3]) 0 0 (fun _ h9 => c_X6_refused l G cI cZ cQ cU cJ o ad I R y0 _ h9) (vj_p0 _) (fun _ _ => vj_p0' _) 0 rfl rfl (cwV 1 C.1.2.2.2.2 gX6_asOf_X6_refused rfl rfl rfl hyV_X6_refused ⟨Nat.le_of_ble_eq_true rfl, Nat.le_of_ble_eq_true rfl⟩) rfl rfl (fun _ _ => rfl) (Nat.le_of_ble_eq_true rfl) dX6_asOf_45 ⟨Nat.le_of_ble_eq_true rfl, Nat.le_of_ble_eq_true rfl⟩ ⟨rfl, rfl⟩ (fun r3 I4 => ?_)
    refine VJ.if_eq C 53 dX6_asOf_48 (by decide) (fun _ => ?_) (fun _ => ?_)
    · refine VJ.aload_n C 0 dX6_asOf_53 rfl ?_
      refine VJ.iload_n C 3 dX6_asOf_54 rfl ?_
      refine VJ.iload C 4 dX6_asOf_55 rfl ?_
      refine VJ.callV1 C [.int x3, .int x4] (pf [mW cI cZ o ad I4 R]) ([]) (fun R5 => none) (fun R5 => pf [mW cI cZ o ad I4 R5]) (fun R5 => pf [mW cI cZ o ad I4 R5]) (fun R5 => []) 0 0 (fun _ h9 => c_X6_goThrough l G cI cZ cQ cU cJ N o ad I4 R x3 x4 _ h9) (vj_p0 _) (fun _ => vj_p0' _) 0 rfl rfl (cwV 2 C.1.2.2.2.2 gX6_asOf_X6_goThrough rfl rfl rfl hyV_X6_goThrough ⟨Nat.le_of_ble_eq_true rfl, Nat.le_of_ble_eq_true rfl⟩) rfl rfl (fun _ => rfl) (Nat.le_of_ble_eq_true rfl) dX6_asOf_57 ⟨Nat.le_of_ble_eq_true rfl, Nat.le_of_ble_eq_true rfl⟩ ⟨rfl, rfl⟩ (fun R5 => ?_)
      refine VJ.aload_n C 0 dX6_asOf_60 rfl ?_
      refine VJ.iload_n C 1 dX6_asOf_61 rfl ?_
      refine VJ.iload_n C 2 dX6_asOf_62 rfl ?_
      refine VJ.iload_n C 3 dX6_asOf_63 rfl ?_
      refine VJ.callV2 C [.int x1, .int x2, .int x3] (pf [mW cI cZ o ad I4 R5]) ([]) (fun r6 R7 => some (.int r6)) (fun r6 R7 => pf [mW cI cZ o ad I4 R7]) (fun r6 R7 => pf [mW cI cZ o ad I4 R7]) (fun r6 R7 => [.int r6]) 0 0 (fun _ h9 => c_X6_tells l G cI cZ cQ cU cJ N o ad I4 R5 x1 x2 x3 _ h9) (vj_p0 _) (fun _ _ => vj_p0' _) 0 rfl rfl (cwV 3 C.1.2.2.2.2 gX6_asOf_X6_tells rfl rfl rfl hyV_X6_tells ⟨Nat.le_of_ble_eq_true rfl, Nat.le_of_ble_eq_true rfl⟩) rfl rfl (fun _ _ => rfl) (Nat.le_of_ble_eq_true rfl) dX6_asOf_64 ⟨Nat.le_of_ble_eq_true rfl, Nat.le_of_ble_eq_true rfl⟩ ⟨rfl, rfl⟩ (fun r6 R7 => ?_)
      exact VJ.iret C hret rfl rfl dX6_asOf_67
    · refine VJ.iconst (v := 0) C dX6_asOf_51 (by decide) ?_
      exact VJ.iret C hret rfl rfl dX6_asOf_52
  unfold f_X6_asOf
  refine VJ.aload_n C 0 dX6_asOf_0 rfl ?_
  refine VJ.aload_n C 0 dX6_asOf_1 rfl ?_
  refine VJ.iload_n C 1 dX6_asOf_2 rfl ?_
  refine VJ.callV1 C [.int x1] (pf [mW cI cZ o ad I R]) ([]) (fun r1 => some (.int r1)) (fun r1 => pf [mW cI cZ o ad I R]) (fun r1 => pf [mW cI cZ o ad I R]) (fun r1 => [.int r1, .ref o]) 0 0 (fun _ h9 => c_X6_isPerson l G cI cZ cQ cU cJ o ad I R x1 _ h9) (vj_p0 _) (fun _ => vj_p0' _) 0 rfl rfl (cwV 1 C.1.2.2.2.2 gX6_asOf_X6_isPerson rfl rfl rfl hyV_X6_isPerson ⟨Nat.le_of_ble_eq_true rfl, Nat.le_of_ble_eq_true rfl⟩) rfl rfl (fun _ => rfl) (Nat.le_of_ble_eq_true rfl) dX6_asOf_3 ⟨Nat.le_of_ble_eq_true rfl, Nat.le_of_ble_eq_true rfl⟩ ⟨rfl, rfl⟩ (fun r1 => ?_)
  refine VJ.if_ne C 13 dX6_asOf_6 (by decide) (fun _ => ?_) (fun _ => ?_)
  · refine VJ.iload_n C 2 dX6_asOf_13 rfl ?_
    refine VJ.iconst (v := 0) C dX6_asOf_14 (by decide) ?_
    refine VJ.bipush (v := 6) C dX6_asOf_15 (by decide) ?_
    refine VJ.callS1 C [.int x2, .int 0, .int 6] (pf []) (pf [mW cI cZ o ad I R]) (fun r2 => some (.int r2)) (fun r2 => pf []) (fun r2 => pf [mW cI cZ o ad I R]) (fun r2 => [.int r2, .ref o]) 0 0 (fun _ h9 => c_X6_within l G cI cZ cQ cU cJ x2 0 6 _ h9) (vj_pn _) (fun _ => vj_pn' _) (va_cwS 3 C.1.2.2.2.2 gX6_asOf_X6_within rfl rfl rfl hy_X6_within ⟨Nat.le_of_ble_eq_true rfl, Nat.le_of_ble_eq_true rfl⟩) rfl rfl (fun _ => rfl) (Nat.le_of_ble_eq_true rfl) dX6_asOf_17 ⟨Nat.le_of_ble_eq_true rfl, Nat.le_of_ble_eq_true rfl⟩ ⟨rfl, rfl⟩ (fun r2 => ?_)
    refine VJ.if_eq C 40 dX6_asOf_20 (by decide) (fun _ => ?_) (fun _ => ?_)
    · refine VJ.iconst (v := 2) C dX6_asOf_40 (by decide) ?_
      refine VJ.goto C 45 dX6_asOf_41 (by decide) ?_
      exact j45 I R x1 x2 x3 x4 2
    · refine VJ.aload_n C 0 dX6_asOf_23 rfl ?_
      refine VJ.iload_n C 3 dX6_asOf_24 rfl ?_
      refine VJ.callV1 C [.int x3] (pf [mW cI cZ o ad I R]) ([]) (fun r8 => some (.int r8)) (fun r8 => pf [mW cI cZ o ad I R]) (fun r8 => pf [mW cI cZ o ad I R]) (fun r8 => [.int r8, .ref o]) 0 0 (fun _ h9 => c_X6_isDay l G cI cZ cQ cU cJ o ad I R x3 _ h9) (vj_p0 _) (fun _ => vj_p0' _) 0 rfl rfl (cwV 1 C.1.2.2.2.2 gX6_asOf_X6_isDay rfl rfl rfl hyV_X6_isDay ⟨Nat.le_of_ble_eq_true rfl, Nat.le_of_ble_eq_true rfl⟩) rfl rfl (fun _ => rfl) (Nat.le_of_ble_eq_true rfl) dX6_asOf_25 ⟨Nat.le_of_ble_eq_true rfl, Nat.le_of_ble_eq_true rfl⟩ ⟨rfl, rfl⟩ (fun r8 => ?_)
      refine VJ.if_eq C 40 dX6_asOf_28 (by decide) (fun _ => ?_) (fun _ => ?_)
      · refine VJ.iconst (v := 2) C dX6_asOf_40 (by decide) ?_
        refine VJ.goto C 45 dX6_asOf_41 (by decide) ?_
        exact j45 I R x1 x2 x3 x4 2
      · refine VJ.aload_n C 0 dX6_asOf_31 rfl ?_
        refine VJ.iload C 4 dX6_asOf_32 rfl ?_
        refine VJ.callV1 C [.int x4] (pf [mW cI cZ o ad I R]) ([]) (fun r9 => some (.int r9)) (fun r9 => pf [mW cI cZ o ad I R]) (fun r9 => pf [mW cI cZ o ad I R]) (fun r9 => [.int r9, .ref o]) 0 0 (fun _ h9 => c_X6_isDay l G cI cZ cQ cU cJ o ad I R x4 _ h9) (vj_p0 _) (fun _ => vj_p0' _) 0 rfl rfl (cwV 1 C.1.2.2.2.2 gX6_asOf_X6_isDay rfl rfl rfl hyV_X6_isDay ⟨Nat.le_of_ble_eq_true rfl, Nat.le_of_ble_eq_true rfl⟩) rfl rfl (fun _ => rfl) (Nat.le_of_ble_eq_true rfl) dX6_asOf_34 ⟨Nat.le_of_ble_eq_true rfl, Nat.le_of_ble_eq_true rfl⟩ ⟨rfl, rfl⟩ (fun r9 => ?_)
        refine VJ.if_ne C 44 dX6_asOf_37 (by decide) (fun _ => ?_) (fun _ => ?_)
        · refine VJ.iconst (v := 0) C dX6_asOf_44 (by decide) ?_
          exact j45 I R x1 x2 x3 x4 0
        · refine VJ.iconst (v := 2) C dX6_asOf_40 (by decide) ?_
          refine VJ.goto C 45 dX6_asOf_41 (by decide) ?_
          exact j45 I R x1 x2 x3 x4 2
  · refine VJ.iconst (v := 1) C dX6_asOf_9 (by decide) ?_
    refine VJ.goto C 45 dX6_asOf_10 (by decide) ?_
    exact j45 I R x1 x2 x3 x4 1

def f_X6_now (N : Nat) (I : OI) (R : RI) (x1 : Int32) (x2 : Int32) : Option (Int32 × OI × RI) :=
  ob3 (f_X6_asOf N I R x1 x2 (I 1) (I 1)) (fun r1 I2 R3 => some (r1, I2, R3))
abbrev rmX6_now : Room := { frames := 5, cells := 0, slots := 0, locals := 117 }
theorem in_X6_now_X6 : ∀ w ∈ u_ws RX6 TX6 38, w ∈ wsX6_now := in_of 85 rfl
theorem hy_X6_now : yX6_now.cls ≠ "java/lang/invoke/MethodHandle" ∧ yX6_now.cls ≠ "java/lang/invoke/VarHandle" ∧ (parseMethodDescriptor yX6_now.desc).map (fun d => d.parameters.length) = some 2 := by decide +kernel
theorem hyV_X6_now : yX6_now.cls = RX6 ∧ yX6_now.cls ≠ "java/lang/invoke/MethodHandle" ∧ yX6_now.cls ≠ "java/lang/invoke/VarHandle" ∧ (parseMethodDescriptor yX6_now.desc).map (fun d => d.parameters.length) = some 2 := ⟨rfl, hy_X6_now⟩
set_option maxHeartbeats 8000000 in
set_option maxRecDepth 100000 in
theorem c_X6_now (l : Launch) (G : va_G) (cI cZ cQ cU cJ : ClassId) (N : Nat) (o : Nat) (ad : Nat → Nat) (I : OI) (R : RI) (x1 : Int32) (x2 : Int32) (out : Int32 × OI × RI) (hf : f_X6_now N I R x1 x2 = some out) : Con l yX6_now wsX6_now rmX6_now G vwCl (tys cI cZ cQ cU cJ) nws [.ref o, .int x1, .int x2] (pf [mW cI cZ o ad I R]) (some (.int out.1)) (pf [mW cI cZ o ad out.2.1 out.2.2]) := by
  refine con_of (rv := fun out : Int32 × OI × RI => some (.int out.1)) (Wd := fun out : Int32 × OI × RI => pf [mW cI cZ o ad out.2.1 out.2.2]) (maxL := 3) (own := RX6) rfl (plainFor_of_name (by decide +kernel)) rfl (Nat.le_of_ble_eq_true rfl) ?_ hf
  intro p e s m args below meth c A C hret hname
  unfold f_X6_now
  refine VJ.aload_n C 0 dX6_now_0 rfl ?_
  refine VJ.iload_n C 1 dX6_now_1 rfl ?_
  refine VJ.iload_n C 2 dX6_now_2 rfl ?_
  refine VJ.aload_n C 0 dX6_now_3 rfl ?_
  refine VJ.get (C0 := RX6) (T := TX6) (N := 38) (ci := 6) C in_X6_now_X6 0 rfl rfl 1 (Nat.le_of_ble_eq_true rfl) (C.1.2.2.2.2 _ (List.mem_of_getElem? (i := 1) rfl)) (fun _ h9 => h9) (v := .int (I 1)) rfl dX6_now_4 ?_
  refine VJ.aload_n C 0 dX6_now_7 rfl ?_
  refine VJ.get (C0 := RX6) (T := TX6) (N := 38) (ci := 6) C in_X6_now_X6 0 rfl rfl 1 (Nat.le_of_ble_eq_true rfl) (C.1.2.2.2.2 _ (List.mem_of_getElem? (i := 1) rfl)) (fun _ h9 => h9) (v := .int (I 1)) rfl dX6_now_8 ?_
  refine VJ.callV3 C [.int x1, .int x2, .int (I 1), .int (I 1)] (pf [mW cI cZ o ad I R]) ([]) (fun r1 I2 R3 => some (.int r1)) (fun r1 I2 R3 => pf [mW cI cZ o ad I2 R3]) (fun r1 I2 R3 => pf [mW cI cZ o ad I2 R3]) (fun r1 I2 R3 => [.int r1]) 0 0 (fun _ h9 => c_X6_asOf l G cI cZ cQ cU cJ N o ad I R x1 x2 (I 1) (I 1) _ h9) (vj_p0 _) (fun _ _ _ => vj_p0' _) 0 rfl rfl (cwV 4 C.1.2.2.2.2 gX6_now_X6_asOf rfl rfl rfl hyV_X6_asOf ⟨Nat.le_of_ble_eq_true rfl, Nat.le_of_ble_eq_true rfl⟩) rfl rfl (fun _ _ _ => rfl) (Nat.le_of_ble_eq_true rfl) dX6_now_11 ⟨Nat.le_of_ble_eq_true rfl, Nat.le_of_ble_eq_true rfl⟩ ⟨rfl, rfl⟩ (fun r1 I2 R3 => ?_)
  exact VJ.iret C hret rfl rfl dX6_now_14

set_option maxHeartbeats 4000000 in
set_option maxRecDepth 100000 in
def f_X6_households_l61b (N : Nat) (k61 : OI → RI → Int32 → Int32 → Int32 → Option (Int32 × OI × RI)) (I : OI) (R : RI) (x1 : Int32) (x4 : Int32) (x5 : Int32) : Option (Int32 × OI × RI) :=
  if (I 4) ≤ x5 then (some (x4, I, R)) else (og x5 24 (if (R 13 x5.toNatClampNeg) = x1 then (og x5 24 (if (R 20 x5.toNatClampNeg) = x5 then (ol (x4 + 1) (fun v11 => ol (x5 + Int32.ofInt 1) (fun v12 => k61 I R x1 v11 v12))) else (ol (x4 + 0) (fun v9 => ol (x5 + Int32.ofInt 1) (fun v10 => k61 I R x1 v9 v10))))) else (ol (x4 + 0) (fun v7 => ol (x5 + Int32.ofInt 1) (fun v8 => k61 I R x1 v7 v8)))))
set_option maxHeartbeats 4000000 in
set_option maxRecDepth 100000 in
def f_X6_households_l61 (N : Nat) : Nat → OI → RI → Int32 → Int32 → Int32 → Option (Int32 × OI × RI)
  | 0 => fun _ _ _ _ _ => none
  | n9 + 1 => f_X6_households_l61b N (f_X6_households_l61 N n9)
set_option maxHeartbeats 4000000 in
set_option maxRecDepth 100000 in
def f_X6_households_j36 (N : Nat) (I : OI) (R : RI) (x1 : Int32) (x2 : Int32) (x3 : Int32) (y0 : Int32) : Option (Int32 × OI × RI) :=
  ob2 (f_X6_refused R I y0) (fun r3 I4 => if r3 = 0 then (ob1 (f_X6_goThrough N I4 R x2 x3) (fun R5 => ob1 (f_X6_settle N I4 R5 x2) (fun R6 => f_X6_households_l61 N N I4 R6 x1 0 0))) else (some (0, I4, R)))
def f_X6_households (N : Nat) (I : OI) (R : RI) (x1 : Int32) (x2 : Int32) (x3 : Int32) : Option (Int32 × OI × RI) :=
  ob1 (f_X6_within x1 0 15) (fun r1 => if r1 = 0 then (f_X6_households_j36 N I R x1 x2 x3 1) else (ob1 (f_X6_isDay I R x2) (fun r2 => if r2 = 0 then (f_X6_households_j36 N I R x1 x2 x3 2) else (ob1 (f_X6_isDay I R x3) (fun r13 => if r13 = 0 then (f_X6_households_j36 N I R x1 x2 x3 2) else (f_X6_households_j36 N I R x1 x2 x3 0))))))
abbrev rmX6_households : Room := { frames := 4, cells := 0, slots := 0, locals := 91 }
theorem in_X6_households_X6 : ∀ w ∈ u_ws RX6 TX6 38, w ∈ wsX6_households := in_of 73 rfl
theorem hy_X6_households : yX6_households.cls ≠ "java/lang/invoke/MethodHandle" ∧ yX6_households.cls ≠ "java/lang/invoke/VarHandle" ∧ (parseMethodDescriptor yX6_households.desc).map (fun d => d.parameters.length) = some 3 := by decide +kernel
theorem hyV_X6_households : yX6_households.cls = RX6 ∧ yX6_households.cls ≠ "java/lang/invoke/MethodHandle" ∧ yX6_households.cls ≠ "java/lang/invoke/VarHandle" ∧ (parseMethodDescriptor yX6_households.desc).map (fun d => d.parameters.length) = some 3 := ⟨rfl, hy_X6_households⟩
set_option maxHeartbeats 8000000 in
set_option maxRecDepth 100000 in
theorem c_X6_households (l : Launch) (G : va_G) (cI cZ cQ cU cJ : ClassId) (N : Nat) (o : Nat) (ad : Nat → Nat) (I : OI) (R : RI) (x1 : Int32) (x2 : Int32) (x3 : Int32) (out : Int32 × OI × RI) (hf : f_X6_households N I R x1 x2 x3 = some out) : Con l yX6_households wsX6_households rmX6_households G vwCl (tys cI cZ cQ cU cJ) nws [.ref o, .int x1, .int x2, .int x3] (pf [mW cI cZ o ad I R]) (some (.int out.1)) (pf [mW cI cZ o ad out.2.1 out.2.2]) := by
  refine con_of (rv := fun out : Int32 × OI × RI => some (.int out.1)) (Wd := fun out : Int32 × OI × RI => pf [mW cI cZ o ad out.2.1 out.2.2]) (maxL := 6) (own := RX6) rfl (plainFor_of_name (by decide +kernel)) rfl (Nat.le_of_ble_eq_true rfl) ?_ hf
  intro p e s m args below meth c A C hret hname
  have j61 : ∀ (n9 : Nat) (I : OI) (R : RI) (x1 : Int32) (x4 : Int32) (x5 : Int32), VJ p l e rmX6_households s m args below meth c 6 G vwCl A (QR below G vwCl A args s rmX6_households.cells rmX6_households.slots (fun out : Int32 × OI × RI => some (.int out.1)) (fun out : Int32 × OI × RI => pf [mW cI cZ o ad out.2.1 out.2.2])) 0 0 (f_X6_households_l61 N  n9 I R x1 x4 x5) (pf [mW cI cZ o ad I R]) 61 [(0, .ref o), (1, .int x1), (4, .int x4), (5, .int x5)] [] := by
    intro  n9
    induction n9 with
    | zero => intro I R x1 x4 x5; exact VJ.fnone rfl
    | succ n9 i61 =>
      intro I R x1 x4 x5
      refine VJ.eqf (f' := f_X6_households_l61b N  (f_X6_households_l61 N  n9) I R x1 x4 x5) rfl ?_
      generalize f_X6_households_l61 N  n9 = k61 at i61 ⊢
      unfold f_X6_households_l61b
      refine VJ.iload C 3 dX6_households_61 rfl ?_
      refine VJ.aload_n C 0 dX6_households_63 rfl ?_
      refine VJ.get (C0 := RX6) (T := TX6) (N := 38) (ci := 6) C in_X6_households_X6 0 rfl rfl 13 (Nat.le_of_ble_eq_true rfl) (C.1.2.2.2.2 _ (List.mem_of_getElem? (i := 1) rfl)) (fun _ h9 => h9) (v := .int (I 4)) rfl dX6_households_64 ?_
      refine VJ.icmp_ge C 109 dX6_households_67 (by decide) (fun _ => ?_) (fun _ => ?_)
      · refine VJ.iload C 2 dX6_households_109 rfl ?_
        exact VJ.iret C hret rfl rfl dX6_households_111
      · refine VJ.iload C 2 dX6_households_70 rfl ?_
        refine VJ.aload_n C 0 dX6_households_72 rfl ?_
        refine VJ.get (C0 := RX6) (T := TX6) (N := 38) (ci := 6) C in_X6_households_X6 0 rfl rfl 20 (Nat.le_of_ble_eq_true rfl) (C.1.2.2.2.2 _ (List.mem_of_getElem? (i := 2) rfl)) (fun _ h9 => h9) (v := .ref (ad 13)) rfl dX6_households_73 ?_
        refine VJ.iload C 3 dX6_households_76 rfl ?_
        refine VJ.iald C 14 0 rfl rfl dX6_households_78 ?_
        refine VJ.iload_n C 1 dX6_households_79 rfl ?_
        refine VJ.icmp_ne C 99 dX6_households_80 (by decide) (fun _ => ?_) (fun _ => ?_)
        · refine VJ.iconst (v := 0) C dX6_households_99 (by decide) ?_
          refine VJ.iadd C dX6_households_100 ?_
          refine VJ.topi C (fun v7 => ?_)
          refine VJ.istore C [(4, .int v7), (0, .ref o), (1, .int x1), (5, .int x5)] dX6_households_101 (Nat.le_of_ble_eq_true rfl) rfl ?_
          refine VJ.iincN C 3 (fun v8 => [(5, .int v8), (4, .int v7), (0, .ref o), (1, .int x1)]) dX6_households_103 rfl (Nat.le_of_ble_eq_true rfl) (fun _ => rfl) (fun v8 => ?_)
          refine VJ.goto C 61 dX6_households_106 (by decide) ?_
          refine VJ.sub [2, 3, 1, 0] rfl ?_
          exact i61 I R x1 v7 v8
        · refine VJ.aload_n C 0 dX6_households_83 rfl ?_
          refine VJ.get (C0 := RX6) (T := TX6) (N := 38) (ci := 6) C in_X6_households_X6 0 rfl rfl 27 (Nat.le_of_ble_eq_true rfl) (C.1.2.2.2.2 _ (List.mem_of_getElem? (i := 3) rfl)) (fun _ h9 => h9) (v := .ref (ad 20)) rfl dX6_households_84 ?_
          refine VJ.iload C 3 dX6_households_87 rfl ?_
          refine VJ.iald C 21 0 rfl rfl dX6_households_89 ?_
          refine VJ.iload C 3 dX6_households_90 rfl ?_
          refine VJ.icmp_ne C 99 dX6_households_92 (by decide) (fun _ => ?_) (fun _ => ?_)
          · refine VJ.iconst (v := 0) C dX6_households_99 (by decide) ?_
            refine VJ.iadd C dX6_households_100 ?_
            refine VJ.topi C (fun v9 => ?_)
            refine VJ.istore C [(4, .int v9), (0, .ref o), (1, .int x1), (5, .int x5)] dX6_households_101 (Nat.le_of_ble_eq_true rfl) rfl ?_
            refine VJ.iincN C 3 (fun v10 => [(5, .int v10), (4, .int v9), (0, .ref o), (1, .int x1)]) dX6_households_103 rfl (Nat.le_of_ble_eq_true rfl) (fun _ => rfl) (fun v10 => ?_)
            refine VJ.goto C 61 dX6_households_106 (by decide) ?_
            refine VJ.sub [2, 3, 1, 0] rfl ?_
            exact i61 I R x1 v9 v10
          · refine VJ.iconst (v := 1) C dX6_households_95 (by decide) ?_
            refine VJ.goto C 100 dX6_households_96 (by decide) ?_
            refine VJ.iadd C dX6_households_100 ?_
            refine VJ.topi C (fun v11 => ?_)
            refine VJ.istore C [(4, .int v11), (0, .ref o), (1, .int x1), (5, .int x5)] dX6_households_101 (Nat.le_of_ble_eq_true rfl) rfl ?_
            refine VJ.iincN C 3 (fun v12 => [(5, .int v12), (4, .int v11), (0, .ref o), (1, .int x1)]) dX6_households_103 rfl (Nat.le_of_ble_eq_true rfl) (fun _ => rfl) (fun v12 => ?_)
            refine VJ.goto C 61 dX6_households_106 (by decide) ?_
            refine VJ.sub [2, 3, 1, 0] rfl ?_
            exact i61 I R x1 v11 v12
  have j36 : ∀ (I : OI) (R : RI) (x1 : Int32) (x2 : Int32) (x3 : Int32) (y0 : Int32), VJ p l e rmX6_households s m args below meth c 6 G vwCl A (QR below G vwCl A args s rmX6_households.cells rmX6_households.slots (fun out : Int32 × OI × RI => some (.int out.1)) (fun out : Int32 × OI × RI => pf [mW cI cZ o ad out.2.1 out.2.2])) 0 0 (f_X6_households_j36 N  I R x1 x2 x3 y0) (pf [mW cI cZ o ad I R]) 36 [(0, .ref o), (1, .int x1), (2, .int x2), (3, .int x3)] [.int y0, .ref o] := by
    intro  I R x1 x2 x3 y0
    unfold f_X6_households_j36
    refine VJ.callV2 C [.int y0] (pf [mW cI cZ o ad I R]) ([]) (fun r3 I4 => some (.int r3)) (fun r3 I4 => pf [mW cI cZ o ad I4 R]) (fun r3 I4 => pf [mW cI cZ o ad I4 R]) (fun r3 I4 => [.int r3]) 0 0 (fun _ h9 => c_X6_refused l G cI cZ cQ cU cJ o ad I R y0 _ h9) (vj_p0 _) (fun _ _ => vj_p0' _) 0 rfl rfl (cwV 1 C.1.2.2.2.2 gX6_households_X6_refused rfl rfl rfl hyV_X6_refused ⟨Nat.le_of_ble_eq_true rfl, Nat.le_of_ble_eq_true rfl⟩) rfl rfl (fun _ _ => rfl) (Nat.le_of_ble_eq_true rfl) dX6_households_36 ⟨Nat.le_of_ble_eq_true rfl, Nat.le_of_ble_eq_true rfl⟩ ⟨rfl, rfl⟩ (fun r3 I4 => ?_)
    refine VJ.if_eq C 44 dX6_households_39 (by decide) (fun _ => ?_) (fun _ => ?_)
    · refine VJ.aload_n C 0 dX6_households_44 rfl ?_
      refine VJ.iload_n C 2 dX6_households_45 rfl ?_
      refine VJ.iload_n C 3 dX6_households_46 rfl ?_
      refine VJ.callV1 C [.int x2, .int x3] (pf [mW cI cZ o ad I4 R]) ([]) (fun R5 => none) (fun R5 => pf [mW cI cZ o ad I4 R5]) (fun R5 => pf [mW cI cZ o ad I4 R5]) (fun R5 => []) 0 0 (fun _ h9 => c_X6_goThrough l G cI cZ cQ cU cJ N o ad I4 R x2 x3 _ h9) (vj_p0 _) (fun _ => vj_p0' _) 0 rfl rfl (cwV 2 C.1.2.2.2.2 gX6_households_X6_goThrough rfl rfl rfl hyV_X6_goThrough ⟨Nat.le_of_ble_eq_true rfl, Nat.le_of_ble_eq_true rfl⟩) rfl rfl (fun _ => rfl) (Nat.le_of_ble_eq_true rfl) dX6_households_47 ⟨Nat.le_of_ble_eq_true rfl, Nat.le_of_ble_eq_true rfl⟩ ⟨rfl, rfl⟩ (fun R5 => ?_)
      refine VJ.aload_n C 0 dX6_households_50 rfl ?_
      refine VJ.iload_n C 2 dX6_households_51 rfl ?_
      refine VJ.callV1 C [.int x2] (pf [mW cI cZ o ad I4 R5]) ([]) (fun R6 => none) (fun R6 => pf [mW cI cZ o ad I4 R6]) (fun R6 => pf [mW cI cZ o ad I4 R6]) (fun R6 => []) 0 0 (fun _ h9 => c_X6_settle l G cI cZ cQ cU cJ N o ad I4 R5 x2 _ h9) (vj_p0 _) (fun _ => vj_p0' _) 0 rfl rfl (cwV 1 C.1.2.2.2.2 gX6_households_X6_settle rfl rfl rfl hyV_X6_settle ⟨Nat.le_of_ble_eq_true rfl, Nat.le_of_ble_eq_true rfl⟩) rfl rfl (fun _ => rfl) (Nat.le_of_ble_eq_true rfl) dX6_households_52 ⟨Nat.le_of_ble_eq_true rfl, Nat.le_of_ble_eq_true rfl⟩ ⟨rfl, rfl⟩ (fun R6 => ?_)
      refine VJ.iconst (v := 0) C dX6_households_55 (by decide) ?_
      refine VJ.istore C [(4, .int 0), (0, .ref o), (1, .int x1), (2, .int x2), (3, .int x3)] dX6_households_56 (Nat.le_of_ble_eq_true rfl) rfl ?_
      refine VJ.iconst (v := 0) C dX6_households_58 (by decide) ?_
      refine VJ.istore C [(5, .int 0), (4, .int 0), (0, .ref o), (1, .int x1), (2, .int x2), (3, .int x3)] dX6_households_59 (Nat.le_of_ble_eq_true rfl) rfl ?_
      refine VJ.sub [2, 3, 1, 0] rfl ?_
      exact j61 N I4 R6 x1 0 0
    · refine VJ.iconst (v := 0) C dX6_households_42 (by decide) ?_
      exact VJ.iret C hret rfl rfl dX6_households_43
  unfold f_X6_households
  refine VJ.aload_n C 0 dX6_households_0 rfl ?_
  refine VJ.iload_n C 1 dX6_households_1 rfl ?_
  refine VJ.iconst (v := 0) C dX6_households_2 (by decide) ?_
  refine VJ.bipush (v := 15) C dX6_households_3 (by decide) ?_
  refine VJ.callS1 C [.int x1, .int 0, .int 15] (pf []) (pf [mW cI cZ o ad I R]) (fun r1 => some (.int r1)) (fun r1 => pf []) (fun r1 => pf [mW cI cZ o ad I R]) (fun r1 => [.int r1, .ref o]) 0 0 (fun _ h9 => c_X6_within l G cI cZ cQ cU cJ x1 0 15 _ h9) (vj_pn _) (fun _ => vj_pn' _) (va_cwS 3 C.1.2.2.2.2 gX6_households_X6_within rfl rfl rfl hy_X6_within ⟨Nat.le_of_ble_eq_true rfl, Nat.le_of_ble_eq_true rfl⟩) rfl rfl (fun _ => rfl) (Nat.le_of_ble_eq_true rfl) dX6_households_5 ⟨Nat.le_of_ble_eq_true rfl, Nat.le_of_ble_eq_true rfl⟩ ⟨rfl, rfl⟩ (fun r1 => ?_)
  refine VJ.if_ne C 15 dX6_households_8 (by decide) (fun _ => ?_) (fun _ => ?_)
  · refine VJ.aload_n C 0 dX6_households_15 rfl ?_
    refine VJ.iload_n C 2 dX6_households_16 rfl ?_
    refine VJ.callV1 C [.int x2] (pf [mW cI cZ o ad I R]) ([]) (fun r2 => some (.int r2)) (fun r2 => pf [mW cI cZ o ad I R]) (fun r2 => pf [mW cI cZ o ad I R]) (fun r2 => [.int r2, .ref o]) 0 0 (fun _ h9 => c_X6_isDay l G cI cZ cQ cU cJ o ad I R x2 _ h9) (vj_p0 _) (fun _ => vj_p0' _) 0 rfl rfl (cwV 1 C.1.2.2.2.2 gX6_households_X6_isDay rfl rfl rfl hyV_X6_isDay ⟨Nat.le_of_ble_eq_true rfl, Nat.le_of_ble_eq_true rfl⟩) rfl rfl (fun _ => rfl) (Nat.le_of_ble_eq_true rfl) dX6_households_17 ⟨Nat.le_of_ble_eq_true rfl, Nat.le_of_ble_eq_true rfl⟩ ⟨rfl, rfl⟩ (fun r2 => ?_)
    refine VJ.if_eq C 31 dX6_households_20 (by decide) (fun _ => ?_) (fun _ => ?_)
    · refine VJ.iconst (v := 2) C dX6_households_31 (by decide) ?_
      refine VJ.goto C 36 dX6_households_32 (by decide) ?_
      exact j36 I R x1 x2 x3 2
    · refine VJ.aload_n C 0 dX6_households_23 rfl ?_
      refine VJ.iload_n C 3 dX6_households_24 rfl ?_
      refine VJ.callV1 C [.int x3] (pf [mW cI cZ o ad I R]) ([]) (fun r13 => some (.int r13)) (fun r13 => pf [mW cI cZ o ad I R]) (fun r13 => pf [mW cI cZ o ad I R]) (fun r13 => [.int r13, .ref o]) 0 0 (fun _ h9 => c_X6_isDay l G cI cZ cQ cU cJ o ad I R x3 _ h9) (vj_p0 _) (fun _ => vj_p0' _) 0 rfl rfl (cwV 1 C.1.2.2.2.2 gX6_households_X6_isDay rfl rfl rfl hyV_X6_isDay ⟨Nat.le_of_ble_eq_true rfl, Nat.le_of_ble_eq_true rfl⟩) rfl rfl (fun _ => rfl) (Nat.le_of_ble_eq_true rfl) dX6_households_25 ⟨Nat.le_of_ble_eq_true rfl, Nat.le_of_ble_eq_true rfl⟩ ⟨rfl, rfl⟩ (fun r13 => ?_)
      refine VJ.if_ne C 35 dX6_households_28 (by decide) (fun _ => ?_) (fun _ => ?_)
      · refine VJ.iconst (v := 0) C dX6_households_35 (by decide) ?_
        exact j36 I R x1 x2 x3 0
      · refine VJ.iconst (v := 2) C dX6_households_31 (by decide) ?_
        refine VJ.goto C 36 dX6_households_32 (by decide) ?_
        exact j36 I R x1 x2 x3 2
  · refine VJ.iconst (v := 1) C dX6_households_11 (by decide) ?_
    refine VJ.goto C 36 dX6_households_12 (by decide) ?_
    exact j36 I R x1 x2 x3 1

set_option maxHeartbeats 4000000 in
set_option maxRecDepth 100000 in
def f_X6_money_l99b (N : Nat) (k80 : OI → RI → Int32 → Int32 → Int32 → Int32 → Int32 → Int32 → Option (Int32 × OI × RI)) (k99 : OI → RI → Int32 → Int32 → Int32 → Int32 → Int32 → Int32 → Int32 → Option (Int32 × OI × RI)) (I : OI) (R : RI) (x1 : Int32) (x2 : Int32) (x3 : Int32) (x4 : Int32) (x6 : Int32) (x7 : Int32) (x8 : Int32) : Option (Int32 × OI × RI) :=
  if (I 4) ≤ x8 then (ol (x7 + Int32.ofInt 1) (fun v5 => k80 I R x1 x2 x3 x4 x6 v5)) else (og x8 24 (if (R 13 x8.toNatClampNeg) = (-1) then (ol (x6 + 0) (fun v6 => ol (x8 + Int32.ofInt 1) (fun v7 => k99 I R x1 x2 x3 x4 v6 x7 v7))) else (og x8 24 (if ((R 13 x8.toNatClampNeg) / 4) = x1 then (ol (x6 + 1) (fun v10 => ol (x8 + Int32.ofInt 1) (fun v11 => k99 I R x1 x2 x3 x4 v10 x7 v11))) else (ol (x6 + 0) (fun v8 => ol (x8 + Int32.ofInt 1) (fun v9 => k99 I R x1 x2 x3 x4 v8 x7 v9)))))))
set_option maxHeartbeats 4000000 in
set_option maxRecDepth 100000 in
def f_X6_money_l99 (N : Nat) (k80 : OI → RI → Int32 → Int32 → Int32 → Int32 → Int32 → Int32 → Option (Int32 × OI × RI)) : Nat → OI → RI → Int32 → Int32 → Int32 → Int32 → Int32 → Int32 → Int32 → Option (Int32 × OI × RI)
  | 0 => fun _ _ _ _ _ _ _ _ _ => none
  | n9 + 1 => f_X6_money_l99b N k80 (f_X6_money_l99 N k80 n9)
set_option maxHeartbeats 4000000 in
set_option maxRecDepth 100000 in
def f_X6_money_l80b (N : Nat) (k80 : OI → RI → Int32 → Int32 → Int32 → Int32 → Int32 → Int32 → Option (Int32 × OI × RI)) (I : OI) (R : RI) (x1 : Int32) (x2 : Int32) (x3 : Int32) (x4 : Int32) (x6 : Int32) (x7 : Int32) : Option (Int32 × OI × RI) :=
  if (x2 + x3) ≤ x7 then (some (x6, I, R)) else (ob1 (f_X6_goThrough N I R x7 x4) (fun R4 => f_X6_money_l99 N k80 N I R4 x1 x2 x3 x4 x6 x7 0))
set_option maxHeartbeats 4000000 in
set_option maxRecDepth 100000 in
def f_X6_money_l80 (N : Nat) : Nat → OI → RI → Int32 → Int32 → Int32 → Int32 → Int32 → Int32 → Option (Int32 × OI × RI)
  | 0 => fun _ _ _ _ _ _ _ _ => none
  | n9 + 1 => f_X6_money_l80b N (f_X6_money_l80 N n9)
set_option maxHeartbeats 4000000 in
set_option maxRecDepth 100000 in
def f_X6_money_j66 (N : Nat) (I : OI) (R : RI) (x1 : Int32) (x2 : Int32) (x3 : Int32) (x4 : Int32) (y0 : Int32) : Option (Int32 × OI × RI) :=
  ob2 (f_X6_refused R I y0) (fun r2 I3 => if r2 = 0 then (f_X6_money_l80 N N I3 R x1 x2 x3 x4 0 x2) else (some (0, I3, R)))
set_option maxHeartbeats 4000000 in
set_option maxRecDepth 100000 in
def f_X6_money_j40 (N : Nat) (I : OI) (R : RI) (x1 : Int32) (x2 : Int32) (x3 : Int32) (x4 : Int32) (y0 : Int32) : Option (Int32 × OI × RI) :=
  ob1 (f_X6_within x1 0 3) (fun r1 => if r1 = 0 then (f_X6_money_j66 N I R x1 x2 x3 x4 1) else (if y0 = 0 then (f_X6_money_j66 N I R x1 x2 x3 x4 2) else (f_X6_money_j66 N I R x1 x2 x3 x4 0)))
def f_X6_money (N : Nat) (I : OI) (R : RI) (x1 : Int32) (x2 : Int32) (x3 : Int32) (x4 : Int32) : Option (Int32 × OI × RI) :=
  if x2 < 0 then (f_X6_money_j40 N I R x1 x2 x3 x4 0) else (ob1 (f_X6_within x3 1 60) (fun r12 => if r12 = 0 then (f_X6_money_j40 N I R x1 x2 x3 x4 0) else (if (((I 1) - x3) + 1) < x2 then (f_X6_money_j40 N I R x1 x2 x3 x4 0) else (ob1 (f_X6_isDay I R x4) (fun r13 => if r13 = 0 then (f_X6_money_j40 N I R x1 x2 x3 x4 0) else (f_X6_money_j40 N I R x1 x2 x3 x4 1))))))
abbrev rmX6_money : Room := { frames := 4, cells := 0, slots := 0, locals := 91 }
theorem in_X6_money_X6 : ∀ w ∈ u_ws RX6 TX6 38, w ∈ wsX6_money := in_of 60 rfl
theorem hy_X6_money : yX6_money.cls ≠ "java/lang/invoke/MethodHandle" ∧ yX6_money.cls ≠ "java/lang/invoke/VarHandle" ∧ (parseMethodDescriptor yX6_money.desc).map (fun d => d.parameters.length) = some 4 := by decide +kernel
theorem hyV_X6_money : yX6_money.cls = RX6 ∧ yX6_money.cls ≠ "java/lang/invoke/MethodHandle" ∧ yX6_money.cls ≠ "java/lang/invoke/VarHandle" ∧ (parseMethodDescriptor yX6_money.desc).map (fun d => d.parameters.length) = some 4 := ⟨rfl, hy_X6_money⟩
set_option maxHeartbeats 8000000 in
set_option maxRecDepth 100000 in
theorem c_X6_money (l : Launch) (G : va_G) (cI cZ cQ cU cJ : ClassId) (N : Nat) (o : Nat) (ad : Nat → Nat) (I : OI) (R : RI) (x1 : Int32) (x2 : Int32) (x3 : Int32) (x4 : Int32) (out : Int32 × OI × RI) (hf : f_X6_money N I R x1 x2 x3 x4 = some out) : Con l yX6_money wsX6_money rmX6_money G vwCl (tys cI cZ cQ cU cJ) nws [.ref o, .int x1, .int x2, .int x3, .int x4] (pf [mW cI cZ o ad I R]) (some (.int out.1)) (pf [mW cI cZ o ad out.2.1 out.2.2]) := by
  refine con_of (rv := fun out : Int32 × OI × RI => some (.int out.1)) (Wd := fun out : Int32 × OI × RI => pf [mW cI cZ o ad out.2.1 out.2.2]) (maxL := 9) (own := RX6) rfl (plainFor_of_name (by decide +kernel)) rfl (Nat.le_of_ble_eq_true rfl) ?_ hf
  intro p e s m args below meth c A C hret hname
  have j99 : ∀ (k80 : OI → RI → Int32 → Int32 → Int32 → Int32 → Int32 → Int32 → Option (Int32 × OI × RI)) (i80 : ∀ (I : OI) (R : RI) (x1 : Int32) (x2 : Int32) (x3 : Int32) (x4 : Int32) (x6 : Int32) (x7 : Int32), VJ p l e rmX6_money s m args below meth c 9 G vwCl A (QR below G vwCl A args s rmX6_money.cells rmX6_money.slots (fun out : Int32 × OI × RI => some (.int out.1)) (fun out : Int32 × OI × RI => pf [mW cI cZ o ad out.2.1 out.2.2])) 0 0 (k80 I R x1 x2 x3 x4 x6 x7) (pf [mW cI cZ o ad I R]) 80 [(0, .ref o), (1, .int x1), (2, .int x2), (3, .int x3), (4, .int x4), (6, .int x6), (7, .int x7)] []) (n9 : Nat) (I : OI) (R : RI) (x1 : Int32) (x2 : Int32) (x3 : Int32) (x4 : Int32) (x6 : Int32) (x7 : Int32) (x8 : Int32), VJ p l e rmX6_money s m args below meth c 9 G vwCl A (QR below G vwCl A args s rmX6_money.cells rmX6_money.slots (fun out : Int32 × OI × RI => some (.int out.1)) (fun out : Int32 × OI × RI => pf [mW cI cZ o ad out.2.1 out.2.2])) 0 0 (f_X6_money_l99 N k80 n9 I R x1 x2 x3 x4 x6 x7 x8) (pf [mW cI cZ o ad I R]) 99 [(0, .ref o), (1, .int x1), (2, .int x2), (3, .int x3), (4, .int x4), (6, .int x6), (7, .int x7), (8, .int x8)] [] := by
    intro k80 i80 n9
    induction n9 with
    | zero => intro I R x1 x2 x3 x4 x6 x7 x8; exact VJ.fnone rfl
    | succ n9 i99 =>
      intro I R x1 x2 x3 x4 x6 x7 x8
      refine VJ.eqf (f' := f_X6_money_l99b N k80 (f_X6_money_l99 N k80 n9) I R x1 x2 x3 x4 x6 x7 x8) rfl ?_
      generalize f_X6_money_l99 N k80 n9 = k99 at i99 ⊢
      unfold f_X6_money_l99b
      refine VJ.iload C 7 dX6_money_99 rfl ?_
      refine VJ.aload_n C 0 dX6_money_101 rfl ?_
      refine VJ.get (C0 := RX6) (T := TX6) (N := 38) (ci := 6) C in_X6_money_X6 0 rfl rfl 13 (Nat.le_of_ble_eq_true rfl) (C.1.2.2.2.2 _ (List.mem_of_getElem? (i := 2) rfl)) (fun _ h9 => h9) (v := .int (I 4)) rfl dX6_money_102 ?_
      refine VJ.icmp_ge C 148 dX6_money_105 (by decide) (fun _ => ?_) (fun _ => ?_)
      · refine VJ.iincN C 6 (fun v5 => [(7, .int v5), (0, .ref o), (1, .int x1), (2, .int x2), (3, .int x3), (4, .int x4), (6, .int x6), (8, .int x8)]) dX6_money_148 rfl (Nat.le_of_ble_eq_true rfl) (fun _ => rfl) (fun v5 => ?_)
        refine VJ.goto C 80 dX6_money_151 (by decide) ?_
        refine VJ.sub [1, 2, 3, 4, 5, 6, 0] rfl ?_
        exact i80 I R x1 x2 x3 x4 x6 v5
      · refine VJ.iload C 5 dX6_money_108 rfl ?_
        refine VJ.aload_n C 0 dX6_money_110 rfl ?_
        refine VJ.get (C0 := RX6) (T := TX6) (N := 38) (ci := 6) C in_X6_money_X6 0 rfl rfl 20 (Nat.le_of_ble_eq_true rfl) (C.1.2.2.2.2 _ (List.mem_of_getElem? (i := 3) rfl)) (fun _ h9 => h9) (v := .ref (ad 13)) rfl dX6_money_111 ?_
        refine VJ.iload C 7 dX6_money_114 rfl ?_
        refine VJ.iald C 14 0 rfl rfl dX6_money_116 ?_
        refine VJ.iconst (v := (-1)) C dX6_money_117 (by decide) ?_
        refine VJ.icmp_eq C 138 dX6_money_118 (by decide) (fun _ => ?_) (fun _ => ?_)
        · refine VJ.iconst (v := 0) C dX6_money_138 (by decide) ?_
          refine VJ.iadd C dX6_money_139 ?_
          refine VJ.topi C (fun v6 => ?_)
          refine VJ.istore C [(6, .int v6), (0, .ref o), (1, .int x1), (2, .int x2), (3, .int x3), (4, .int x4), (7, .int x7), (8, .int x8)] dX6_money_140 (Nat.le_of_ble_eq_true rfl) rfl ?_
          refine VJ.iincN C 7 (fun v7 => [(8, .int v7), (6, .int v6), (0, .ref o), (1, .int x1), (2, .int x2), (3, .int x3), (4, .int x4), (7, .int x7)]) dX6_money_142 rfl (Nat.le_of_ble_eq_true rfl) (fun _ => rfl) (fun v7 => ?_)
          refine VJ.goto C 99 dX6_money_145 (by decide) ?_
          refine VJ.sub [2, 3, 4, 5, 6, 1, 7, 0] rfl ?_
          exact i99 I R x1 x2 x3 x4 v6 x7 v7
        · refine VJ.aload_n C 0 dX6_money_121 rfl ?_
          refine VJ.get (C0 := RX6) (T := TX6) (N := 38) (ci := 6) C in_X6_money_X6 0 rfl rfl 20 (Nat.le_of_ble_eq_true rfl) (C.1.2.2.2.2 _ (List.mem_of_getElem? (i := 3) rfl)) (fun _ h9 => h9) (v := .ref (ad 13)) rfl dX6_money_122 ?_
          refine VJ.iload C 7 dX6_money_125 rfl ?_
          refine VJ.iald C 14 0 rfl rfl dX6_money_127 ?_
          refine VJ.iconst (v := 4) C dX6_money_128 (by decide) ?_
          refine VJ.idiv C dX6_money_129 (by decide) ?_
          refine VJ.iload_n C 1 dX6_money_130 rfl ?_
          refine VJ.icmp_ne C 138 dX6_money_131 (by decide) (fun _ => ?_) (fun _ => ?_)
          · refine VJ.iconst (v := 0) C dX6_money_138 (by decide) ?_
            refine VJ.iadd C dX6_money_139 ?_
            refine VJ.topi C (fun v8 => ?_)
            refine VJ.istore C [(6, .int v8), (0, .ref o), (1, .int x1), (2, .int x2), (3, .int x3), (4, .int x4), (7, .int x7), (8, .int x8)] dX6_money_140 (Nat.le_of_ble_eq_true rfl) rfl ?_
            refine VJ.iincN C 7 (fun v9 => [(8, .int v9), (6, .int v8), (0, .ref o), (1, .int x1), (2, .int x2), (3, .int x3), (4, .int x4), (7, .int x7)]) dX6_money_142 rfl (Nat.le_of_ble_eq_true rfl) (fun _ => rfl) (fun v9 => ?_)
            refine VJ.goto C 99 dX6_money_145 (by decide) ?_
            refine VJ.sub [2, 3, 4, 5, 6, 1, 7, 0] rfl ?_
            exact i99 I R x1 x2 x3 x4 v8 x7 v9
          · refine VJ.iconst (v := 1) C dX6_money_134 (by decide) ?_
            refine VJ.goto C 139 dX6_money_135 (by decide) ?_
            refine VJ.iadd C dX6_money_139 ?_
            refine VJ.topi C (fun v10 => ?_)
            refine VJ.istore C [(6, .int v10), (0, .ref o), (1, .int x1), (2, .int x2), (3, .int x3), (4, .int x4), (7, .int x7), (8, .int x8)] dX6_money_140 (Nat.le_of_ble_eq_true rfl) rfl ?_
            refine VJ.iincN C 7 (fun v11 => [(8, .int v11), (6, .int v10), (0, .ref o), (1, .int x1), (2, .int x2), (3, .int x3), (4, .int x4), (7, .int x7)]) dX6_money_142 rfl (Nat.le_of_ble_eq_true rfl) (fun _ => rfl) (fun v11 => ?_)
            refine VJ.goto C 99 dX6_money_145 (by decide) ?_
            refine VJ.sub [2, 3, 4, 5, 6, 1, 7, 0] rfl ?_
            exact i99 I R x1 x2 x3 x4 v10 x7 v11
  have j80 : ∀ (n9 : Nat) (I : OI) (R : RI) (x1 : Int32) (x2 : Int32) (x3 : Int32) (x4 : Int32) (x6 : Int32) (x7 : Int32), VJ p l e rmX6_money s m args below meth c 9 G vwCl A (QR below G vwCl A args s rmX6_money.cells rmX6_money.slots (fun out : Int32 × OI × RI => some (.int out.1)) (fun out : Int32 × OI × RI => pf [mW cI cZ o ad out.2.1 out.2.2])) 0 0 (f_X6_money_l80 N  n9 I R x1 x2 x3 x4 x6 x7) (pf [mW cI cZ o ad I R]) 80 [(0, .ref o), (1, .int x1), (2, .int x2), (3, .int x3), (4, .int x4), (6, .int x6), (7, .int x7)] [] := by
    intro  n9
    induction n9 with
    | zero => intro I R x1 x2 x3 x4 x6 x7; exact VJ.fnone rfl
    | succ n9 i80 =>
      intro I R x1 x2 x3 x4 x6 x7
      refine VJ.eqf (f' := f_X6_money_l80b N  (f_X6_money_l80 N  n9) I R x1 x2 x3 x4 x6 x7) rfl ?_
      generalize f_X6_money_l80 N  n9 = k80 at i80 ⊢
      unfold f_X6_money_l80b
      refine VJ.iload C 6 dX6_money_80 rfl ?_
      refine VJ.iload_n C 2 dX6_money_82 rfl ?_
      refine VJ.iload_n C 3 dX6_money_83 rfl ?_
      refine VJ.iadd C dX6_money_84 ?_
      refine VJ.icmp_ge C 154 dX6_money_85 (by decide) (fun _ => ?_) (fun _ => ?_)
      · refine VJ.iload C 5 dX6_money_154 rfl ?_
        exact VJ.iret C hret rfl rfl dX6_money_156
      · refine VJ.aload_n C 0 dX6_money_88 rfl ?_
        refine VJ.iload C 6 dX6_money_89 rfl ?_
        refine VJ.iload C 4 dX6_money_91 rfl ?_
        refine VJ.callV1 C [.int x7, .int x4] (pf [mW cI cZ o ad I R]) ([]) (fun R4 => none) (fun R4 => pf [mW cI cZ o ad I R4]) (fun R4 => pf [mW cI cZ o ad I R4]) (fun R4 => []) 0 0 (fun _ h9 => c_X6_goThrough l G cI cZ cQ cU cJ N o ad I R x7 x4 _ h9) (vj_p0 _) (fun _ => vj_p0' _) 0 rfl rfl (cwV 2 C.1.2.2.2.2 gX6_money_X6_goThrough rfl rfl rfl hyV_X6_goThrough ⟨Nat.le_of_ble_eq_true rfl, Nat.le_of_ble_eq_true rfl⟩) rfl rfl (fun _ => rfl) (Nat.le_of_ble_eq_true rfl) dX6_money_93 ⟨Nat.le_of_ble_eq_true rfl, Nat.le_of_ble_eq_true rfl⟩ ⟨rfl, rfl⟩ (fun R4 => ?_)
        refine VJ.iconst (v := 0) C dX6_money_96 (by decide) ?_
        refine VJ.istore C [(8, .int 0), (0, .ref o), (1, .int x1), (2, .int x2), (3, .int x3), (4, .int x4), (6, .int x6), (7, .int x7)] dX6_money_97 (Nat.le_of_ble_eq_true rfl) rfl ?_
        refine VJ.sub [1, 2, 3, 4, 5, 6, 7, 0] rfl ?_
        exact j99 k80 i80 N I R4 x1 x2 x3 x4 x6 x7 0
  have j66 : ∀ (I : OI) (R : RI) (x1 : Int32) (x2 : Int32) (x3 : Int32) (x4 : Int32) (y0 : Int32), VJ p l e rmX6_money s m args below meth c 9 G vwCl A (QR below G vwCl A args s rmX6_money.cells rmX6_money.slots (fun out : Int32 × OI × RI => some (.int out.1)) (fun out : Int32 × OI × RI => pf [mW cI cZ o ad out.2.1 out.2.2])) 0 0 (f_X6_money_j66 N  I R x1 x2 x3 x4 y0) (pf [mW cI cZ o ad I R]) 66 [(0, .ref o), (1, .int x1), (2, .int x2), (3, .int x3), (4, .int x4)] [.int y0, .ref o] := by
    intro  I R x1 x2 x3 x4 y0
    unfold f_X6_money_j66
    refine VJ.callV2 C [.int y0] (pf [mW cI cZ o ad I R]) ([]) (fun r2 I3 => some (.int r2)) (fun r2 I3 => pf [mW cI cZ o ad I3 R]) (fun r2 I3 => pf [mW cI cZ o ad I3 R]) (fun r2 I3 => [.int r2]) 0 0 (fun _ h9 => c_X6_refused l G cI cZ cQ cU cJ o ad I R y0 _ h9) (vj_p0 _) (fun _ _ => vj_p0' _) 0 rfl rfl (cwV 1 C.1.2.2.2.2 gX6_money_X6_refused rfl rfl rfl hyV_X6_refused ⟨Nat.le_of_ble_eq_true rfl, Nat.le_of_ble_eq_true rfl⟩) rfl rfl (fun _ _ => rfl) (Nat.le_of_ble_eq_true rfl) dX6_money_66 ⟨Nat.le_of_ble_eq_true rfl, Nat.le_of_ble_eq_true rfl⟩ ⟨rfl, rfl⟩ (fun r2 I3 => ?_)
    refine VJ.if_eq C 74 dX6_money_69 (by decide) (fun _ => ?_) (fun _ => ?_)
    · refine VJ.iconst (v := 0) C dX6_money_74 (by decide) ?_
      refine VJ.istore C [(6, .int 0), (0, .ref o), (1, .int x1), (2, .int x2), (3, .int x3), (4, .int x4)] dX6_money_75 (Nat.le_of_ble_eq_true rfl) rfl ?_
      refine VJ.iload_n C 3 dX6_money_77 rfl ?_
      refine VJ.istore C [(7, .int x2), (6, .int 0), (0, .ref o), (1, .int x1), (2, .int x2), (3, .int x3), (4, .int x4)] dX6_money_78 (Nat.le_of_ble_eq_true rfl) rfl ?_
      refine VJ.sub [2, 3, 4, 5, 6, 1, 0] rfl ?_
      exact j80 N I3 R x1 x2 x3 x4 0 x2
    · refine VJ.iconst (v := 0) C dX6_money_72 (by decide) ?_
      exact VJ.iret C hret rfl rfl dX6_money_73
  have j40 : ∀ (I : OI) (R : RI) (x1 : Int32) (x2 : Int32) (x3 : Int32) (x4 : Int32) (y0 : Int32), VJ p l e rmX6_money s m args below meth c 9 G vwCl A (QR below G vwCl A args s rmX6_money.cells rmX6_money.slots (fun out : Int32 × OI × RI => some (.int out.1)) (fun out : Int32 × OI × RI => pf [mW cI cZ o ad out.2.1 out.2.2])) 0 0 (f_X6_money_j40 N  I R x1 x2 x3 x4 y0) (pf [mW cI cZ o ad I R]) 40 [(0, .ref o), (1, .int x1), (2, .int x2), (3, .int x3), (4, .int x4)] [.int y0] := by
    intro  I R x1 x2 x3 x4 y0
    unfold f_X6_money_j40
    refine VJ.istore C [(5, .int y0), (0, .ref o), (1, .int x1), (2, .int x2), (3, .int x3), (4, .int x4)] dX6_money_40 (Nat.le_of_ble_eq_true rfl) rfl ?_
    refine VJ.aload_n C 1 dX6_money_42 rfl ?_
    refine VJ.iload_n C 2 dX6_money_43 rfl ?_
    refine VJ.iconst (v := 0) C dX6_money_44 (by decide) ?_
    refine VJ.iconst (v := 3) C dX6_money_45 (by decide) ?_
    refine VJ.callS1 C [.int x1, .int 0, .int 3] (pf []) (pf [mW cI cZ o ad I R]) (fun r1 => some (.int r1)) (fun r1 => pf []) (fun r1 => pf [mW cI cZ o ad I R]) (fun r1 => [.int r1, .ref o]) 0 0 (fun _ h9 => c_X6_within l G cI cZ cQ cU cJ x1 0 3 _ h9) (vj_pn _) (fun _ => vj_pn' _) (va_cwS 3 C.1.2.2.2.2 gX6_money_X6_within rfl rfl rfl hy_X6_within ⟨Nat.le_of_ble_eq_true rfl, Nat.le_of_ble_eq_true rfl⟩) rfl rfl (fun _ => rfl) (Nat.le_of_ble_eq_true rfl) dX6_money_46 ⟨Nat.le_of_ble_eq_true rfl, Nat.le_of_ble_eq_true rfl⟩ ⟨rfl, rfl⟩ (fun r1 => ?_)
    refine VJ.if_ne C 56 dX6_money_49 (by decide) (fun _ => ?_) (fun _ => ?_)
    · refine VJ.iload C 0 dX6_money_56 rfl ?_
      refine VJ.if_ne C 65 dX6_money_58 (by decide) (fun _ => ?_) (fun _ => ?_)
      · refine VJ.iconst (v := 0) C dX6_money_65 (by decide) ?_
        refine VJ.sub [1, 2, 3, 4, 5] rfl ?_
        exact j66 I R x1 x2 x3 x4 0
      · refine VJ.iconst (v := 2) C dX6_money_61 (by decide) ?_
        refine VJ.goto C 66 dX6_money_62 (by decide) ?_
        refine VJ.sub [1, 2, 3, 4, 5] rfl ?_
        exact j66 I R x1 x2 x3 x4 2
    · refine VJ.iconst (v := 1) C dX6_money_52 (by decide) ?_
      refine VJ.goto C 66 dX6_money_53 (by decide) ?_
      refine VJ.sub [1, 2, 3, 4, 5] rfl ?_
      exact j66 I R x1 x2 x3 x4 1
  unfold f_X6_money
  refine VJ.iload_n C 2 dX6_money_0 rfl ?_
  refine VJ.if_lt C 39 dX6_money_1 (by decide) (fun _ => ?_) (fun _ => ?_)
  · refine VJ.iconst (v := 0) C dX6_money_39 (by decide) ?_
    exact j40 I R x1 x2 x3 x4 0
  · refine VJ.iload_n C 3 dX6_money_4 rfl ?_
    refine VJ.iconst (v := 1) C dX6_money_5 (by decide) ?_
    refine VJ.bipush (v := 60) C dX6_money_6 (by decide) ?_
    refine VJ.callS1 C [.int x3, .int 1, .int 60] (pf []) (pf [mW cI cZ o ad I R]) (fun r12 => some (.int r12)) (fun r12 => pf []) (fun r12 => pf [mW cI cZ o ad I R]) (fun r12 => [.int r12]) 0 0 (fun _ h9 => c_X6_within l G cI cZ cQ cU cJ x3 1 60 _ h9) (vj_pn _) (fun _ => vj_pn' _) (va_cwS 3 C.1.2.2.2.2 gX6_money_X6_within rfl rfl rfl hy_X6_within ⟨Nat.le_of_ble_eq_true rfl, Nat.le_of_ble_eq_true rfl⟩) rfl rfl (fun _ => rfl) (Nat.le_of_ble_eq_true rfl) dX6_money_8 ⟨Nat.le_of_ble_eq_true rfl, Nat.le_of_ble_eq_true rfl⟩ ⟨rfl, rfl⟩ (fun r12 => ?_)
    refine VJ.if_eq C 39 dX6_money_11 (by decide) (fun _ => ?_) (fun _ => ?_)
    · refine VJ.iconst (v := 0) C dX6_money_39 (by decide) ?_
      exact j40 I R x1 x2 x3 x4 0
    · refine VJ.iload_n C 2 dX6_money_14 rfl ?_
      refine VJ.aload_n C 0 dX6_money_15 rfl ?_
      refine VJ.get (C0 := RX6) (T := TX6) (N := 38) (ci := 6) C in_X6_money_X6 0 rfl rfl 1 (Nat.le_of_ble_eq_true rfl) (C.1.2.2.2.2 _ (List.mem_of_getElem? (i := 1) rfl)) (fun _ h9 => h9) (v := .int (I 1)) rfl dX6_money_16 ?_
      refine VJ.iload_n C 3 dX6_money_19 rfl ?_
      refine VJ.isub C dX6_money_20 ?_
      refine VJ.iconst (v := 1) C dX6_money_21 (by decide) ?_
      refine VJ.iadd C dX6_money_22 ?_
      refine VJ.icmp_gt C 39 dX6_money_23 (by decide) (fun _ => ?_) (fun _ => ?_)
      · refine VJ.iconst (v := 0) C dX6_money_39 (by decide) ?_
        exact j40 I R x1 x2 x3 x4 0
      · refine VJ.aload_n C 0 dX6_money_26 rfl ?_
        refine VJ.iload C 4 dX6_money_27 rfl ?_
        refine VJ.callV1 C [.int x4] (pf [mW cI cZ o ad I R]) ([]) (fun r13 => some (.int r13)) (fun r13 => pf [mW cI cZ o ad I R]) (fun r13 => pf [mW cI cZ o ad I R]) (fun r13 => [.int r13]) 0 0 (fun _ h9 => c_X6_isDay l G cI cZ cQ cU cJ o ad I R x4 _ h9) (vj_p0 _) (fun _ => vj_p0' _) 0 rfl rfl (cwV 1 C.1.2.2.2.2 gX6_money_X6_isDay rfl rfl rfl hyV_X6_isDay ⟨Nat.le_of_ble_eq_true rfl, Nat.le_of_ble_eq_true rfl⟩) rfl rfl (fun _ => rfl) (Nat.le_of_ble_eq_true rfl) dX6_money_29 ⟨Nat.le_of_ble_eq_true rfl, Nat.le_of_ble_eq_true rfl⟩ ⟨rfl, rfl⟩ (fun r13 => ?_)
        refine VJ.if_eq C 39 dX6_money_32 (by decide) (fun _ => ?_) (fun _ => ?_)
        · refine VJ.iconst (v := 0) C dX6_money_39 (by decide) ?_
          exact j40 I R x1 x2 x3 x4 0
        · refine VJ.iconst (v := 1) C dX6_money_35 (by decide) ?_
          refine VJ.goto C 40 dX6_money_36 (by decide) ?_
          exact j40 I R x1 x2 x3 x4 1

set_option maxHeartbeats 4000000 in
set_option maxRecDepth 100000 in
def f_X6_changed_l125b (N : Nat) (k110 : OI → RI → Int32 → Int32 → Int32 → Option (Int32 × OI × RI)) (k125 : OI → RI → Int32 → Int32 → Int32 → Int32 → Int32 → Option (Int32 × OI × RI)) (I : OI) (R : RI) (x1 : Int32) (x4 : Int32) (x5 : Int32) (x6 : Int32) (x7 : Int32) : Option (Int32 × OI × RI) :=
  if 5 ≤ x7 then (if x6 = 0 then (ol (x4 + 1) (fun v6 => ol (x5 + Int32.ofInt 1) (fun v7 => k110 I R x1 v6 v7))) else (ol (x4 + 0) (fun v8 => ol (x5 + Int32.ofInt 1) (fun v9 => k110 I R x1 v8 v9)))) else (if x6 = 0 then (ol (x7 + Int32.ofInt 1) (fun v10 => k125 I R x1 x4 x5 0 v10)) else (og ((5 * x5) + x7) 120 (ob2 (f_X6_tells N I R x5 x7 x1) (fun r11 R12 => if (R 21 ((5 * x5) + x7).toNatClampNeg) = r11 then (ol (x7 + Int32.ofInt 1) (fun v14 => k125 I R12 x1 x4 x5 1 v14)) else (ol (x7 + Int32.ofInt 1) (fun v13 => k125 I R12 x1 x4 x5 0 v13))))))
set_option maxHeartbeats 4000000 in
set_option maxRecDepth 100000 in
def f_X6_changed_l125 (N : Nat) (k110 : OI → RI → Int32 → Int32 → Int32 → Option (Int32 × OI × RI)) : Nat → OI → RI → Int32 → Int32 → Int32 → Int32 → Int32 → Option (Int32 × OI × RI)
  | 0 => fun _ _ _ _ _ _ _ => none
  | n9 + 1 => f_X6_changed_l125b N k110 (f_X6_changed_l125 N k110 n9)
set_option maxHeartbeats 4000000 in
set_option maxRecDepth 100000 in
def f_X6_changed_l110b (N : Nat) (k110 : OI → RI → Int32 → Int32 → Int32 → Option (Int32 × OI × RI)) (I : OI) (R : RI) (x1 : Int32) (x4 : Int32) (x5 : Int32) : Option (Int32 × OI × RI) :=
  if (I 4) ≤ x5 then (some (x4, I, R)) else (f_X6_changed_l125 N k110 N I R x1 x4 x5 1 0)
set_option maxHeartbeats 4000000 in
set_option maxRecDepth 100000 in
def f_X6_changed_l110 (N : Nat) : Nat → OI → RI → Int32 → Int32 → Int32 → Option (Int32 × OI × RI)
  | 0 => fun _ _ _ _ _ => none
  | n9 + 1 => f_X6_changed_l110b N (f_X6_changed_l110 N n9)
set_option maxHeartbeats 4000000 in
set_option maxRecDepth 100000 in
def f_X6_changed_l59b (N : Nat) (k47 : OI → RI → Int32 → Int32 → Int32 → Option (Int32 × OI × RI)) (k59 : OI → RI → Int32 → Int32 → Int32 → Int32 → Option (Int32 × OI × RI)) (I : OI) (R : RI) (x1 : Int32) (x3 : Int32) (x4 : Int32) (x5 : Int32) : Option (Int32 × OI × RI) :=
  if 5 ≤ x5 then (ol (x4 + Int32.ofInt 1) (fun v15 => k47 I R x1 x3 v15)) else (ob2 (f_X6_tells N I R x4 x5 x1) (fun r16 R17 => og ((5 * x4) + x5) 120 (ol (va_up R17 21 (upd (R17 21) ((5 * x4) + x5).toNatClampNeg r16)) (fun R18 => ol (x5 + Int32.ofInt 1) (fun v19 => k59 I R18 x1 x3 x4 v19)))))
set_option maxHeartbeats 4000000 in
set_option maxRecDepth 100000 in
def f_X6_changed_l59 (N : Nat) (k47 : OI → RI → Int32 → Int32 → Int32 → Option (Int32 × OI × RI)) : Nat → OI → RI → Int32 → Int32 → Int32 → Int32 → Option (Int32 × OI × RI)
  | 0 => fun _ _ _ _ _ _ => none
  | n9 + 1 => f_X6_changed_l59b N k47 (f_X6_changed_l59 N k47 n9)
set_option maxHeartbeats 4000000 in
set_option maxRecDepth 100000 in
def f_X6_changed_l47b (N : Nat) (k47 : OI → RI → Int32 → Int32 → Int32 → Option (Int32 × OI × RI)) (I : OI) (R : RI) (x1 : Int32) (x3 : Int32) (x4 : Int32) : Option (Int32 × OI × RI) :=
  if (I 4) ≤ x4 then (ob1 (f_X6_goThrough N I R x1 x3) (fun R5 => f_X6_changed_l110 N N I R5 x1 0 0)) else (f_X6_changed_l59 N k47 N I R x1 x3 x4 0)
set_option maxHeartbeats 4000000 in
set_option maxRecDepth 100000 in
def f_X6_changed_l47 (N : Nat) : Nat → OI → RI → Int32 → Int32 → Int32 → Option (Int32 × OI × RI)
  | 0 => fun _ _ _ _ _ => none
  | n9 + 1 => f_X6_changed_l47b N (f_X6_changed_l47 N n9)
set_option maxHeartbeats 4000000 in
set_option maxRecDepth 100000 in
def f_X6_changed_j30 (N : Nat) (I : OI) (R : RI) (x1 : Int32) (x2 : Int32) (x3 : Int32) (y0 : Int32) : Option (Int32 × OI × RI) :=
  ob2 (f_X6_refused R I y0) (fun r2 I3 => if r2 = 0 then (ob1 (f_X6_goThrough N I3 R x1 x2) (fun R4 => f_X6_changed_l47 N N I3 R4 x1 x3 0)) else (some (0, I3, R)))
def f_X6_changed (N : Nat) (I : OI) (R : RI) (x1 : Int32) (x2 : Int32) (x3 : Int32) : Option (Int32 × OI × RI) :=
  ob1 (f_X6_isDay I R x1) (fun r1 => if r1 = 0 then (f_X6_changed_j30 N I R x1 x2 x3 1) else (ob1 (f_X6_isDay I R x2) (fun r20 => if r20 = 0 then (f_X6_changed_j30 N I R x1 x2 x3 1) else (ob1 (f_X6_isDay I R x3) (fun r21 => if r21 = 0 then (f_X6_changed_j30 N I R x1 x2 x3 1) else (f_X6_changed_j30 N I R x1 x2 x3 0))))))
abbrev rmX6_changed : Room := { frames := 4, cells := 0, slots := 0, locals := 93 }
theorem in_X6_changed_X6 : ∀ w ∈ u_ws RX6 TX6 38, w ∈ wsX6_changed := in_of 78 rfl
theorem hy_X6_changed : yX6_changed.cls ≠ "java/lang/invoke/MethodHandle" ∧ yX6_changed.cls ≠ "java/lang/invoke/VarHandle" ∧ (parseMethodDescriptor yX6_changed.desc).map (fun d => d.parameters.length) = some 3 := by decide +kernel
theorem hyV_X6_changed : yX6_changed.cls = RX6 ∧ yX6_changed.cls ≠ "java/lang/invoke/MethodHandle" ∧ yX6_changed.cls ≠ "java/lang/invoke/VarHandle" ∧ (parseMethodDescriptor yX6_changed.desc).map (fun d => d.parameters.length) = some 3 := ⟨rfl, hy_X6_changed⟩
set_option maxHeartbeats 8000000 in
set_option maxRecDepth 100000 in
theorem c_X6_changed (l : Launch) (G : va_G) (cI cZ cQ cU cJ : ClassId) (N : Nat) (o : Nat) (ad : Nat → Nat) (I : OI) (R : RI) (x1 : Int32) (x2 : Int32) (x3 : Int32) (out : Int32 × OI × RI) (hf : f_X6_changed N I R x1 x2 x3 = some out) : Con l yX6_changed wsX6_changed rmX6_changed G vwCl (tys cI cZ cQ cU cJ) nws [.ref o, .int x1, .int x2, .int x3] (pf [mW cI cZ o ad I R]) (some (.int out.1)) (pf [mW cI cZ o ad out.2.1 out.2.2]) := by
  refine con_of (rv := fun out : Int32 × OI × RI => some (.int out.1)) (Wd := fun out : Int32 × OI × RI => pf [mW cI cZ o ad out.2.1 out.2.2]) (maxL := 8) (own := RX6) rfl (plainFor_of_name (by decide +kernel)) rfl (Nat.le_of_ble_eq_true rfl) ?_ hf
  intro p e s m args below meth c A C hret hname
  have j125 : ∀ (k110 : OI → RI → Int32 → Int32 → Int32 → Option (Int32 × OI × RI)) (i110 : ∀ (I : OI) (R : RI) (x1 : Int32) (x4 : Int32) (x5 : Int32), VJ p l e rmX6_changed s m args below meth c 8 G vwCl A (QR below G vwCl A args s rmX6_changed.cells rmX6_changed.slots (fun out : Int32 × OI × RI => some (.int out.1)) (fun out : Int32 × OI × RI => pf [mW cI cZ o ad out.2.1 out.2.2])) 0 0 (k110 I R x1 x4 x5) (pf [mW cI cZ o ad I R]) 110 [(0, .ref o), (1, .int x1), (4, .int x4), (5, .int x5)] []) (n9 : Nat) (I : OI) (R : RI) (x1 : Int32) (x4 : Int32) (x5 : Int32) (x6 : Int32) (x7 : Int32), VJ p l e rmX6_changed s m args below meth c 8 G vwCl A (QR below G vwCl A args s rmX6_changed.cells rmX6_changed.slots (fun out : Int32 × OI × RI => some (.int out.1)) (fun out : Int32 × OI × RI => pf [mW cI cZ o ad out.2.1 out.2.2])) 0 0 (f_X6_changed_l125 N k110 n9 I R x1 x4 x5 x6 x7) (pf [mW cI cZ o ad I R]) 125 [(0, .ref o), (1, .int x1), (4, .int x4), (5, .int x5), (6, .int x6), (7, .int x7)] [] := by
    intro k110 i110 n9
    induction n9 with
    | zero => intro I R x1 x4 x5 x6 x7; exact VJ.fnone rfl
    | succ n9 i125 =>
      intro I R x1 x4 x5 x6 x7
      refine VJ.eqf (f' := f_X6_changed_l125b N k110 (f_X6_changed_l125 N k110 n9) I R x1 x4 x5 x6 x7) rfl ?_
      generalize f_X6_changed_l125 N k110 n9 = k125 at i125 ⊢
      unfold f_X6_changed_l125b
      refine VJ.iload C 5 dX6_changed_125 rfl ?_
      refine VJ.iconst (v := 5) C dX6_changed_127 (by decide) ?_
      refine VJ.icmp_ge C 173 dX6_changed_128 (by decide) (fun _ => ?_) (fun _ => ?_)
      · refine VJ.iload C 2 dX6_changed_173 rfl ?_
        refine VJ.iload C 4 dX6_changed_175 rfl ?_
        refine VJ.if_eq C 184 dX6_changed_177 (by decide) (fun _ => ?_) (fun _ => ?_)
        · refine VJ.iconst (v := 1) C dX6_changed_184 (by decide) ?_
          refine VJ.iadd C dX6_changed_185 ?_
          refine VJ.topi C (fun v6 => ?_)
          refine VJ.istore C [(4, .int v6), (0, .ref o), (1, .int x1), (5, .int x5), (6, .int x6), (7, .int x7)] dX6_changed_186 (Nat.le_of_ble_eq_true rfl) rfl ?_
          refine VJ.iincN C 3 (fun v7 => [(5, .int v7), (4, .int v6), (0, .ref o), (1, .int x1), (6, .int x6), (7, .int x7)]) dX6_changed_188 rfl (Nat.le_of_ble_eq_true rfl) (fun _ => rfl) (fun v7 => ?_)
          refine VJ.goto C 110 dX6_changed_191 (by decide) ?_
          refine VJ.sub [2, 3, 1, 0] rfl ?_
          exact i110 I R x1 v6 v7
        · refine VJ.iconst (v := 0) C dX6_changed_180 (by decide) ?_
          refine VJ.goto C 185 dX6_changed_181 (by decide) ?_
          refine VJ.iadd C dX6_changed_185 ?_
          refine VJ.topi C (fun v8 => ?_)
          refine VJ.istore C [(4, .int v8), (0, .ref o), (1, .int x1), (5, .int x5), (6, .int x6), (7, .int x7)] dX6_changed_186 (Nat.le_of_ble_eq_true rfl) rfl ?_
          refine VJ.iincN C 3 (fun v9 => [(5, .int v9), (4, .int v8), (0, .ref o), (1, .int x1), (6, .int x6), (7, .int x7)]) dX6_changed_188 rfl (Nat.le_of_ble_eq_true rfl) (fun _ => rfl) (fun v9 => ?_)
          refine VJ.goto C 110 dX6_changed_191 (by decide) ?_
          refine VJ.sub [2, 3, 1, 0] rfl ?_
          exact i110 I R x1 v8 v9
      · refine VJ.iload C 4 dX6_changed_131 rfl ?_
        refine VJ.if_eq C 164 dX6_changed_133 (by decide) (fun _ => ?_) (fun _ => ?_)
        · refine VJ.iconst (v := 0) C dX6_changed_164 (by decide) ?_
          refine VJ.istore C [(6, .int 0), (0, .ref o), (1, .int x1), (4, .int x4), (5, .int x5), (7, .int x7)] dX6_changed_165 (Nat.le_of_ble_eq_true rfl) rfl ?_
          refine VJ.iincN C 5 (fun v10 => [(7, .int v10), (6, .int 0), (0, .ref o), (1, .int x1), (4, .int x4), (5, .int x5)]) dX6_changed_167 rfl (Nat.le_of_ble_eq_true rfl) (fun _ => rfl) (fun v10 => ?_)
          refine VJ.goto C 125 dX6_changed_170 (by decide) ?_
          refine VJ.sub [2, 3, 4, 5, 1, 0] rfl ?_
          exact i125 I R x1 x4 x5 0 v10
        · refine VJ.aload_n C 0 dX6_changed_136 rfl ?_
          refine VJ.get (C0 := RX6) (T := TX6) (N := 38) (ci := 6) C in_X6_changed_X6 0 rfl rfl 28 (Nat.le_of_ble_eq_true rfl) (C.1.2.2.2.2 _ (List.mem_of_getElem? (i := 2) rfl)) (fun _ h9 => h9) (v := .ref (ad 21)) rfl dX6_changed_137 ?_
          refine VJ.iconst (v := 5) C dX6_changed_140 (by decide) ?_
          refine VJ.iload C 3 dX6_changed_141 rfl ?_
          refine VJ.imul C dX6_changed_143 ?_
          refine VJ.iload C 5 dX6_changed_144 rfl ?_
          refine VJ.iadd C dX6_changed_146 ?_
          refine VJ.iald C 22 0 rfl rfl dX6_changed_147 ?_
          refine VJ.aload_n C 0 dX6_changed_148 rfl ?_
          refine VJ.iload C 3 dX6_changed_149 rfl ?_
          refine VJ.iload C 5 dX6_changed_151 rfl ?_
          refine VJ.iload_n C 1 dX6_changed_153 rfl ?_
          refine VJ.callV2 C [.int x5, .int x7, .int x1] (pf [mW cI cZ o ad I R]) ([]) (fun r11 R12 => some (.int r11)) (fun r11 R12 => pf [mW cI cZ o ad I R12]) (fun r11 R12 => pf [mW cI cZ o ad I R12]) (fun r11 R12 => [.int r11, .int (R 21 ((5 * x5) + x7).toNatClampNeg)]) 0 0 (fun _ h9 => c_X6_tells l G cI cZ cQ cU cJ N o ad I R x5 x7 x1 _ h9) (vj_p0 _) (fun _ _ => vj_p0' _) 0 rfl rfl (cwV 3 C.1.2.2.2.2 gX6_changed_X6_tells rfl rfl rfl hyV_X6_tells ⟨Nat.le_of_ble_eq_true rfl, Nat.le_of_ble_eq_true rfl⟩) rfl rfl (fun _ _ => rfl) (Nat.le_of_ble_eq_true rfl) dX6_changed_154 ⟨Nat.le_of_ble_eq_true rfl, Nat.le_of_ble_eq_true rfl⟩ ⟨rfl, rfl⟩ (fun r11 R12 => ?_)
          refine VJ.icmp_ne C 164 dX6_changed_157 (by decide) (fun _ => ?_) (fun _ => ?_)
          · refine VJ.iconst (v := 0) C dX6_changed_164 (by decide) ?_
            refine VJ.istore C [(6, .int 0), (0, .ref o), (1, .int x1), (4, .int x4), (5, .int x5), (7, .int x7)] dX6_changed_165 (Nat.le_of_ble_eq_true rfl) rfl ?_
            refine VJ.iincN C 5 (fun v13 => [(7, .int v13), (6, .int 0), (0, .ref o), (1, .int x1), (4, .int x4), (5, .int x5)]) dX6_changed_167 rfl (Nat.le_of_ble_eq_true rfl) (fun _ => rfl) (fun v13 => ?_)
            refine VJ.goto C 125 dX6_changed_170 (by decide) ?_
            refine VJ.sub [2, 3, 4, 5, 1, 0] rfl ?_
            exact i125 I R12 x1 x4 x5 0 v13
          · refine VJ.iconst (v := 1) C dX6_changed_160 (by decide) ?_
            refine VJ.goto C 165 dX6_changed_161 (by decide) ?_
            refine VJ.istore C [(6, .int 1), (0, .ref o), (1, .int x1), (4, .int x4), (5, .int x5), (7, .int x7)] dX6_changed_165 (Nat.le_of_ble_eq_true rfl) rfl ?_
            refine VJ.iincN C 5 (fun v14 => [(7, .int v14), (6, .int 1), (0, .ref o), (1, .int x1), (4, .int x4), (5, .int x5)]) dX6_changed_167 rfl (Nat.le_of_ble_eq_true rfl) (fun _ => rfl) (fun v14 => ?_)
            refine VJ.goto C 125 dX6_changed_170 (by decide) ?_
            refine VJ.sub [2, 3, 4, 5, 1, 0] rfl ?_
            exact i125 I R12 x1 x4 x5 1 v14
  have j110 : ∀ (n9 : Nat) (I : OI) (R : RI) (x1 : Int32) (x4 : Int32) (x5 : Int32), VJ p l e rmX6_changed s m args below meth c 8 G vwCl A (QR below G vwCl A args s rmX6_changed.cells rmX6_changed.slots (fun out : Int32 × OI × RI => some (.int out.1)) (fun out : Int32 × OI × RI => pf [mW cI cZ o ad out.2.1 out.2.2])) 0 0 (f_X6_changed_l110 N  n9 I R x1 x4 x5) (pf [mW cI cZ o ad I R]) 110 [(0, .ref o), (1, .int x1), (4, .int x4), (5, .int x5)] [] := by
    intro  n9
    induction n9 with
    | zero => intro I R x1 x4 x5; exact VJ.fnone rfl
    | succ n9 i110 =>
      intro I R x1 x4 x5
      refine VJ.eqf (f' := f_X6_changed_l110b N  (f_X6_changed_l110 N  n9) I R x1 x4 x5) rfl ?_
      generalize f_X6_changed_l110 N  n9 = k110 at i110 ⊢
      unfold f_X6_changed_l110b
      refine VJ.iload C 3 dX6_changed_110 rfl ?_
      refine VJ.aload_n C 0 dX6_changed_112 rfl ?_
      refine VJ.get (C0 := RX6) (T := TX6) (N := 38) (ci := 6) C in_X6_changed_X6 0 rfl rfl 13 (Nat.le_of_ble_eq_true rfl) (C.1.2.2.2.2 _ (List.mem_of_getElem? (i := 1) rfl)) (fun _ h9 => h9) (v := .int (I 4)) rfl dX6_changed_113 ?_
      refine VJ.icmp_ge C 194 dX6_changed_116 (by decide) (fun _ => ?_) (fun _ => ?_)
      · refine VJ.iload C 2 dX6_changed_194 rfl ?_
        exact VJ.iret C hret rfl rfl dX6_changed_196
      · refine VJ.iconst (v := 1) C dX6_changed_119 (by decide) ?_
        refine VJ.istore C [(6, .int 1), (0, .ref o), (1, .int x1), (4, .int x4), (5, .int x5)] dX6_changed_120 (Nat.le_of_ble_eq_true rfl) rfl ?_
        refine VJ.iconst (v := 0) C dX6_changed_122 (by decide) ?_
        refine VJ.istore C [(7, .int 0), (6, .int 1), (0, .ref o), (1, .int x1), (4, .int x4), (5, .int x5)] dX6_changed_123 (Nat.le_of_ble_eq_true rfl) rfl ?_
        refine VJ.sub [2, 3, 4, 5, 1, 0] rfl ?_
        exact j125 k110 i110 N I R x1 x4 x5 1 0
  have j59 : ∀ (k47 : OI → RI → Int32 → Int32 → Int32 → Option (Int32 × OI × RI)) (i47 : ∀ (I : OI) (R : RI) (x1 : Int32) (x3 : Int32) (x4 : Int32), VJ p l e rmX6_changed s m args below meth c 8 G vwCl A (QR below G vwCl A args s rmX6_changed.cells rmX6_changed.slots (fun out : Int32 × OI × RI => some (.int out.1)) (fun out : Int32 × OI × RI => pf [mW cI cZ o ad out.2.1 out.2.2])) 0 0 (k47 I R x1 x3 x4) (pf [mW cI cZ o ad I R]) 47 [(0, .ref o), (1, .int x1), (3, .int x3), (4, .int x4)] []) (n9 : Nat) (I : OI) (R : RI) (x1 : Int32) (x3 : Int32) (x4 : Int32) (x5 : Int32), VJ p l e rmX6_changed s m args below meth c 8 G vwCl A (QR below G vwCl A args s rmX6_changed.cells rmX6_changed.slots (fun out : Int32 × OI × RI => some (.int out.1)) (fun out : Int32 × OI × RI => pf [mW cI cZ o ad out.2.1 out.2.2])) 0 0 (f_X6_changed_l59 N k47 n9 I R x1 x3 x4 x5) (pf [mW cI cZ o ad I R]) 59 [(0, .ref o), (1, .int x1), (3, .int x3), (4, .int x4), (5, .int x5)] [] := by
    intro k47 i47 n9
    induction n9 with
    | zero => intro I R x1 x3 x4 x5; exact VJ.fnone rfl
    | succ n9 i59 =>
      intro I R x1 x3 x4 x5
      refine VJ.eqf (f' := f_X6_changed_l59b N k47 (f_X6_changed_l59 N k47 n9) I R x1 x3 x4 x5) rfl ?_
      generalize f_X6_changed_l59 N k47 n9 = k59 at i59 ⊢
      unfold f_X6_changed_l59b
      refine VJ.iload C 4 dX6_changed_59 rfl ?_
      refine VJ.iconst (v := 5) C dX6_changed_61 (by decide) ?_
      refine VJ.icmp_ge C 92 dX6_changed_62 (by decide) (fun _ => ?_) (fun _ => ?_)
      · refine VJ.iincN C 3 (fun v15 => [(4, .int v15), (0, .ref o), (1, .int x1), (3, .int x3), (5, .int x5)]) dX6_changed_92 rfl (Nat.le_of_ble_eq_true rfl) (fun _ => rfl) (fun v15 => ?_)
        refine VJ.goto C 47 dX6_changed_95 (by decide) ?_
        refine VJ.sub [1, 2, 3, 0] rfl ?_
        exact i47 I R x1 x3 v15
      · refine VJ.aload_n C 0 dX6_changed_65 rfl ?_
        refine VJ.get (C0 := RX6) (T := TX6) (N := 38) (ci := 6) C in_X6_changed_X6 0 rfl rfl 28 (Nat.le_of_ble_eq_true rfl) (C.1.2.2.2.2 _ (List.mem_of_getElem? (i := 2) rfl)) (fun _ h9 => h9) (v := .ref (ad 21)) rfl dX6_changed_66 ?_
        refine VJ.iconst (v := 5) C dX6_changed_69 (by decide) ?_
        refine VJ.iload C 3 dX6_changed_70 rfl ?_
        refine VJ.imul C dX6_changed_72 ?_
        refine VJ.iload C 4 dX6_changed_73 rfl ?_
        refine VJ.iadd C dX6_changed_75 ?_
        refine VJ.aload_n C 0 dX6_changed_76 rfl ?_
        refine VJ.iload C 3 dX6_changed_77 rfl ?_
        refine VJ.iload C 4 dX6_changed_79 rfl ?_
        refine VJ.iload_n C 1 dX6_changed_81 rfl ?_
        refine VJ.callV2 C [.int x4, .int x5, .int x1] (pf [mW cI cZ o ad I R]) ([]) (fun r16 R17 => some (.int r16)) (fun r16 R17 => pf [mW cI cZ o ad I R17]) (fun r16 R17 => pf [mW cI cZ o ad I R17]) (fun r16 R17 => [.int r16, .int ((5 * x4) + x5), .ref (ad 21)]) 0 0 (fun _ h9 => c_X6_tells l G cI cZ cQ cU cJ N o ad I R x4 x5 x1 _ h9) (vj_p0 _) (fun _ _ => vj_p0' _) 0 rfl rfl (cwV 3 C.1.2.2.2.2 gX6_changed_X6_tells rfl rfl rfl hyV_X6_tells ⟨Nat.le_of_ble_eq_true rfl, Nat.le_of_ble_eq_true rfl⟩) rfl rfl (fun _ _ => rfl) (Nat.le_of_ble_eq_true rfl) dX6_changed_82 ⟨Nat.le_of_ble_eq_true rfl, Nat.le_of_ble_eq_true rfl⟩ ⟨rfl, rfl⟩ (fun r16 R17 => ?_)
        refine VJ.iastR C 22 0 R17 21 (fun R18 => pf [mW cI cZ o ad I R18]) rfl rfl (fun _ => rfl) dX6_changed_85 (fun R18 => ?_)
        refine VJ.iincN C 4 (fun v19 => [(5, .int v19), (0, .ref o), (1, .int x1), (3, .int x3), (4, .int x4)]) dX6_changed_86 rfl (Nat.le_of_ble_eq_true rfl) (fun _ => rfl) (fun v19 => ?_)
        refine VJ.goto C 59 dX6_changed_89 (by decide) ?_
        refine VJ.sub [1, 2, 3, 4, 0] rfl ?_
        exact i59 I R18 x1 x3 x4 v19
  have j47 : ∀ (n9 : Nat) (I : OI) (R : RI) (x1 : Int32) (x3 : Int32) (x4 : Int32), VJ p l e rmX6_changed s m args below meth c 8 G vwCl A (QR below G vwCl A args s rmX6_changed.cells rmX6_changed.slots (fun out : Int32 × OI × RI => some (.int out.1)) (fun out : Int32 × OI × RI => pf [mW cI cZ o ad out.2.1 out.2.2])) 0 0 (f_X6_changed_l47 N  n9 I R x1 x3 x4) (pf [mW cI cZ o ad I R]) 47 [(0, .ref o), (1, .int x1), (3, .int x3), (4, .int x4)] [] := by
    intro  n9
    induction n9 with
    | zero => intro I R x1 x3 x4; exact VJ.fnone rfl
    | succ n9 i47 =>
      intro I R x1 x3 x4
      refine VJ.eqf (f' := f_X6_changed_l47b N  (f_X6_changed_l47 N  n9) I R x1 x3 x4) rfl ?_
      generalize f_X6_changed_l47 N  n9 = k47 at i47 ⊢
      unfold f_X6_changed_l47b
      refine VJ.iload C 3 dX6_changed_47 rfl ?_
      refine VJ.aload_n C 0 dX6_changed_49 rfl ?_
      refine VJ.get (C0 := RX6) (T := TX6) (N := 38) (ci := 6) C in_X6_changed_X6 0 rfl rfl 13 (Nat.le_of_ble_eq_true rfl) (C.1.2.2.2.2 _ (List.mem_of_getElem? (i := 1) rfl)) (fun _ h9 => h9) (v := .int (I 4)) rfl dX6_changed_50 ?_
      refine VJ.icmp_ge C 98 dX6_changed_53 (by decide) (fun _ => ?_) (fun _ => ?_)
      · refine VJ.aload_n C 0 dX6_changed_98 rfl ?_
        refine VJ.iload_n C 1 dX6_changed_99 rfl ?_
        refine VJ.iload_n C 2 dX6_changed_100 rfl ?_
        refine VJ.callV1 C [.int x1, .int x3] (pf [mW cI cZ o ad I R]) ([]) (fun R5 => none) (fun R5 => pf [mW cI cZ o ad I R5]) (fun R5 => pf [mW cI cZ o ad I R5]) (fun R5 => []) 0 0 (fun _ h9 => c_X6_goThrough l G cI cZ cQ cU cJ N o ad I R x1 x3 _ h9) (vj_p0 _) (fun _ => vj_p0' _) 0 rfl rfl (cwV 2 C.1.2.2.2.2 gX6_changed_X6_goThrough rfl rfl rfl hyV_X6_goThrough ⟨Nat.le_of_ble_eq_true rfl, Nat.le_of_ble_eq_true rfl⟩) rfl rfl (fun _ => rfl) (Nat.le_of_ble_eq_true rfl) dX6_changed_101 ⟨Nat.le_of_ble_eq_true rfl, Nat.le_of_ble_eq_true rfl⟩ ⟨rfl, rfl⟩ (fun R5 => ?_)
        refine VJ.iconst (v := 0) C dX6_changed_104 (by decide) ?_
        refine VJ.istore C [(4, .int 0), (0, .ref o), (1, .int x1), (3, .int x3)] dX6_changed_105 (Nat.le_of_ble_eq_true rfl) rfl ?_
        refine VJ.iconst (v := 0) C dX6_changed_107 (by decide) ?_
        refine VJ.istore C [(5, .int 0), (4, .int 0), (0, .ref o), (1, .int x1), (3, .int x3)] dX6_changed_108 (Nat.le_of_ble_eq_true rfl) rfl ?_
        refine VJ.sub [2, 3, 1, 0] rfl ?_
        exact j110 N I R5 x1 0 0
      · refine VJ.iconst (v := 0) C dX6_changed_56 (by decide) ?_
        refine VJ.istore C [(5, .int 0), (0, .ref o), (1, .int x1), (3, .int x3), (4, .int x4)] dX6_changed_57 (Nat.le_of_ble_eq_true rfl) rfl ?_
        refine VJ.sub [1, 2, 3, 4, 0] rfl ?_
        exact j59 k47 i47 N I R x1 x3 x4 0
  have j30 : ∀ (I : OI) (R : RI) (x1 : Int32) (x2 : Int32) (x3 : Int32) (y0 : Int32), VJ p l e rmX6_changed s m args below meth c 8 G vwCl A (QR below G vwCl A args s rmX6_changed.cells rmX6_changed.slots (fun out : Int32 × OI × RI => some (.int out.1)) (fun out : Int32 × OI × RI => pf [mW cI cZ o ad out.2.1 out.2.2])) 0 0 (f_X6_changed_j30 N  I R x1 x2 x3 y0) (pf [mW cI cZ o ad I R]) 30 [(0, .ref o), (1, .int x1), (2, .int x2), (3, .int x3)] [.int y0, .ref o] := by
    intro  I R x1 x2 x3 y0
    unfold f_X6_changed_j30
    refine VJ.callV2 C [.int y0] (pf [mW cI cZ o ad I R]) ([]) (fun r2 I3 => some (.int r2)) (fun r2 I3 => pf [mW cI cZ o ad I3 R]) (fun r2 I3 => pf [mW cI cZ o ad I3 R]) (fun r2 I3 => [.int r2]) 0 0 (fun _ h9 => c_X6_refused l G cI cZ cQ cU cJ o ad I R y0 _ h9) (vj_p0 _) (fun _ _ => vj_p0' _) 0 rfl rfl (cwV 1 C.1.2.2.2.2 gX6_changed_X6_refused rfl rfl rfl hyV_X6_refused ⟨Nat.le_of_ble_eq_true rfl, Nat.le_of_ble_eq_true rfl⟩) rfl rfl (fun _ _ => rfl) (Nat.le_of_ble_eq_true rfl) dX6_changed_30 ⟨Nat.le_of_ble_eq_true rfl, Nat.le_of_ble_eq_true rfl⟩ ⟨rfl, rfl⟩ (fun r2 I3 => ?_)
    refine VJ.if_eq C 38 dX6_changed_33 (by decide) (fun _ => ?_) (fun _ => ?_)
    · refine VJ.aload_n C 0 dX6_changed_38 rfl ?_
      refine VJ.iload_n C 1 dX6_changed_39 rfl ?_
      refine VJ.iload_n C 2 dX6_changed_40 rfl ?_
      refine VJ.callV1 C [.int x1, .int x2] (pf [mW cI cZ o ad I3 R]) ([]) (fun R4 => none) (fun R4 => pf [mW cI cZ o ad I3 R4]) (fun R4 => pf [mW cI cZ o ad I3 R4]) (fun R4 => []) 0 0 (fun _ h9 => c_X6_goThrough l G cI cZ cQ cU cJ N o ad I3 R x1 x2 _ h9) (vj_p0 _) (fun _ => vj_p0' _) 0 rfl rfl (cwV 2 C.1.2.2.2.2 gX6_changed_X6_goThrough rfl rfl rfl hyV_X6_goThrough ⟨Nat.le_of_ble_eq_true rfl, Nat.le_of_ble_eq_true rfl⟩) rfl rfl (fun _ => rfl) (Nat.le_of_ble_eq_true rfl) dX6_changed_41 ⟨Nat.le_of_ble_eq_true rfl, Nat.le_of_ble_eq_true rfl⟩ ⟨rfl, rfl⟩ (fun R4 => ?_)
      refine VJ.iconst (v := 0) C dX6_changed_44 (by decide) ?_
      refine VJ.istore C [(4, .int 0), (0, .ref o), (1, .int x1), (2, .int x2), (3, .int x3)] dX6_changed_45 (Nat.le_of_ble_eq_true rfl) rfl ?_
      refine VJ.sub [1, 2, 4, 0] rfl ?_
      exact j47 N I3 R4 x1 x3 0
    · refine VJ.iconst (v := 0) C dX6_changed_36 (by decide) ?_
      exact VJ.iret C hret rfl rfl dX6_changed_37
  unfold f_X6_changed
  refine VJ.aload_n C 0 dX6_changed_0 rfl ?_
  refine VJ.aload_n C 0 dX6_changed_1 rfl ?_
  refine VJ.iload_n C 1 dX6_changed_2 rfl ?_
  refine VJ.callV1 C [.int x1] (pf [mW cI cZ o ad I R]) ([]) (fun r1 => some (.int r1)) (fun r1 => pf [mW cI cZ o ad I R]) (fun r1 => pf [mW cI cZ o ad I R]) (fun r1 => [.int r1, .ref o]) 0 0 (fun _ h9 => c_X6_isDay l G cI cZ cQ cU cJ o ad I R x1 _ h9) (vj_p0 _) (fun _ => vj_p0' _) 0 rfl rfl (cwV 1 C.1.2.2.2.2 gX6_changed_X6_isDay rfl rfl rfl hyV_X6_isDay ⟨Nat.le_of_ble_eq_true rfl, Nat.le_of_ble_eq_true rfl⟩) rfl rfl (fun _ => rfl) (Nat.le_of_ble_eq_true rfl) dX6_changed_3 ⟨Nat.le_of_ble_eq_true rfl, Nat.le_of_ble_eq_true rfl⟩ ⟨rfl, rfl⟩ (fun r1 => ?_)
  refine VJ.if_eq C 29 dX6_changed_6 (by decide) (fun _ => ?_) (fun _ => ?_)
  · refine VJ.iconst (v := 1) C dX6_changed_29 (by decide) ?_
    exact j30 I R x1 x2 x3 1
  · refine VJ.aload_n C 0 dX6_changed_9 rfl ?_
    refine VJ.iload_n C 2 dX6_changed_10 rfl ?_
    refine VJ.callV1 C [.int x2] (pf [mW cI cZ o ad I R]) ([]) (fun r20 => some (.int r20)) (fun r20 => pf [mW cI cZ o ad I R]) (fun r20 => pf [mW cI cZ o ad I R]) (fun r20 => [.int r20, .ref o]) 0 0 (fun _ h9 => c_X6_isDay l G cI cZ cQ cU cJ o ad I R x2 _ h9) (vj_p0 _) (fun _ => vj_p0' _) 0 rfl rfl (cwV 1 C.1.2.2.2.2 gX6_changed_X6_isDay rfl rfl rfl hyV_X6_isDay ⟨Nat.le_of_ble_eq_true rfl, Nat.le_of_ble_eq_true rfl⟩) rfl rfl (fun _ => rfl) (Nat.le_of_ble_eq_true rfl) dX6_changed_11 ⟨Nat.le_of_ble_eq_true rfl, Nat.le_of_ble_eq_true rfl⟩ ⟨rfl, rfl⟩ (fun r20 => ?_)
    refine VJ.if_eq C 29 dX6_changed_14 (by decide) (fun _ => ?_) (fun _ => ?_)
    · refine VJ.iconst (v := 1) C dX6_changed_29 (by decide) ?_
      exact j30 I R x1 x2 x3 1
    · refine VJ.aload_n C 0 dX6_changed_17 rfl ?_
      refine VJ.iload_n C 3 dX6_changed_18 rfl ?_
      refine VJ.callV1 C [.int x3] (pf [mW cI cZ o ad I R]) ([]) (fun r21 => some (.int r21)) (fun r21 => pf [mW cI cZ o ad I R]) (fun r21 => pf [mW cI cZ o ad I R]) (fun r21 => [.int r21, .ref o]) 0 0 (fun _ h9 => c_X6_isDay l G cI cZ cQ cU cJ o ad I R x3 _ h9) (vj_p0 _) (fun _ => vj_p0' _) 0 rfl rfl (cwV 1 C.1.2.2.2.2 gX6_changed_X6_isDay rfl rfl rfl hyV_X6_isDay ⟨Nat.le_of_ble_eq_true rfl, Nat.le_of_ble_eq_true rfl⟩) rfl rfl (fun _ => rfl) (Nat.le_of_ble_eq_true rfl) dX6_changed_19 ⟨Nat.le_of_ble_eq_true rfl, Nat.le_of_ble_eq_true rfl⟩ ⟨rfl, rfl⟩ (fun r21 => ?_)
      refine VJ.if_eq C 29 dX6_changed_22 (by decide) (fun _ => ?_) (fun _ => ?_)
      · refine VJ.iconst (v := 1) C dX6_changed_29 (by decide) ?_
        exact j30 I R x1 x2 x3 1
      · refine VJ.iconst (v := 0) C dX6_changed_25 (by decide) ?_
        refine VJ.goto C 30 dX6_changed_26 (by decide) ?_
        exact j30 I R x1 x2 x3 0

def f_X6_isSomebody (I : OI) (R : RI) (x1 : Int32) : Option Int32 :=
  og x1 24 (if (R 12 x1.toNatClampNeg) = 1 then (some 1) else (og x1 24 (if (R 12 x1.toNatClampNeg) = 2 then (some 1) else (some 0))))
abbrev rmX6_isSomebody : Room := { frames := 0, cells := 0, slots := 0, locals := 0 }
theorem in_X6_isSomebody_X6 : ∀ w ∈ u_ws RX6 TX6 38, w ∈ wsX6_isSomebody := in_of 2 rfl
theorem hy_X6_isSomebody : yX6_isSomebody.cls ≠ "java/lang/invoke/MethodHandle" ∧ yX6_isSomebody.cls ≠ "java/lang/invoke/VarHandle" ∧ (parseMethodDescriptor yX6_isSomebody.desc).map (fun d => d.parameters.length) = some 1 := by decide +kernel
theorem hyV_X6_isSomebody : yX6_isSomebody.cls = RX6 ∧ yX6_isSomebody.cls ≠ "java/lang/invoke/MethodHandle" ∧ yX6_isSomebody.cls ≠ "java/lang/invoke/VarHandle" ∧ (parseMethodDescriptor yX6_isSomebody.desc).map (fun d => d.parameters.length) = some 1 := ⟨rfl, hy_X6_isSomebody⟩
set_option maxHeartbeats 8000000 in
set_option maxRecDepth 100000 in
theorem c_X6_isSomebody (l : Launch) (G : va_G) (cI cZ cQ cU cJ : ClassId) (o : Nat) (ad : Nat → Nat) (I : OI) (R : RI) (x1 : Int32) (out : Int32) (hf : f_X6_isSomebody I R x1 = some out) : Con l yX6_isSomebody wsX6_isSomebody rmX6_isSomebody G vwCl (tys cI cZ cQ cU cJ) nws [.ref o, .int x1] (pf [mW cI cZ o ad I R]) (some (.int out)) (pf [mW cI cZ o ad I R]) := by
  refine con_of (rv := fun out : Int32 => some (.int out)) (Wd := fun out : Int32 => pf [mW cI cZ o ad I R]) (maxL := 2) (own := RX6) rfl (plainFor_of_name (by decide +kernel)) rfl (Nat.le_of_ble_eq_true rfl) ?_ hf
  intro p e s m args below meth c A C hret hname
  unfold f_X6_isSomebody
  refine VJ.aload_n C 0 dX6_isSomebody_0 rfl ?_
  refine VJ.get (C0 := RX6) (T := TX6) (N := 38) (ci := 6) C in_X6_isSomebody_X6 0 rfl rfl 19 (Nat.le_of_ble_eq_true rfl) (C.1.2.2.2.2 _ (List.mem_of_getElem? (i := 1) rfl)) (fun _ h9 => h9) (v := .ref (ad 12)) rfl dX6_isSomebody_1 ?_
  refine VJ.iload_n C 1 dX6_isSomebody_4 rfl ?_
  refine VJ.iald C 13 0 rfl rfl dX6_isSomebody_5 ?_
  refine VJ.iconst (v := 1) C dX6_isSomebody_6 (by decide) ?_
  refine VJ.icmp_eq C 20 dX6_isSomebody_7 (by decide) (fun _ => ?_) (fun _ => ?_)
  · refine VJ.iconst (v := 1) C dX6_isSomebody_20 (by decide) ?_
    refine VJ.goto C 25 dX6_isSomebody_21 (by decide) ?_
    exact VJ.zret C rfl hret rfl rfl dX6_isSomebody_25
  · refine VJ.aload_n C 0 dX6_isSomebody_10 rfl ?_
    refine VJ.get (C0 := RX6) (T := TX6) (N := 38) (ci := 6) C in_X6_isSomebody_X6 0 rfl rfl 19 (Nat.le_of_ble_eq_true rfl) (C.1.2.2.2.2 _ (List.mem_of_getElem? (i := 1) rfl)) (fun _ h9 => h9) (v := .ref (ad 12)) rfl dX6_isSomebody_11 ?_
    refine VJ.iload_n C 1 dX6_isSomebody_14 rfl ?_
    refine VJ.iald C 13 0 rfl rfl dX6_isSomebody_15 ?_
    refine VJ.iconst (v := 2) C dX6_isSomebody_16 (by decide) ?_
    refine VJ.icmp_ne C 24 dX6_isSomebody_17 (by decide) (fun _ => ?_) (fun _ => ?_)
    · refine VJ.iconst (v := 0) C dX6_isSomebody_24 (by decide) ?_
      exact VJ.zret C rfl hret rfl rfl dX6_isSomebody_25
    · refine VJ.iconst (v := 1) C dX6_isSomebody_20 (by decide) ?_
      refine VJ.goto C 25 dX6_isSomebody_21 (by decide) ?_
      exact VJ.zret C rfl hret rfl rfl dX6_isSomebody_25

set_option maxHeartbeats 4000000 in
set_option maxRecDepth 100000 in
def f_X6_origin_j78 (N : Nat) (I : OI) (R : RI) (x1 : Int32) (y0 : Int32) : Option (Int32 × OI × RI) :=
  ob1 (f_X6_isSomebody I R x1) (fun r6 => if r6 = 0 then (some ((-1), I, R)) else (og x1 24 (if (R 19 x1.toNatClampNeg) = 0 then (og x1 24 (some (R 18 x1.toNatClampNeg, I, R))) else (if y0 = 0 then (some ((-2), I, R)) else (og x1 24 (some (R 18 x1.toNatClampNeg, I, R)))))))
set_option maxHeartbeats 4000000 in
set_option maxRecDepth 100000 in
def f_X6_origin_j27 (N : Nat) (I : OI) (R : RI) (x1 : Int32) (x2 : Int32) (y0 : Int32) : Option (Int32 × OI × RI) :=
  ob2 (f_X6_refused R I y0) (fun r2 I3 => if r2 = 0 then (ob1 (f_X6_goThrough N I3 R (I3 1) (I3 1)) (fun R4 => ob1 (f_X6_leadsTo N I3 R4 x2) (fun r5 => if r5 = (-1) then (f_X6_origin_j78 N I3 R4 x1 0) else (if r5 = x1 then (f_X6_origin_j78 N I3 R4 x1 1) else (og x1 24 (if r5 = (R4 16 x1.toNatClampNeg) then (f_X6_origin_j78 N I3 R4 x1 1) else (f_X6_origin_j78 N I3 R4 x1 0))))))) else (some (0, I3, R)))
def f_X6_origin (N : Nat) (I : OI) (R : RI) (x1 : Int32) (x2 : Int32) : Option (Int32 × OI × RI) :=
  ob1 (f_X6_isPerson I R x1) (fun r1 => if r1 = 0 then (f_X6_origin_j27 N I R x1 x2 1) else (if x2 = (-1) then (f_X6_origin_j27 N I R x1 x2 0) else (ob1 (f_X6_isPerson I R x2) (fun r7 => if r7 = 0 then (f_X6_origin_j27 N I R x1 x2 1) else (f_X6_origin_j27 N I R x1 x2 0)))))
abbrev rmX6_origin : Room := { frames := 4, cells := 0, slots := 0, locals := 91 }
theorem in_X6_origin_X6 : ∀ w ∈ u_ws RX6 TX6 38, w ∈ wsX6_origin := in_of 64 rfl
theorem hy_X6_origin : yX6_origin.cls ≠ "java/lang/invoke/MethodHandle" ∧ yX6_origin.cls ≠ "java/lang/invoke/VarHandle" ∧ (parseMethodDescriptor yX6_origin.desc).map (fun d => d.parameters.length) = some 2 := by decide +kernel
theorem hyV_X6_origin : yX6_origin.cls = RX6 ∧ yX6_origin.cls ≠ "java/lang/invoke/MethodHandle" ∧ yX6_origin.cls ≠ "java/lang/invoke/VarHandle" ∧ (parseMethodDescriptor yX6_origin.desc).map (fun d => d.parameters.length) = some 2 := ⟨rfl, hy_X6_origin⟩
set_option maxHeartbeats 8000000 in
set_option maxRecDepth 100000 in
theorem c_X6_origin (l : Launch) (G : va_G) (cI cZ cQ cU cJ : ClassId) (N : Nat) (o : Nat) (ad : Nat → Nat) (I : OI) (R : RI) (x1 : Int32) (x2 : Int32) (out : Int32 × OI × RI) (hf : f_X6_origin N I R x1 x2 = some out) : Con l yX6_origin wsX6_origin rmX6_origin G vwCl (tys cI cZ cQ cU cJ) nws [.ref o, .int x1, .int x2] (pf [mW cI cZ o ad I R]) (some (.int out.1)) (pf [mW cI cZ o ad out.2.1 out.2.2]) := by
  refine con_of (rv := fun out : Int32 × OI × RI => some (.int out.1)) (Wd := fun out : Int32 × OI × RI => pf [mW cI cZ o ad out.2.1 out.2.2]) (maxL := 5) (own := RX6) rfl (plainFor_of_name (by decide +kernel)) rfl (Nat.le_of_ble_eq_true rfl) ?_ hf
  intro p e s m args below meth c A C hret hname
  have j78 : ∀ (I : OI) (R : RI) (x1 : Int32) (y0 : Int32), VJ p l e rmX6_origin s m args below meth c 5 G vwCl A (QR below G vwCl A args s rmX6_origin.cells rmX6_origin.slots (fun out : Int32 × OI × RI => some (.int out.1)) (fun out : Int32 × OI × RI => pf [mW cI cZ o ad out.2.1 out.2.2])) 0 0 (f_X6_origin_j78 N  I R x1 y0) (pf [mW cI cZ o ad I R]) 78 [(0, .ref o), (1, .int x1)] [.int y0] := by
    intro  I R x1 y0
    unfold f_X6_origin_j78
    refine VJ.istore C [(4, .int y0), (0, .ref o), (1, .int x1)] dX6_origin_78 (Nat.le_of_ble_eq_true rfl) rfl ?_
    refine VJ.aload_n C 1 dX6_origin_80 rfl ?_
    refine VJ.iload_n C 2 dX6_origin_81 rfl ?_
    refine VJ.callV1 C [.int x1] (pf [mW cI cZ o ad I R]) ([]) (fun r6 => some (.int r6)) (fun r6 => pf [mW cI cZ o ad I R]) (fun r6 => pf [mW cI cZ o ad I R]) (fun r6 => [.int r6]) 0 0 (fun _ h9 => c_X6_isSomebody l G cI cZ cQ cU cJ o ad I R x1 _ h9) (vj_p0 _) (fun _ => vj_p0' _) 0 rfl rfl (cwV 1 C.1.2.2.2.2 gX6_origin_X6_isSomebody rfl rfl rfl hyV_X6_isSomebody ⟨Nat.le_of_ble_eq_true rfl, Nat.le_of_ble_eq_true rfl⟩) rfl rfl (fun _ => rfl) (Nat.le_of_ble_eq_true rfl) dX6_origin_82 ⟨Nat.le_of_ble_eq_true rfl, Nat.le_of_ble_eq_true rfl⟩ ⟨rfl, rfl⟩ (fun r6 => ?_)
    refine VJ.if_ne C 92 dX6_origin_85 (by decide) (fun _ => ?_) (fun _ => ?_)
    · refine VJ.aload_n C 1 dX6_origin_92 rfl ?_
      refine VJ.get (C0 := RX6) (T := TX6) (N := 38) (ci := 6) C in_X6_origin_X6 0 rfl rfl 26 (Nat.le_of_ble_eq_true rfl) (C.1.2.2.2.2 _ (List.mem_of_getElem? (i := 3) rfl)) (fun _ h9 => h9) (v := .ref (ad 19)) rfl dX6_origin_93 ?_
      refine VJ.iload_n C 2 dX6_origin_96 rfl ?_
      refine VJ.zald C 20 1 rfl rfl dX6_origin_97 ?_
      refine VJ.if_eq C 111 dX6_origin_98 (by decide) (fun _ => ?_) (fun _ => ?_)
      · refine VJ.aload_n C 1 dX6_origin_111 rfl ?_
        refine VJ.get (C0 := RX6) (T := TX6) (N := 38) (ci := 6) C in_X6_origin_X6 0 rfl rfl 25 (Nat.le_of_ble_eq_true rfl) (C.1.2.2.2.2 _ (List.mem_of_getElem? (i := 4) rfl)) (fun _ h9 => h9) (v := .ref (ad 18)) rfl dX6_origin_112 ?_
        refine VJ.iload_n C 2 dX6_origin_115 rfl ?_
        refine VJ.iald C 19 0 rfl rfl dX6_origin_116 ?_
        exact VJ.iret C hret rfl rfl dX6_origin_117
      · refine VJ.iload C 0 dX6_origin_101 rfl ?_
        refine VJ.if_ne C 111 dX6_origin_103 (by decide) (fun _ => ?_) (fun _ => ?_)
        · refine VJ.aload_n C 1 dX6_origin_111 rfl ?_
          refine VJ.get (C0 := RX6) (T := TX6) (N := 38) (ci := 6) C in_X6_origin_X6 0 rfl rfl 25 (Nat.le_of_ble_eq_true rfl) (C.1.2.2.2.2 _ (List.mem_of_getElem? (i := 4) rfl)) (fun _ h9 => h9) (v := .ref (ad 18)) rfl dX6_origin_112 ?_
          refine VJ.iload_n C 2 dX6_origin_115 rfl ?_
          refine VJ.iald C 19 0 rfl rfl dX6_origin_116 ?_
          exact VJ.iret C hret rfl rfl dX6_origin_117
        · refine VJ.bipush (v := (-2)) C dX6_origin_106 (by decide) ?_
          refine VJ.goto C 117 dX6_origin_108 (by decide) ?_
          exact VJ.iret C hret rfl rfl dX6_origin_117
    · refine VJ.iconst (v := (-1)) C dX6_origin_88 (by decide) ?_
      refine VJ.goto C 117 dX6_origin_89 (by decide) ?_
      exact VJ.iret C hret rfl rfl dX6_origin_117
  have j27 : ∀ (I : OI) (R : RI) (x1 : Int32) (x2 : Int32) (y0 : Int32), VJ p l e rmX6_origin s m args below meth c 5 G vwCl A (QR below G vwCl A args s rmX6_origin.cells rmX6_origin.slots (fun out : Int32 × OI × RI => some (.int out.1)) (fun out : Int32 × OI × RI => pf [mW cI cZ o ad out.2.1 out.2.2])) 0 0 (f_X6_origin_j27 N  I R x1 x2 y0) (pf [mW cI cZ o ad I R]) 27 [(0, .ref o), (1, .int x1), (2, .int x2)] [.int y0, .ref o] := by
    intro  I R x1 x2 y0
    unfold f_X6_origin_j27
    refine VJ.callV2 C [.int y0] (pf [mW cI cZ o ad I R]) ([]) (fun r2 I3 => some (.int r2)) (fun r2 I3 => pf [mW cI cZ o ad I3 R]) (fun r2 I3 => pf [mW cI cZ o ad I3 R]) (fun r2 I3 => [.int r2]) 0 0 (fun _ h9 => c_X6_refused l G cI cZ cQ cU cJ o ad I R y0 _ h9) (vj_p0 _) (fun _ _ => vj_p0' _) 0 rfl rfl (cwV 1 C.1.2.2.2.2 gX6_origin_X6_refused rfl rfl rfl hyV_X6_refused ⟨Nat.le_of_ble_eq_true rfl, Nat.le_of_ble_eq_true rfl⟩) rfl rfl (fun _ _ => rfl) (Nat.le_of_ble_eq_true rfl) dX6_origin_27 ⟨Nat.le_of_ble_eq_true rfl, Nat.le_of_ble_eq_true rfl⟩ ⟨rfl, rfl⟩ (fun r2 I3 => ?_)
    refine VJ.if_eq C 35 dX6_origin_30 (by decide) (fun _ => ?_) (fun _ => ?_)
    · refine VJ.aload_n C 0 dX6_origin_35 rfl ?_
      refine VJ.aload_n C 0 dX6_origin_36 rfl ?_
      refine VJ.get (C0 := RX6) (T := TX6) (N := 38) (ci := 6) C in_X6_origin_X6 0 rfl rfl 1 (Nat.le_of_ble_eq_true rfl) (C.1.2.2.2.2 _ (List.mem_of_getElem? (i := 1) rfl)) (fun _ h9 => h9) (v := .int (I3 1)) rfl dX6_origin_37 ?_
      refine VJ.aload_n C 0 dX6_origin_40 rfl ?_
      refine VJ.get (C0 := RX6) (T := TX6) (N := 38) (ci := 6) C in_X6_origin_X6 0 rfl rfl 1 (Nat.le_of_ble_eq_true rfl) (C.1.2.2.2.2 _ (List.mem_of_getElem? (i := 1) rfl)) (fun _ h9 => h9) (v := .int (I3 1)) rfl dX6_origin_41 ?_
      refine VJ.callV1 C [.int (I3 1), .int (I3 1)] (pf [mW cI cZ o ad I3 R]) ([]) (fun R4 => none) (fun R4 => pf [mW cI cZ o ad I3 R4]) (fun R4 => pf [mW cI cZ o ad I3 R4]) (fun R4 => []) 0 0 (fun _ h9 => c_X6_goThrough l G cI cZ cQ cU cJ N o ad I3 R (I3 1) (I3 1) _ h9) (vj_p0 _) (fun _ => vj_p0' _) 0 rfl rfl (cwV 2 C.1.2.2.2.2 gX6_origin_X6_goThrough rfl rfl rfl hyV_X6_goThrough ⟨Nat.le_of_ble_eq_true rfl, Nat.le_of_ble_eq_true rfl⟩) rfl rfl (fun _ => rfl) (Nat.le_of_ble_eq_true rfl) dX6_origin_44 ⟨Nat.le_of_ble_eq_true rfl, Nat.le_of_ble_eq_true rfl⟩ ⟨rfl, rfl⟩ (fun R4 => ?_)
      refine VJ.aload_n C 0 dX6_origin_47 rfl ?_
      refine VJ.iload_n C 2 dX6_origin_48 rfl ?_
      refine VJ.callV1 C [.int x2] (pf [mW cI cZ o ad I3 R4]) ([]) (fun r5 => some (.int r5)) (fun r5 => pf [mW cI cZ o ad I3 R4]) (fun r5 => pf [mW cI cZ o ad I3 R4]) (fun r5 => [.int r5]) 0 0 (fun _ h9 => c_X6_leadsTo l G cI cZ cQ cU cJ N o ad I3 R4 x2 _ h9) (vj_p0 _) (fun _ => vj_p0' _) 0 rfl rfl (cwV 1 C.1.2.2.2.2 gX6_origin_X6_leadsTo rfl rfl rfl hyV_X6_leadsTo ⟨Nat.le_of_ble_eq_true rfl, Nat.le_of_ble_eq_true rfl⟩) rfl rfl (fun _ => rfl) (Nat.le_of_ble_eq_true rfl) dX6_origin_49 ⟨Nat.le_of_ble_eq_true rfl, Nat.le_of_ble_eq_true rfl⟩ ⟨rfl, rfl⟩ (fun r5 => ?_)
      refine VJ.istore_n C [(3, .int r5), (0, .ref o), (1, .int x1), (2, .int x2)] dX6_origin_52 (Nat.le_of_ble_eq_true rfl) rfl ?_
      refine VJ.iload_n C 0 dX6_origin_53 rfl ?_
      refine VJ.iconst (v := (-1)) C dX6_origin_54 (by decide) ?_
      refine VJ.icmp_eq C 77 dX6_origin_55 (by decide) (fun _ => ?_) (fun _ => ?_)
      · refine VJ.iconst (v := 0) C dX6_origin_77 (by decide) ?_
        refine VJ.sub [1, 2] rfl ?_
        exact j78 I3 R4 x1 0
      · refine VJ.iload_n C 0 dX6_origin_58 rfl ?_
        refine VJ.iload_n C 2 dX6_origin_59 rfl ?_
        refine VJ.icmp_eq C 73 dX6_origin_60 (by decide) (fun _ => ?_) (fun _ => ?_)
        · refine VJ.iconst (v := 1) C dX6_origin_73 (by decide) ?_
          refine VJ.goto C 78 dX6_origin_74 (by decide) ?_
          refine VJ.sub [1, 2] rfl ?_
          exact j78 I3 R4 x1 1
        · refine VJ.iload_n C 0 dX6_origin_63 rfl ?_
          refine VJ.aload_n C 1 dX6_origin_64 rfl ?_
          refine VJ.get (C0 := RX6) (T := TX6) (N := 38) (ci := 6) C in_X6_origin_X6 0 rfl rfl 23 (Nat.le_of_ble_eq_true rfl) (C.1.2.2.2.2 _ (List.mem_of_getElem? (i := 2) rfl)) (fun _ h9 => h9) (v := .ref (ad 16)) rfl dX6_origin_65 ?_
          refine VJ.iload_n C 2 dX6_origin_68 rfl ?_
          refine VJ.iald C 17 0 rfl rfl dX6_origin_69 ?_
          refine VJ.icmp_ne C 77 dX6_origin_70 (by decide) (fun _ => ?_) (fun _ => ?_)
          · refine VJ.iconst (v := 0) C dX6_origin_77 (by decide) ?_
            refine VJ.sub [1, 2] rfl ?_
            exact j78 I3 R4 x1 0
          · refine VJ.iconst (v := 1) C dX6_origin_73 (by decide) ?_
            refine VJ.goto C 78 dX6_origin_74 (by decide) ?_
            refine VJ.sub [1, 2] rfl ?_
            exact j78 I3 R4 x1 1
    · refine VJ.iconst (v := 0) C dX6_origin_33 (by decide) ?_
      exact VJ.iret C hret rfl rfl dX6_origin_34
  unfold f_X6_origin
  refine VJ.aload_n C 0 dX6_origin_0 rfl ?_
  refine VJ.aload_n C 0 dX6_origin_1 rfl ?_
  refine VJ.iload_n C 1 dX6_origin_2 rfl ?_
  refine VJ.callV1 C [.int x1] (pf [mW cI cZ o ad I R]) ([]) (fun r1 => some (.int r1)) (fun r1 => pf [mW cI cZ o ad I R]) (fun r1 => pf [mW cI cZ o ad I R]) (fun r1 => [.int r1, .ref o]) 0 0 (fun _ h9 => c_X6_isPerson l G cI cZ cQ cU cJ o ad I R x1 _ h9) (vj_p0 _) (fun _ => vj_p0' _) 0 rfl rfl (cwV 1 C.1.2.2.2.2 gX6_origin_X6_isPerson rfl rfl rfl hyV_X6_isPerson ⟨Nat.le_of_ble_eq_true rfl, Nat.le_of_ble_eq_true rfl⟩) rfl rfl (fun _ => rfl) (Nat.le_of_ble_eq_true rfl) dX6_origin_3 ⟨Nat.le_of_ble_eq_true rfl, Nat.le_of_ble_eq_true rfl⟩ ⟨rfl, rfl⟩ (fun r1 => ?_)
  refine VJ.if_eq C 26 dX6_origin_6 (by decide) (fun _ => ?_) (fun _ => ?_)
  · refine VJ.iconst (v := 1) C dX6_origin_26 (by decide) ?_
    exact j27 I R x1 x2 1
  · refine VJ.iload_n C 2 dX6_origin_9 rfl ?_
    refine VJ.iconst (v := (-1)) C dX6_origin_10 (by decide) ?_
    refine VJ.icmp_eq C 22 dX6_origin_11 (by decide) (fun _ => ?_) (fun _ => ?_)
    · refine VJ.iconst (v := 0) C dX6_origin_22 (by decide) ?_
      refine VJ.goto C 27 dX6_origin_23 (by decide) ?_
      exact j27 I R x1 x2 0
    · refine VJ.aload_n C 0 dX6_origin_14 rfl ?_
      refine VJ.iload_n C 2 dX6_origin_15 rfl ?_
      refine VJ.callV1 C [.int x2] (pf [mW cI cZ o ad I R]) ([]) (fun r7 => some (.int r7)) (fun r7 => pf [mW cI cZ o ad I R]) (fun r7 => pf [mW cI cZ o ad I R]) (fun r7 => [.int r7, .ref o]) 0 0 (fun _ h9 => c_X6_isPerson l G cI cZ cQ cU cJ o ad I R x2 _ h9) (vj_p0 _) (fun _ => vj_p0' _) 0 rfl rfl (cwV 1 C.1.2.2.2.2 gX6_origin_X6_isPerson rfl rfl rfl hyV_X6_isPerson ⟨Nat.le_of_ble_eq_true rfl, Nat.le_of_ble_eq_true rfl⟩) rfl rfl (fun _ => rfl) (Nat.le_of_ble_eq_true rfl) dX6_origin_16 ⟨Nat.le_of_ble_eq_true rfl, Nat.le_of_ble_eq_true rfl⟩ ⟨rfl, rfl⟩ (fun r7 => ?_)
      refine VJ.if_eq C 26 dX6_origin_19 (by decide) (fun _ => ?_) (fun _ => ?_)
      · refine VJ.iconst (v := 1) C dX6_origin_26 (by decide) ?_
        exact j27 I R x1 x2 1
      · refine VJ.iconst (v := 0) C dX6_origin_22 (by decide) ?_
        refine VJ.goto C 27 dX6_origin_23 (by decide) ?_
        exact j27 I R x1 x2 0

set_option maxHeartbeats 4000000 in
set_option maxRecDepth 100000 in
def f_X6_like_j106 (I : OI) (R : RI) (x1 : Int32) (x2 : Int32) (y0 : Int32) (y1 : Int32) : Option Int32 :=
  og x1 24 (if (R 13 x1.toNatClampNeg) = (-1) then (some ((y1 + y0) + 0)) else (og x1 24 (og x2 24 (if (R 13 x1.toNatClampNeg) = (R 13 x2.toNatClampNeg) then (some ((y1 + y0) + 2)) else (some ((y1 + y0) + 0))))))
set_option maxHeartbeats 4000000 in
set_option maxRecDepth 100000 in
def f_X6_like_j82 (I : OI) (R : RI) (x1 : Int32) (x2 : Int32) (y0 : Int32) : Option Int32 :=
  og x1 24 (og x2 24 (if (R 14 x1.toNatClampNeg) = (R 14 x2.toNatClampNeg) then (f_X6_like_j106 I R x1 x2 3 y0) else (f_X6_like_j106 I R x1 x2 0 y0)))
set_option maxHeartbeats 4000000 in
set_option maxRecDepth 100000 in
def f_X6_like_j62 (I : OI) (R : RI) (x1 : Int32) (x2 : Int32) (y0 : Int32) : Option Int32 :=
  if y0 = 0 then (f_X6_like_j82 I R x1 x2 5) else (if 31 < y0 then (f_X6_like_j82 I R x1 x2 0) else (f_X6_like_j82 I R x1 x2 2))
def f_X6_like (I : OI) (R : RI) (x1 : Int32) (x2 : Int32) : Option Int32 :=
  ob1 (f_X6_isSomebody I R x1) (fun r1 => if r1 = 0 then (some 0) else (ob1 (f_X6_isSomebody I R x2) (fun r2 => if r2 = 0 then (some 0) else (og x1 24 (og x2 24 (if (R 17 x1.toNatClampNeg) ≤ (R 17 x2.toNatClampNeg) then (og x2 24 (og x1 24 (f_X6_like_j62 I R x1 x2 ((R 17 x2.toNatClampNeg) - (R 17 x1.toNatClampNeg))))) else (og x1 24 (og x2 24 (f_X6_like_j62 I R x1 x2 ((R 17 x1.toNatClampNeg) - (R 17 x2.toNatClampNeg)))))))))))
abbrev rmX6_like : Room := { frames := 1, cells := 0, slots := 0, locals := 21 }
theorem in_X6_like_X6 : ∀ w ∈ u_ws RX6 TX6 38, w ∈ wsX6_like := in_of 10 rfl
theorem hy_X6_like : yX6_like.cls ≠ "java/lang/invoke/MethodHandle" ∧ yX6_like.cls ≠ "java/lang/invoke/VarHandle" ∧ (parseMethodDescriptor yX6_like.desc).map (fun d => d.parameters.length) = some 2 := by decide +kernel
theorem hyV_X6_like : yX6_like.cls = RX6 ∧ yX6_like.cls ≠ "java/lang/invoke/MethodHandle" ∧ yX6_like.cls ≠ "java/lang/invoke/VarHandle" ∧ (parseMethodDescriptor yX6_like.desc).map (fun d => d.parameters.length) = some 2 := ⟨rfl, hy_X6_like⟩
set_option maxHeartbeats 8000000 in
set_option maxRecDepth 100000 in
theorem c_X6_like (l : Launch) (G : va_G) (cI cZ cQ cU cJ : ClassId) (o : Nat) (ad : Nat → Nat) (I : OI) (R : RI) (x1 : Int32) (x2 : Int32) (out : Int32) (hf : f_X6_like I R x1 x2 = some out) : Con l yX6_like wsX6_like rmX6_like G vwCl (tys cI cZ cQ cU cJ) nws [.ref o, .int x1, .int x2] (pf [mW cI cZ o ad I R]) (some (.int out)) (pf [mW cI cZ o ad I R]) := by
  refine con_of (rv := fun out : Int32 => some (.int out)) (Wd := fun out : Int32 => pf [mW cI cZ o ad I R]) (maxL := 5) (own := RX6) rfl (plainFor_of_name (by decide +kernel)) rfl (Nat.le_of_ble_eq_true rfl) ?_ hf
  intro p e s m args below meth c A C hret hname
  have j106 : ∀ (x1 : Int32) (x2 : Int32) (y0 : Int32) (y1 : Int32), VJ p l e rmX6_like s m args below meth c 5 G vwCl A (QR below G vwCl A args s rmX6_like.cells rmX6_like.slots (fun out : Int32 => some (.int out)) (fun out : Int32 => pf [mW cI cZ o ad I R])) 0 0 (f_X6_like_j106 I R  x1 x2 y0 y1) (pf [mW cI cZ o ad I R]) 106 [(0, .ref o), (1, .int x1), (2, .int x2)] [.int y0, .int y1] := by
    intro  x1 x2 y0 y1
    unfold f_X6_like_j106
    refine VJ.iadd C dX6_like_106 ?_
    refine VJ.aload_n C 0 dX6_like_107 rfl ?_
    refine VJ.get (C0 := RX6) (T := TX6) (N := 38) (ci := 6) C in_X6_like_X6 0 rfl rfl 20 (Nat.le_of_ble_eq_true rfl) (C.1.2.2.2.2 _ (List.mem_of_getElem? (i := 3) rfl)) (fun _ h9 => h9) (v := .ref (ad 13)) rfl dX6_like_108 ?_
    refine VJ.iload_n C 1 dX6_like_111 rfl ?_
    refine VJ.iald C 14 0 rfl rfl dX6_like_112 ?_
    refine VJ.iconst (v := (-1)) C dX6_like_113 (by decide) ?_
    refine VJ.icmp_eq C 136 dX6_like_114 (by decide) (fun _ => ?_) (fun _ => ?_)
    · refine VJ.iconst (v := 0) C dX6_like_136 (by decide) ?_
      refine VJ.iadd C dX6_like_137 ?_
      exact VJ.iret C hret rfl rfl dX6_like_138
    · refine VJ.aload_n C 0 dX6_like_117 rfl ?_
      refine VJ.get (C0 := RX6) (T := TX6) (N := 38) (ci := 6) C in_X6_like_X6 0 rfl rfl 20 (Nat.le_of_ble_eq_true rfl) (C.1.2.2.2.2 _ (List.mem_of_getElem? (i := 3) rfl)) (fun _ h9 => h9) (v := .ref (ad 13)) rfl dX6_like_118 ?_
      refine VJ.iload_n C 1 dX6_like_121 rfl ?_
      refine VJ.iald C 14 0 rfl rfl dX6_like_122 ?_
      refine VJ.aload_n C 0 dX6_like_123 rfl ?_
      refine VJ.get (C0 := RX6) (T := TX6) (N := 38) (ci := 6) C in_X6_like_X6 0 rfl rfl 20 (Nat.le_of_ble_eq_true rfl) (C.1.2.2.2.2 _ (List.mem_of_getElem? (i := 3) rfl)) (fun _ h9 => h9) (v := .ref (ad 13)) rfl dX6_like_124 ?_
      refine VJ.iload_n C 2 dX6_like_127 rfl ?_
      refine VJ.iald C 14 0 rfl rfl dX6_like_128 ?_
      refine VJ.icmp_ne C 136 dX6_like_129 (by decide) (fun _ => ?_) (fun _ => ?_)
      · refine VJ.iconst (v := 0) C dX6_like_136 (by decide) ?_
        refine VJ.iadd C dX6_like_137 ?_
        exact VJ.iret C hret rfl rfl dX6_like_138
      · refine VJ.iconst (v := 2) C dX6_like_132 (by decide) ?_
        refine VJ.goto C 137 dX6_like_133 (by decide) ?_
        refine VJ.iadd C dX6_like_137 ?_
        exact VJ.iret C hret rfl rfl dX6_like_138
  have j82 : ∀ (x1 : Int32) (x2 : Int32) (y0 : Int32), VJ p l e rmX6_like s m args below meth c 5 G vwCl A (QR below G vwCl A args s rmX6_like.cells rmX6_like.slots (fun out : Int32 => some (.int out)) (fun out : Int32 => pf [mW cI cZ o ad I R])) 0 0 (f_X6_like_j82 I R  x1 x2 y0) (pf [mW cI cZ o ad I R]) 82 [(0, .ref o), (1, .int x1), (2, .int x2)] [.int y0] := by
    intro  x1 x2 y0
    unfold f_X6_like_j82
    refine VJ.istore C [(4, .int y0), (0, .ref o), (1, .int x1), (2, .int x2)] dX6_like_82 (Nat.le_of_ble_eq_true rfl) rfl ?_
    refine VJ.iload C 0 dX6_like_84 rfl ?_
    refine VJ.aload_n C 1 dX6_like_86 rfl ?_
    refine VJ.get (C0 := RX6) (T := TX6) (N := 38) (ci := 6) C in_X6_like_X6 0 rfl rfl 21 (Nat.le_of_ble_eq_true rfl) (C.1.2.2.2.2 _ (List.mem_of_getElem? (i := 2) rfl)) (fun _ h9 => h9) (v := .ref (ad 14)) rfl dX6_like_87 ?_
    refine VJ.iload_n C 2 dX6_like_90 rfl ?_
    refine VJ.iald C 15 0 rfl rfl dX6_like_91 ?_
    refine VJ.aload_n C 1 dX6_like_92 rfl ?_
    refine VJ.get (C0 := RX6) (T := TX6) (N := 38) (ci := 6) C in_X6_like_X6 0 rfl rfl 21 (Nat.le_of_ble_eq_true rfl) (C.1.2.2.2.2 _ (List.mem_of_getElem? (i := 2) rfl)) (fun _ h9 => h9) (v := .ref (ad 14)) rfl dX6_like_93 ?_
    refine VJ.iload_n C 3 dX6_like_96 rfl ?_
    refine VJ.iald C 15 0 rfl rfl dX6_like_97 ?_
    refine VJ.icmp_ne C 105 dX6_like_98 (by decide) (fun _ => ?_) (fun _ => ?_)
    · refine VJ.iconst (v := 0) C dX6_like_105 (by decide) ?_
      refine VJ.sub [1, 2, 3] rfl ?_
      exact j106 x1 x2 0 y0
    · refine VJ.iconst (v := 3) C dX6_like_101 (by decide) ?_
      refine VJ.goto C 106 dX6_like_102 (by decide) ?_
      refine VJ.sub [1, 2, 3] rfl ?_
      exact j106 x1 x2 3 y0
  have j62 : ∀ (x1 : Int32) (x2 : Int32) (y0 : Int32), VJ p l e rmX6_like s m args below meth c 5 G vwCl A (QR below G vwCl A args s rmX6_like.cells rmX6_like.slots (fun out : Int32 => some (.int out)) (fun out : Int32 => pf [mW cI cZ o ad I R])) 0 0 (f_X6_like_j62 I R  x1 x2 y0) (pf [mW cI cZ o ad I R]) 62 [(0, .ref o), (1, .int x1), (2, .int x2)] [.int y0] := by
    intro  x1 x2 y0
    unfold f_X6_like_j62
    refine VJ.istore_n C [(3, .int y0), (0, .ref o), (1, .int x1), (2, .int x2)] dX6_like_62 (Nat.le_of_ble_eq_true rfl) rfl ?_
    refine VJ.iload_n C 0 dX6_like_63 rfl ?_
    refine VJ.if_ne C 71 dX6_like_64 (by decide) (fun _ => ?_) (fun _ => ?_)
    · refine VJ.iload_n C 0 dX6_like_71 rfl ?_
      refine VJ.bipush (v := 31) C dX6_like_72 (by decide) ?_
      refine VJ.icmp_gt C 81 dX6_like_74 (by decide) (fun _ => ?_) (fun _ => ?_)
      · refine VJ.iconst (v := 0) C dX6_like_81 (by decide) ?_
        refine VJ.sub [1, 2, 3] rfl ?_
        exact j82 x1 x2 0
      · refine VJ.iconst (v := 2) C dX6_like_77 (by decide) ?_
        refine VJ.goto C 82 dX6_like_78 (by decide) ?_
        refine VJ.sub [1, 2, 3] rfl ?_
        exact j82 x1 x2 2
    · refine VJ.iconst (v := 5) C dX6_like_67 (by decide) ?_
      refine VJ.goto C 82 dX6_like_68 (by decide) ?_
      refine VJ.sub [1, 2, 3] rfl ?_
      exact j82 x1 x2 5
  unfold f_X6_like
  refine VJ.aload_n C 0 dX6_like_0 rfl ?_
  refine VJ.iload_n C 1 dX6_like_1 rfl ?_
  refine VJ.callV1 C [.int x1] (pf [mW cI cZ o ad I R]) ([]) (fun r1 => some (.int r1)) (fun r1 => pf [mW cI cZ o ad I R]) (fun r1 => pf [mW cI cZ o ad I R]) (fun r1 => [.int r1]) 0 0 (fun _ h9 => c_X6_isSomebody l G cI cZ cQ cU cJ o ad I R x1 _ h9) (vj_p0 _) (fun _ => vj_p0' _) 0 rfl rfl (cwV 1 C.1.2.2.2.2 gX6_like_X6_isSomebody rfl rfl rfl hyV_X6_isSomebody ⟨Nat.le_of_ble_eq_true rfl, Nat.le_of_ble_eq_true rfl⟩) rfl rfl (fun _ => rfl) (Nat.le_of_ble_eq_true rfl) dX6_like_2 ⟨Nat.le_of_ble_eq_true rfl, Nat.le_of_ble_eq_true rfl⟩ ⟨rfl, rfl⟩ (fun r1 => ?_)
  refine VJ.if_eq C 16 dX6_like_5 (by decide) (fun _ => ?_) (fun _ => ?_)
  · refine VJ.iconst (v := 0) C dX6_like_16 (by decide) ?_
    exact VJ.iret C hret rfl rfl dX6_like_17
  · refine VJ.aload_n C 0 dX6_like_8 rfl ?_
    refine VJ.iload_n C 2 dX6_like_9 rfl ?_
    refine VJ.callV1 C [.int x2] (pf [mW cI cZ o ad I R]) ([]) (fun r2 => some (.int r2)) (fun r2 => pf [mW cI cZ o ad I R]) (fun r2 => pf [mW cI cZ o ad I R]) (fun r2 => [.int r2]) 0 0 (fun _ h9 => c_X6_isSomebody l G cI cZ cQ cU cJ o ad I R x2 _ h9) (vj_p0 _) (fun _ => vj_p0' _) 0 rfl rfl (cwV 1 C.1.2.2.2.2 gX6_like_X6_isSomebody rfl rfl rfl hyV_X6_isSomebody ⟨Nat.le_of_ble_eq_true rfl, Nat.le_of_ble_eq_true rfl⟩) rfl rfl (fun _ => rfl) (Nat.le_of_ble_eq_true rfl) dX6_like_10 ⟨Nat.le_of_ble_eq_true rfl, Nat.le_of_ble_eq_true rfl⟩ ⟨rfl, rfl⟩ (fun r2 => ?_)
    refine VJ.if_ne C 18 dX6_like_13 (by decide) (fun _ => ?_) (fun _ => ?_)
    · refine VJ.aload_n C 0 dX6_like_18 rfl ?_
      refine VJ.get (C0 := RX6) (T := TX6) (N := 38) (ci := 6) C in_X6_like_X6 0 rfl rfl 24 (Nat.le_of_ble_eq_true rfl) (C.1.2.2.2.2 _ (List.mem_of_getElem? (i := 1) rfl)) (fun _ h9 => h9) (v := .ref (ad 17)) rfl dX6_like_19 ?_
      refine VJ.iload_n C 1 dX6_like_22 rfl ?_
      refine VJ.iald C 18 0 rfl rfl dX6_like_23 ?_
      refine VJ.aload_n C 0 dX6_like_24 rfl ?_
      refine VJ.get (C0 := RX6) (T := TX6) (N := 38) (ci := 6) C in_X6_like_X6 0 rfl rfl 24 (Nat.le_of_ble_eq_true rfl) (C.1.2.2.2.2 _ (List.mem_of_getElem? (i := 1) rfl)) (fun _ h9 => h9) (v := .ref (ad 17)) rfl dX6_like_25 ?_
      refine VJ.iload_n C 2 dX6_like_28 rfl ?_
      refine VJ.iald C 18 0 rfl rfl dX6_like_29 ?_
      refine VJ.icmp_le C 49 dX6_like_30 (by decide) (fun _ => ?_) (fun _ => ?_)
      · refine VJ.aload_n C 0 dX6_like_49 rfl ?_
        refine VJ.get (C0 := RX6) (T := TX6) (N := 38) (ci := 6) C in_X6_like_X6 0 rfl rfl 24 (Nat.le_of_ble_eq_true rfl) (C.1.2.2.2.2 _ (List.mem_of_getElem? (i := 1) rfl)) (fun _ h9 => h9) (v := .ref (ad 17)) rfl dX6_like_50 ?_
        refine VJ.iload_n C 2 dX6_like_53 rfl ?_
        refine VJ.iald C 18 0 rfl rfl dX6_like_54 ?_
        refine VJ.aload_n C 0 dX6_like_55 rfl ?_
        refine VJ.get (C0 := RX6) (T := TX6) (N := 38) (ci := 6) C in_X6_like_X6 0 rfl rfl 24 (Nat.le_of_ble_eq_true rfl) (C.1.2.2.2.2 _ (List.mem_of_getElem? (i := 1) rfl)) (fun _ h9 => h9) (v := .ref (ad 17)) rfl dX6_like_56 ?_
        refine VJ.iload_n C 1 dX6_like_59 rfl ?_
        refine VJ.iald C 18 0 rfl rfl dX6_like_60 ?_
        refine VJ.isub C dX6_like_61 ?_
        exact j62 x1 x2 ((R 17 x2.toNatClampNeg) - (R 17 x1.toNatClampNeg))
      · refine VJ.aload_n C 0 dX6_like_33 rfl ?_
        refine VJ.get (C0 := RX6) (T := TX6) (N := 38) (ci := 6) C in_X6_like_X6 0 rfl rfl 24 (Nat.le_of_ble_eq_true rfl) (C.1.2.2.2.2 _ (List.mem_of_getElem? (i := 1) rfl)) (fun _ h9 => h9) (v := .ref (ad 17)) rfl dX6_like_34 ?_
        refine VJ.iload_n C 1 dX6_like_37 rfl ?_
        refine VJ.iald C 18 0 rfl rfl dX6_like_38 ?_
        refine VJ.aload_n C 0 dX6_like_39 rfl ?_
        refine VJ.get (C0 := RX6) (T := TX6) (N := 38) (ci := 6) C in_X6_like_X6 0 rfl rfl 24 (Nat.le_of_ble_eq_true rfl) (C.1.2.2.2.2 _ (List.mem_of_getElem? (i := 1) rfl)) (fun _ h9 => h9) (v := .ref (ad 17)) rfl dX6_like_40 ?_
        refine VJ.iload_n C 2 dX6_like_43 rfl ?_
        refine VJ.iald C 18 0 rfl rfl dX6_like_44 ?_
        refine VJ.isub C dX6_like_45 ?_
        refine VJ.goto C 62 dX6_like_46 (by decide) ?_
        exact j62 x1 x2 ((R 17 x1.toNatClampNeg) - (R 17 x2.toNatClampNeg))
    · refine VJ.iconst (v := 0) C dX6_like_16 (by decide) ?_
      exact VJ.iret C hret rfl rfl dX6_like_17

