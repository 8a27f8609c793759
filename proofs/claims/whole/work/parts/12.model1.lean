

set_option maxHeartbeats 4000000 in
set_option maxRecDepth 100000 in
def f_X6_birth_j109 (N : Nat) (I : OI) (R : RI) (x1 : Int32) (x2 : Int32) (x3 : Int32) (x4 : Int32) (y0 : Int32) : Option (Int32 × OI × RI) :=
  ob2 (f_X6_refused R I y0) (fun r3 I4 => if r3 = 0 then (ob3 (f_X6_tell N I4 R 0 x1 (I4 4) x2 x3 x4) (fun r5 I6 R7 => ob3 (f_X6_giveTo N I6 R7 (I6 4)) (fun r8 I9 R10 => ol (va_up I9 4 ((I9 4) + 1)) (fun I11 => some ((I11 4) - 1, I11, R10))))) else (some (0, I4, R)))
set_option maxHeartbeats 4000000 in
set_option maxRecDepth 100000 in
def f_X6_birth_j55 (N : Nat) (I : OI) (R : RI) (x1 : Int32) (x2 : Int32) (x3 : Int32) (x4 : Int32) (x5 : Int32) (y0 : Int32) : Option (Int32 × OI × RI) :=
  if x5 = 0 then (f_X6_birth_j109 N I R x1 x2 x3 x4 1) else (if y0 = 0 then (f_X6_birth_j109 N I R x1 x2 x3 x4 2) else (if (I 4) = 24 then (f_X6_birth_j109 N I R x1 x2 x3 x4 3) else (if (I 2) = 150 then (f_X6_birth_j109 N I R x1 x2 x3 x4 3) else (if (I 5) = 60 then (f_X6_birth_j109 N I R x1 x2 x3 x4 3) else (f_X6_birth_j109 N I R x1 x2 x3 x4 0)))))
set_option maxHeartbeats 4000000 in
set_option maxRecDepth 100000 in
def f_X6_birth_j28 (N : Nat) (I : OI) (R : RI) (x1 : Int32) (x2 : Int32) (x3 : Int32) (x4 : Int32) (y0 : Int32) : Option (Int32 × OI × RI) :=
  ob1 (f_X6_isDay I R x1) (fun r2 => if r2 = 0 then (f_X6_birth_j55 N I R x1 x2 x3 x4 y0 0) else (ob1 (f_X6_within x4 0 999) (fun r12 => if r12 = 0 then (f_X6_birth_j55 N I R x1 x2 x3 x4 y0 0) else (f_X6_birth_j55 N I R x1 x2 x3 x4 y0 1))))
set_option maxHeartbeats 4000000 in
set_option maxRecDepth 100000 in
def f_X6_birth_j13 (N : Nat) (I : OI) (R : RI) (x1 : Int32) (x2 : Int32) (x3 : Int32) (x4 : Int32) : Option (Int32 × OI × RI) :=
  ob1 (f_X6_within x3 0 15) (fun r1 => if r1 = 0 then (f_X6_birth_j28 N I R x1 x2 x3 x4 0) else (f_X6_birth_j28 N I R x1 x2 x3 x4 1))
def f_X6_birth (N : Nat) (I : OI) (R : RI) (x1 : Int32) (x2 : Int32) (x3 : Int32) (x4 : Int32) : Option (Int32 × OI × RI) :=
  if x2 = (-1) then (f_X6_birth_j13 N I R x1 x2 x3 x4) else (ob1 (f_X6_isPerson I R x2) (fun r13 => if r13 = 0 then (f_X6_birth_j28 N I R x1 x2 x3 x4 0) else (f_X6_birth_j13 N I R x1 x2 x3 x4)))
abbrev rmX6_birth : Room := { frames := 2, cells := 0, slots := 0, locals := 43 }
theorem in_X6_birth_X6 : ∀ w ∈ u_ws RX6 TX6 38, w ∈ wsX6_birth := in_of 46 rfl
theorem hy_X6_birth : yX6_birth.cls ≠ "java/lang/invoke/MethodHandle" ∧ yX6_birth.cls ≠ "java/lang/invoke/VarHandle" ∧ (parseMethodDescriptor yX6_birth.desc).map (fun d => d.parameters.length) = some 4 := by decide +kernel
theorem hyV_X6_birth : yX6_birth.cls = RX6 ∧ yX6_birth.cls ≠ "java/lang/invoke/MethodHandle" ∧ yX6_birth.cls ≠ "java/lang/invoke/VarHandle" ∧ (parseMethodDescriptor yX6_birth.desc).map (fun d => d.parameters.length) = some 4 := ⟨rfl, hy_X6_birth⟩
set_option maxHeartbeats 8000000 in
set_option maxRecDepth 100000 in
theorem c_X6_birth (l : Launch) (G : va_G) (cI cZ cQ cU cJ : ClassId) (N : Nat) (o : Nat) (ad : Nat → Nat) (I : OI) (R : RI) (x1 : Int32) (x2 : Int32) (x3 : Int32) (x4 : Int32) (out : Int32 × OI × RI) (hf : f_X6_birth N I R x1 x2 x3 x4 = some out) : Con l yX6_birth wsX6_birth rmX6_birth G vwCl (tys cI cZ cQ cU cJ) nws [.ref o, .int x1, .int x2, .int x3, .int x4] (pf [mW cI cZ o ad I R]) (some (.int out.1)) (pf [mW cI cZ o ad out.2.1 out.2.2]) := by
  refine con_of (rv := fun out : Int32 × OI × RI => some (.int out.1)) (Wd := fun out : Int32 × OI × RI => pf [mW cI cZ o ad out.2.1 out.2.2]) (maxL := 7) (own := RX6) rfl (plainFor_of_name (by decide +kernel)) rfl (Nat.le_of_ble_eq_true rfl) ?_ hf
  intro p e s m args below meth c A C hret hname
  have j109 : ∀ (I : OI) (R : RI) (x1 : Int32) (x2 : Int32) (x3 : Int32) (x4 : Int32) (y0 : Int32), VJ p l e rmX6_birth s m args below meth c 7 G vwCl A (QR below G vwCl A args s rmX6_birth.cells rmX6_birth.slots (fun out : Int32 × OI × RI => some (.int out.1)) (fun out : Int32 × OI × RI => pf [mW cI cZ o ad out.2.1 out.2.2])) 0 0 (f_X6_birth_j109 N  I R x1 x2 x3 x4 y0) (pf [mW cI cZ o ad I R]) 109 [(0, .ref o), (1, .int x1), (2, .int x2), (3, .int x3), (4, .int x4)] [.int y0, .ref o] := by
    intro  I R x1 x2 x3 x4 y0
    unfold f_X6_birth_j109
    refine VJ.callV2 C [.int y0] (pf [mW cI cZ o ad I R]) ([]) (fun r3 I4 => some (.int r3)) (fun r3 I4 => pf [mW cI cZ o ad I4 R]) (fun r3 I4 => pf [mW cI cZ o ad I4 R]) (fun r3 I4 => [.int r3]) 0 0 (fun _ h9 => c_X6_refused l G cI cZ cQ cU cJ o ad I R y0 _ h9) (vj_p0 _) (fun _ _ => vj_p0' _) 0 rfl rfl (cwV 1 C.1.2.2.2.2 gX6_birth_X6_refused rfl rfl rfl hyV_X6_refused ⟨Nat.le_of_ble_eq_true rfl, Nat.le_of_ble_eq_true rfl⟩) rfl rfl (fun _ _ => rfl) (Nat.le_of_ble_eq_true rfl) dX6_birth_109 ⟨Nat.le_of_ble_eq_true rfl, Nat.le_of_ble_eq_true rfl⟩ ⟨rfl, rfl⟩ (fun r3 I4 => ?_)
    refine VJ.if_eq C 117 dX6_birth_112 (by decide) (fun _ => ?_) (fun _ => ?_)
    · refine VJ.aload_n C 0 dX6_birth_117 rfl ?_
      refine VJ.iconst (v := 0) C dX6_birth_118 (by decide) ?_
      refine VJ.iload_n C 1 dX6_birth_119 rfl ?_
      refine VJ.aload_n C 0 dX6_birth_120 rfl ?_
      refine VJ.get (C0 := RX6) (T := TX6) (N := 38) (ci := 6) C in_X6_birth_X6 0 rfl rfl 13 (Nat.le_of_ble_eq_true rfl) (C.1.2.2.2.2 _ (List.mem_of_getElem? (i := 1) rfl)) (fun _ h9 => h9) (v := .int (I4 4)) rfl dX6_birth_121 ?_
      refine VJ.iload_n C 2 dX6_birth_124 rfl ?_
      refine VJ.iload_n C 3 dX6_birth_125 rfl ?_
      refine VJ.iload C 4 dX6_birth_126 rfl ?_
      refine VJ.callV3 C [.int 0, .int x1, .int (I4 4), .int x2, .int x3, .int x4] (pf [mW cI cZ o ad I4 R]) ([]) (fun r5 I6 R7 => some (.int r5)) (fun r5 I6 R7 => pf [mW cI cZ o ad I6 R7]) (fun r5 I6 R7 => pf [mW cI cZ o ad I6 R7]) (fun r5 I6 R7 => [.int r5]) 0 0 (fun _ h9 => c_X6_tell l G cI cZ cQ cU cJ N o ad I4 R 0 x1 (I4 4) x2 x3 x4 _ h9) (vj_p0 _) (fun _ _ _ => vj_p0' _) 0 rfl rfl (cwV 6 C.1.2.2.2.2 gX6_birth_X6_tell rfl rfl rfl hyV_X6_tell ⟨Nat.le_of_ble_eq_true rfl, Nat.le_of_ble_eq_true rfl⟩) rfl rfl (fun _ _ _ => rfl) (Nat.le_of_ble_eq_true rfl) dX6_birth_128 ⟨Nat.le_of_ble_eq_true rfl, Nat.le_of_ble_eq_true rfl⟩ ⟨rfl, rfl⟩ (fun r5 I6 R7 => ?_)
      refine VJ.pop C dX6_birth_131 rfl ?_
      refine VJ.aload_n C 0 dX6_birth_132 rfl ?_
      refine VJ.aload_n C 0 dX6_birth_133 rfl ?_
      refine VJ.get (C0 := RX6) (T := TX6) (N := 38) (ci := 6) C in_X6_birth_X6 0 rfl rfl 13 (Nat.le_of_ble_eq_true rfl) (C.1.2.2.2.2 _ (List.mem_of_getElem? (i := 1) rfl)) (fun _ h9 => h9) (v := .int (I6 4)) rfl dX6_birth_134 ?_
      refine VJ.callV3 C [.int (I6 4)] (pf [mW cI cZ o ad I6 R7]) ([]) (fun r8 I9 R10 => some (.int r8)) (fun r8 I9 R10 => pf [mW cI cZ o ad I9 R10]) (fun r8 I9 R10 => pf [mW cI cZ o ad I9 R10]) (fun r8 I9 R10 => [.int r8]) 0 0 (fun _ h9 => c_X6_giveTo l G cI cZ cQ cU cJ N o ad I6 R7 (I6 4) _ h9) (vj_p0 _) (fun _ _ _ => vj_p0' _) 0 rfl rfl (cwV 1 C.1.2.2.2.2 gX6_birth_X6_giveTo rfl rfl rfl hyV_X6_giveTo ⟨Nat.le_of_ble_eq_true rfl, Nat.le_of_ble_eq_true rfl⟩) rfl rfl (fun _ _ _ => rfl) (Nat.le_of_ble_eq_true rfl) dX6_birth_137 ⟨Nat.le_of_ble_eq_true rfl, Nat.le_of_ble_eq_true rfl⟩ ⟨rfl, rfl⟩ (fun r8 I9 R10 => ?_)
      refine VJ.pop C dX6_birth_140 rfl ?_
      refine VJ.aload_n C 0 dX6_birth_141 rfl ?_
      refine VJ.dup C dX6_birth_142 rfl ?_
      refine VJ.get (C0 := RX6) (T := TX6) (N := 38) (ci := 6) C in_X6_birth_X6 0 rfl rfl 13 (Nat.le_of_ble_eq_true rfl) (C.1.2.2.2.2 _ (List.mem_of_getElem? (i := 1) rfl)) (fun _ h9 => h9) (v := .int (I9 4)) rfl dX6_birth_143 ?_
      refine VJ.iconst (v := 1) C dX6_birth_146 (by decide) ?_
      refine VJ.iadd C dX6_birth_147 ?_
      refine VJ.putI (C0 := RX6) (T := TX6) (N := 38) (ci := 6) C in_X6_birth_X6 0 rfl rfl 13 (Nat.le_of_ble_eq_true rfl) (C.1.2.2.2.2 _ (List.mem_of_getElem? (i := 1) rfl)) (fun _ h9 => h9) (Ii := I9) (jj := 4) (fun I11 => pf [mW cI cZ o ad I11 R10]) tyX6 tyX6_ok nmX6 rfl rfl (Nat.le_of_ble_eq_true rfl) (fun _ => rfl) dX6_birth_148 (fun I11 => ?_)
      refine VJ.aload_n C 0 dX6_birth_151 rfl ?_
      refine VJ.get (C0 := RX6) (T := TX6) (N := 38) (ci := 6) C in_X6_birth_X6 0 rfl rfl 13 (Nat.le_of_ble_eq_true rfl) (C.1.2.2.2.2 _ (List.mem_of_getElem? (i := 1) rfl)) (fun _ h9 => h9) (v := .int (I11 4)) rfl dX6_birth_152 ?_
      refine VJ.iconst (v := 1) C dX6_birth_155 (by decide) ?_
      refine VJ.isub C dX6_birth_156 ?_
      exact VJ.iret C hret rfl rfl dX6_birth_157
    · refine VJ.iconst (v := 0) C dX6_birth_115 (by decide) ?_
      exact VJ.iret C hret rfl rfl dX6_birth_116
  have j55 : ∀ (I : OI) (R : RI) (x1 : Int32) (x2 : Int32) (x3 : Int32) (x4 : Int32) (x5 : Int32) (y0 : Int32), VJ p l e rmX6_birth s m args below meth c 7 G vwCl A (QR below G vwCl A args s rmX6_birth.cells rmX6_birth.slots (fun out : Int32 × OI × RI => some (.int out.1)) (fun out : Int32 × OI × RI => pf [mW cI cZ o ad out.2.1 out.2.2])) 0 0 (f_X6_birth_j55 N  I R x1 x2 x3 x4 x5 y0) (pf [mW cI cZ o ad I R]) 55 [(0, .ref o), (1, .int x1), (2, .int x2), (3, .int x3), (4, .int x4), (5, .int x5)] [.int y0] := by
    intro  I R x1 x2 x3 x4 x5 y0
    unfold f_X6_birth_j55
    refine VJ.istore C [(6, .int y0), (0, .ref o), (1, .int x1), (2, .int x2), (3, .int x3), (4, .int x4), (5, .int x5)] dX6_birth_55 (Nat.le_of_ble_eq_true rfl) rfl ?_
    refine VJ.aload_n C 1 dX6_birth_57 rfl ?_
    refine VJ.iload C 6 dX6_birth_58 rfl ?_
    refine VJ.if_ne C 67 dX6_birth_60 (by decide) (fun _ => ?_) (fun _ => ?_)
    · refine VJ.iload C 0 dX6_birth_67 rfl ?_
      refine VJ.if_ne C 76 dX6_birth_69 (by decide) (fun _ => ?_) (fun _ => ?_)
      · refine VJ.aload_n C 1 dX6_birth_76 rfl ?_
        refine VJ.get (C0 := RX6) (T := TX6) (N := 38) (ci := 6) C in_X6_birth_X6 0 rfl rfl 13 (Nat.le_of_ble_eq_true rfl) (C.1.2.2.2.2 _ (List.mem_of_getElem? (i := 1) rfl)) (fun _ h9 => h9) (v := .int (I 4)) rfl dX6_birth_77 ?_
        refine VJ.bipush (v := 24) C dX6_birth_80 (by decide) ?_
        refine VJ.icmp_eq C 104 dX6_birth_82 (by decide) (fun _ => ?_) (fun _ => ?_)
        · refine VJ.iconst (v := 3) C dX6_birth_104 (by decide) ?_
          refine VJ.goto C 109 dX6_birth_105 (by decide) ?_
          refine VJ.sub [1, 2, 3, 4, 5] rfl ?_
          exact j109 I R x1 x2 x3 x4 3
        · refine VJ.aload_n C 1 dX6_birth_85 rfl ?_
          refine VJ.get (C0 := RX6) (T := TX6) (N := 38) (ci := 6) C in_X6_birth_X6 0 rfl rfl 2 (Nat.le_of_ble_eq_true rfl) (C.1.2.2.2.2 _ (List.mem_of_getElem? (i := 2) rfl)) (fun _ h9 => h9) (v := .int (I 2)) rfl dX6_birth_86 ?_
          refine VJ.sipush (v := 150) C dX6_birth_89 (by decide) ?_
          refine VJ.icmp_eq C 104 dX6_birth_92 (by decide) (fun _ => ?_) (fun _ => ?_)
          · refine VJ.iconst (v := 3) C dX6_birth_104 (by decide) ?_
            refine VJ.goto C 109 dX6_birth_105 (by decide) ?_
            refine VJ.sub [1, 2, 3, 4, 5] rfl ?_
            exact j109 I R x1 x2 x3 x4 3
          · refine VJ.aload_n C 1 dX6_birth_95 rfl ?_
            refine VJ.get (C0 := RX6) (T := TX6) (N := 38) (ci := 6) C in_X6_birth_X6 0 rfl rfl 14 (Nat.le_of_ble_eq_true rfl) (C.1.2.2.2.2 _ (List.mem_of_getElem? (i := 3) rfl)) (fun _ h9 => h9) (v := .int (I 5)) rfl dX6_birth_96 ?_
            refine VJ.bipush (v := 60) C dX6_birth_99 (by decide) ?_
            refine VJ.icmp_ne C 108 dX6_birth_101 (by decide) (fun _ => ?_) (fun _ => ?_)
            · refine VJ.iconst (v := 0) C dX6_birth_108 (by decide) ?_
              refine VJ.sub [1, 2, 3, 4, 5] rfl ?_
              exact j109 I R x1 x2 x3 x4 0
            · refine VJ.iconst (v := 3) C dX6_birth_104 (by decide) ?_
              refine VJ.goto C 109 dX6_birth_105 (by decide) ?_
              refine VJ.sub [1, 2, 3, 4, 5] rfl ?_
              exact j109 I R x1 x2 x3 x4 3
      · refine VJ.iconst (v := 2) C dX6_birth_72 (by decide) ?_
        refine VJ.goto C 109 dX6_birth_73 (by decide) ?_
        refine VJ.sub [1, 2, 3, 4, 5] rfl ?_
        exact j109 I R x1 x2 x3 x4 2
    · refine VJ.iconst (v := 1) C dX6_birth_63 (by decide) ?_
      refine VJ.goto C 109 dX6_birth_64 (by decide) ?_
      refine VJ.sub [1, 2, 3, 4, 5] rfl ?_
      exact j109 I R x1 x2 x3 x4 1
  have j28 : ∀ (I : OI) (R : RI) (x1 : Int32) (x2 : Int32) (x3 : Int32) (x4 : Int32) (y0 : Int32), VJ p l e rmX6_birth s m args below meth c 7 G vwCl A (QR below G vwCl A args s rmX6_birth.cells rmX6_birth.slots (fun out : Int32 × OI × RI => some (.int out.1)) (fun out : Int32 × OI × RI => pf [mW cI cZ o ad out.2.1 out.2.2])) 0 0 (f_X6_birth_j28 N  I R x1 x2 x3 x4 y0) (pf [mW cI cZ o ad I R]) 28 [(0, .ref o), (1, .int x1), (2, .int x2), (3, .int x3), (4, .int x4)] [.int y0] := by
    intro  I R x1 x2 x3 x4 y0
    unfold f_X6_birth_j28
    refine VJ.istore C [(5, .int y0), (0, .ref o), (1, .int x1), (2, .int x2), (3, .int x3), (4, .int x4)] dX6_birth_28 (Nat.le_of_ble_eq_true rfl) rfl ?_
    refine VJ.aload_n C 1 dX6_birth_30 rfl ?_
    refine VJ.iload_n C 2 dX6_birth_31 rfl ?_
    refine VJ.callV1 C [.int x1] (pf [mW cI cZ o ad I R]) ([]) (fun r2 => some (.int r2)) (fun r2 => pf [mW cI cZ o ad I R]) (fun r2 => pf [mW cI cZ o ad I R]) (fun r2 => [.int r2]) 0 0 (fun _ h9 => c_X6_isDay l G cI cZ cQ cU cJ o ad I R x1 _ h9) (vj_p0 _) (fun _ => vj_p0' _) 0 rfl rfl (cwV 1 C.1.2.2.2.2 gX6_birth_X6_isDay rfl rfl rfl hyV_X6_isDay ⟨Nat.le_of_ble_eq_true rfl, Nat.le_of_ble_eq_true rfl⟩) rfl rfl (fun _ => rfl) (Nat.le_of_ble_eq_true rfl) dX6_birth_32 ⟨Nat.le_of_ble_eq_true rfl, Nat.le_of_ble_eq_true rfl⟩ ⟨rfl, rfl⟩ (fun r2 => ?_)
    refine VJ.if_eq C 54 dX6_birth_35 (by decide) (fun _ => ?_) (fun _ => ?_)
    · refine VJ.iconst (v := 0) C dX6_birth_54 (by decide) ?_
      refine VJ.sub [1, 2, 3, 4, 5, 0] rfl ?_
      exact j55 I R x1 x2 x3 x4 y0 0
    · refine VJ.iload C 5 dX6_birth_38 rfl ?_
      refine VJ.iconst (v := 0) C dX6_birth_40 (by decide) ?_
      refine VJ.sipush (v := 999) C dX6_birth_41 (by decide) ?_
      refine VJ.callS1 C [.int x4, .int 0, .int 999] (pf []) (pf [mW cI cZ o ad I R]) (fun r12 => some (.int r12)) (fun r12 => pf []) (fun r12 => pf [mW cI cZ o ad I R]) (fun r12 => [.int r12]) 0 0 (fun _ h9 => c_X6_within l G cI cZ cQ cU cJ x4 0 999 _ h9) (vj_pn _) (fun _ => vj_pn' _) (va_cwS 3 C.1.2.2.2.2 gX6_birth_X6_within rfl rfl rfl hy_X6_within ⟨Nat.le_of_ble_eq_true rfl, Nat.le_of_ble_eq_true rfl⟩) rfl rfl (fun _ => rfl) (Nat.le_of_ble_eq_true rfl) dX6_birth_44 ⟨Nat.le_of_ble_eq_true rfl, Nat.le_of_ble_eq_true rfl⟩ ⟨rfl, rfl⟩ (fun r12 => ?_)
      refine VJ.if_eq C 54 dX6_birth_47 (by decide) (fun _ => ?_) (fun _ => ?_)
      · refine VJ.iconst (v := 0) C dX6_birth_54 (by decide) ?_
        refine VJ.sub [1, 2, 3, 4, 5, 0] rfl ?_
        exact j55 I R x1 x2 x3 x4 y0 0
      · refine VJ.iconst (v := 1) C dX6_birth_50 (by decide) ?_
        refine VJ.goto C 55 dX6_birth_51 (by decide) ?_
        refine VJ.sub [1, 2, 3, 4, 5, 0] rfl ?_
        exact j55 I R x1 x2 x3 x4 y0 1
  have j13 : ∀ (I : OI) (R : RI) (x1 : Int32) (x2 : Int32) (x3 : Int32) (x4 : Int32), VJ p l e rmX6_birth s m args below meth c 7 G vwCl A (QR below G vwCl A args s rmX6_birth.cells rmX6_birth.slots (fun out : Int32 × OI × RI => some (.int out.1)) (fun out : Int32 × OI × RI => pf [mW cI cZ o ad out.2.1 out.2.2])) 0 0 (f_X6_birth_j13 N  I R x1 x2 x3 x4) (pf [mW cI cZ o ad I R]) 13 [(0, .ref o), (1, .int x1), (2, .int x2), (3, .int x3), (4, .int x4)] [] := by
    intro  I R x1 x2 x3 x4
    unfold f_X6_birth_j13
    refine VJ.iload_n C 3 dX6_birth_13 rfl ?_
    refine VJ.iconst (v := 0) C dX6_birth_14 (by decide) ?_
    refine VJ.bipush (v := 15) C dX6_birth_15 (by decide) ?_
    refine VJ.callS1 C [.int x3, .int 0, .int 15] (pf []) (pf [mW cI cZ o ad I R]) (fun r1 => some (.int r1)) (fun r1 => pf []) (fun r1 => pf [mW cI cZ o ad I R]) (fun r1 => [.int r1]) 0 0 (fun _ h9 => c_X6_within l G cI cZ cQ cU cJ x3 0 15 _ h9) (vj_pn _) (fun _ => vj_pn' _) (va_cwS 3 C.1.2.2.2.2 gX6_birth_X6_within rfl rfl rfl hy_X6_within ⟨Nat.le_of_ble_eq_true rfl, Nat.le_of_ble_eq_true rfl⟩) rfl rfl (fun _ => rfl) (Nat.le_of_ble_eq_true rfl) dX6_birth_17 ⟨Nat.le_of_ble_eq_true rfl, Nat.le_of_ble_eq_true rfl⟩ ⟨rfl, rfl⟩ (fun r1 => ?_)
    refine VJ.if_eq C 27 dX6_birth_20 (by decide) (fun _ => ?_) (fun _ => ?_)
    · refine VJ.iconst (v := 0) C dX6_birth_27 (by decide) ?_
      exact j28 I R x1 x2 x3 x4 0
    · refine VJ.iconst (v := 1) C dX6_birth_23 (by decide) ?_
      refine VJ.goto C 28 dX6_birth_24 (by decide) ?_
      exact j28 I R x1 x2 x3 x4 1
  unfold f_X6_birth
  refine VJ.iload_n C 2 dX6_birth_0 rfl ?_
  refine VJ.iconst (v := (-1)) C dX6_birth_1 (by decide) ?_
  refine VJ.icmp_eq C 13 dX6_birth_2 (by decide) (fun _ => ?_) (fun _ => ?_)
  · exact j13 I R x1 x2 x3 x4
  · refine VJ.aload_n C 0 dX6_birth_5 rfl ?_
    refine VJ.iload_n C 2 dX6_birth_6 rfl ?_
    refine VJ.callV1 C [.int x2] (pf [mW cI cZ o ad I R]) ([]) (fun r13 => some (.int r13)) (fun r13 => pf [mW cI cZ o ad I R]) (fun r13 => pf [mW cI cZ o ad I R]) (fun r13 => [.int r13]) 0 0 (fun _ h9 => c_X6_isPerson l G cI cZ cQ cU cJ o ad I R x2 _ h9) (vj_p0 _) (fun _ => vj_p0' _) 0 rfl rfl (cwV 1 C.1.2.2.2.2 gX6_birth_X6_isPerson rfl rfl rfl hyV_X6_isPerson ⟨Nat.le_of_ble_eq_true rfl, Nat.le_of_ble_eq_true rfl⟩) rfl rfl (fun _ => rfl) (Nat.le_of_ble_eq_true rfl) dX6_birth_7 ⟨Nat.le_of_ble_eq_true rfl, Nat.le_of_ble_eq_true rfl⟩ ⟨rfl, rfl⟩ (fun r13 => ?_)
    refine VJ.if_eq C 27 dX6_birth_10 (by decide) (fun _ => ?_) (fun _ => ?_)
    · refine VJ.iconst (v := 0) C dX6_birth_27 (by decide) ?_
      exact j28 I R x1 x2 x3 x4 0
    · exact j13 I R x1 x2 x3 x4

set_option maxHeartbeats 4000000 in
set_option maxRecDepth 100000 in
def f_X6_move_j62 (N : Nat) (I : OI) (R : RI) (x1 : Int32) (x2 : Int32) (x3 : Int32) (y0 : Int32) : Option (Int32 × OI × RI) :=
  ob2 (f_X6_refused R I y0) (fun r3 I4 => if r3 = 0 then (ob3 (f_X6_tell N I4 R 1 x2 x1 (-1) x3 (-1)) (fun r5 I6 R7 => some (r5, I6, R7))) else (some (0, I4, R)))
set_option maxHeartbeats 4000000 in
set_option maxRecDepth 100000 in
def f_X6_move_j23 (N : Nat) (I : OI) (R : RI) (x1 : Int32) (x2 : Int32) (x3 : Int32) (y0 : Int32) : Option (Int32 × OI × RI) :=
  if y0 = 0 then (f_X6_move_j62 N I R x1 x2 x3 1) else (ob1 (f_X6_isDay I R x2) (fun r2 => if r2 = 0 then (f_X6_move_j62 N I R x1 x2 x3 2) else (if (I 2) = 150 then (f_X6_move_j62 N I R x1 x2 x3 3) else (f_X6_move_j62 N I R x1 x2 x3 0))))
def f_X6_move (N : Nat) (I : OI) (R : RI) (x1 : Int32) (x2 : Int32) (x3 : Int32) : Option (Int32 × OI × RI) :=
  ob1 (f_X6_isPerson I R x1) (fun r1 => if r1 = 0 then (f_X6_move_j23 N I R x1 x2 x3 0) else (ob1 (f_X6_within x3 0 15) (fun r8 => if r8 = 0 then (f_X6_move_j23 N I R x1 x2 x3 0) else (f_X6_move_j23 N I R x1 x2 x3 1))))
abbrev rmX6_move : Room := { frames := 2, cells := 0, slots := 0, locals := 43 }
theorem in_X6_move_X6 : ∀ w ∈ u_ws RX6 TX6 38, w ∈ wsX6_move := in_of 35 rfl
theorem hy_X6_move : yX6_move.cls ≠ "java/lang/invoke/MethodHandle" ∧ yX6_move.cls ≠ "java/lang/invoke/VarHandle" ∧ (parseMethodDescriptor yX6_move.desc).map (fun d => d.parameters.length) = some 3 := by decide +kernel
theorem hyV_X6_move : yX6_move.cls = RX6 ∧ yX6_move.cls ≠ "java/lang/invoke/MethodHandle" ∧ yX6_move.cls ≠ "java/lang/invoke/VarHandle" ∧ (parseMethodDescriptor yX6_move.desc).map (fun d => d.parameters.length) = some 3 := ⟨rfl, hy_X6_move⟩
set_option maxHeartbeats 8000000 in
set_option maxRecDepth 100000 in
theorem c_X6_move (l : Launch) (G : va_G) (cI cZ cQ cU cJ : ClassId) (N : Nat) (o : Nat) (ad : Nat → Nat) (I : OI) (R : RI) (x1 : Int32) (x2 : Int32) (x3 : Int32) (out : Int32 × OI × RI) (hf : f_X6_move N I R x1 x2 x3 = some out) : Con l yX6_move wsX6_move rmX6_move G vwCl (tys cI cZ cQ cU cJ) nws [.ref o, .int x1, .int x2, .int x3] (pf [mW cI cZ o ad I R]) (some (.int out.1)) (pf [mW cI cZ o ad out.2.1 out.2.2]) := by
  refine con_of (rv := fun out : Int32 × OI × RI => some (.int out.1)) (Wd := fun out : Int32 × OI × RI => pf [mW cI cZ o ad out.2.1 out.2.2]) (maxL := 5) (own := RX6) rfl (plainFor_of_name (by decide +kernel)) rfl (Nat.le_of_ble_eq_true rfl) ?_ hf
  intro p e s m args below meth c A C hret hname
  have j62 : ∀ (I : OI) (R : RI) (x1 : Int32) (x2 : Int32) (x3 : Int32) (y0 : Int32), VJ p l e rmX6_move s m args below meth c 5 G vwCl A (QR below G vwCl A args s rmX6_move.cells rmX6_move.slots (fun out : Int32 × OI × RI => some (.int out.1)) (fun out : Int32 × OI × RI => pf [mW cI cZ o ad out.2.1 out.2.2])) 0 0 (f_X6_move_j62 N  I R x1 x2 x3 y0) (pf [mW cI cZ o ad I R]) 62 [(0, .ref o), (1, .int x1), (2, .int x2), (3, .int x3)] [.int y0, .ref o] := by
    intro  I R x1 x2 x3 y0
    unfold f_X6_move_j62
    refine VJ.callV2 C [.int y0] (pf [mW cI cZ o ad I R]) ([]) (fun r3 I4 => some (.int r3)) (fun r3 I4 => pf [mW cI cZ o ad I4 R]) (fun r3 I4 => pf [mW cI cZ o ad I4 R]) (fun r3 I4 => [.int r3]) 0 0 (fun _ h9 => c_X6_refused l G cI cZ cQ cU cJ o ad I R y0 _ h9) (vj_p0 _) (fun _ _ => vj_p0' _) 0 rfl rfl (cwV 1 C.1.2.2.2.2 gX6_move_X6_refused rfl rfl rfl hyV_X6_refused ⟨Nat.le_of_ble_eq_true rfl, Nat.le_of_ble_eq_true rfl⟩) rfl rfl (fun _ _ => rfl) (Nat.le_of_ble_eq_true rfl) dX6_move_62 ⟨Nat.le_of_ble_eq_true rfl, Nat.le_of_ble_eq_true rfl⟩ ⟨rfl, rfl⟩ (fun r3 I4 => ?_)
    refine VJ.if_eq C 70 dX6_move_65 (by decide) (fun _ => ?_) (fun _ => ?_)
    · refine VJ.aload_n C 0 dX6_move_70 rfl ?_
      refine VJ.iconst (v := 1) C dX6_move_71 (by decide) ?_
      refine VJ.iload_n C 2 dX6_move_72 rfl ?_
      refine VJ.iload_n C 1 dX6_move_73 rfl ?_
      refine VJ.iconst (v := (-1)) C dX6_move_74 (by decide) ?_
      refine VJ.iload_n C 3 dX6_move_75 rfl ?_
      refine VJ.iconst (v := (-1)) C dX6_move_76 (by decide) ?_
      refine VJ.callV3 C [.int 1, .int x2, .int x1, .int (-1), .int x3, .int (-1)] (pf [mW cI cZ o ad I4 R]) ([]) (fun r5 I6 R7 => some (.int r5)) (fun r5 I6 R7 => pf [mW cI cZ o ad I6 R7]) (fun r5 I6 R7 => pf [mW cI cZ o ad I6 R7]) (fun r5 I6 R7 => [.int r5]) 0 0 (fun _ h9 => c_X6_tell l G cI cZ cQ cU cJ N o ad I4 R 1 x2 x1 (-1) x3 (-1) _ h9) (vj_p0 _) (fun _ _ _ => vj_p0' _) 0 rfl rfl (cwV 6 C.1.2.2.2.2 gX6_move_X6_tell rfl rfl rfl hyV_X6_tell ⟨Nat.le_of_ble_eq_true rfl, Nat.le_of_ble_eq_true rfl⟩) rfl rfl (fun _ _ _ => rfl) (Nat.le_of_ble_eq_true rfl) dX6_move_77 ⟨Nat.le_of_ble_eq_true rfl, Nat.le_of_ble_eq_true rfl⟩ ⟨rfl, rfl⟩ (fun r5 I6 R7 => ?_)
      exact VJ.iret C hret rfl rfl dX6_move_80
    · refine VJ.iconst (v := 0) C dX6_move_68 (by decide) ?_
      exact VJ.iret C hret rfl rfl dX6_move_69
  have j23 : ∀ (I : OI) (R : RI) (x1 : Int32) (x2 : Int32) (x3 : Int32) (y0 : Int32), VJ p l e rmX6_move s m args below meth c 5 G vwCl A (QR below G vwCl A args s rmX6_move.cells rmX6_move.slots (fun out : Int32 × OI × RI => some (.int out.1)) (fun out : Int32 × OI × RI => pf [mW cI cZ o ad out.2.1 out.2.2])) 0 0 (f_X6_move_j23 N  I R x1 x2 x3 y0) (pf [mW cI cZ o ad I R]) 23 [(0, .ref o), (1, .int x1), (2, .int x2), (3, .int x3)] [.int y0] := by
    intro  I R x1 x2 x3 y0
    unfold f_X6_move_j23
    refine VJ.istore C [(4, .int y0), (0, .ref o), (1, .int x1), (2, .int x2), (3, .int x3)] dX6_move_23 (Nat.le_of_ble_eq_true rfl) rfl ?_
    refine VJ.aload_n C 1 dX6_move_25 rfl ?_
    refine VJ.iload C 0 dX6_move_26 rfl ?_
    refine VJ.if_ne C 35 dX6_move_28 (by decide) (fun _ => ?_) (fun _ => ?_)
    · refine VJ.aload_n C 1 dX6_move_35 rfl ?_
      refine VJ.iload_n C 3 dX6_move_36 rfl ?_
      refine VJ.callV1 C [.int x2] (pf [mW cI cZ o ad I R]) ([]) (fun r2 => some (.int r2)) (fun r2 => pf [mW cI cZ o ad I R]) (fun r2 => pf [mW cI cZ o ad I R]) (fun r2 => [.int r2, .ref o]) 0 0 (fun _ h9 => c_X6_isDay l G cI cZ cQ cU cJ o ad I R x2 _ h9) (vj_p0 _) (fun _ => vj_p0' _) 0 rfl rfl (cwV 1 C.1.2.2.2.2 gX6_move_X6_isDay rfl rfl rfl hyV_X6_isDay ⟨Nat.le_of_ble_eq_true rfl, Nat.le_of_ble_eq_true rfl⟩) rfl rfl (fun _ => rfl) (Nat.le_of_ble_eq_true rfl) dX6_move_37 ⟨Nat.le_of_ble_eq_true rfl, Nat.le_of_ble_eq_true rfl⟩ ⟨rfl, rfl⟩ (fun r2 => ?_)
      refine VJ.if_ne C 47 dX6_move_40 (by decide) (fun _ => ?_) (fun _ => ?_)
      · refine VJ.aload_n C 1 dX6_move_47 rfl ?_
        refine VJ.get (C0 := RX6) (T := TX6) (N := 38) (ci := 6) C in_X6_move_X6 0 rfl rfl 2 (Nat.le_of_ble_eq_true rfl) (C.1.2.2.2.2 _ (List.mem_of_getElem? (i := 1) rfl)) (fun _ h9 => h9) (v := .int (I 2)) rfl dX6_move_48 ?_
        refine VJ.sipush (v := 150) C dX6_move_51 (by decide) ?_
        refine VJ.icmp_ne C 61 dX6_move_54 (by decide) (fun _ => ?_) (fun _ => ?_)
        · refine VJ.iconst (v := 0) C dX6_move_61 (by decide) ?_
          refine VJ.sub [1, 2, 3, 4] rfl ?_
          exact j62 I R x1 x2 x3 0
        · refine VJ.iconst (v := 3) C dX6_move_57 (by decide) ?_
          refine VJ.goto C 62 dX6_move_58 (by decide) ?_
          refine VJ.sub [1, 2, 3, 4] rfl ?_
          exact j62 I R x1 x2 x3 3
      · refine VJ.iconst (v := 2) C dX6_move_43 (by decide) ?_
        refine VJ.goto C 62 dX6_move_44 (by decide) ?_
        refine VJ.sub [1, 2, 3, 4] rfl ?_
        exact j62 I R x1 x2 x3 2
    · refine VJ.iconst (v := 1) C dX6_move_31 (by decide) ?_
      refine VJ.goto C 62 dX6_move_32 (by decide) ?_
      refine VJ.sub [1, 2, 3, 4] rfl ?_
      exact j62 I R x1 x2 x3 1
  unfold f_X6_move
  refine VJ.aload_n C 0 dX6_move_0 rfl ?_
  refine VJ.iload_n C 1 dX6_move_1 rfl ?_
  refine VJ.callV1 C [.int x1] (pf [mW cI cZ o ad I R]) ([]) (fun r1 => some (.int r1)) (fun r1 => pf [mW cI cZ o ad I R]) (fun r1 => pf [mW cI cZ o ad I R]) (fun r1 => [.int r1]) 0 0 (fun _ h9 => c_X6_isPerson l G cI cZ cQ cU cJ o ad I R x1 _ h9) (vj_p0 _) (fun _ => vj_p0' _) 0 rfl rfl (cwV 1 C.1.2.2.2.2 gX6_move_X6_isPerson rfl rfl rfl hyV_X6_isPerson ⟨Nat.le_of_ble_eq_true rfl, Nat.le_of_ble_eq_true rfl⟩) rfl rfl (fun _ => rfl) (Nat.le_of_ble_eq_true rfl) dX6_move_2 ⟨Nat.le_of_ble_eq_true rfl, Nat.le_of_ble_eq_true rfl⟩ ⟨rfl, rfl⟩ (fun r1 => ?_)
  refine VJ.if_eq C 22 dX6_move_5 (by decide) (fun _ => ?_) (fun _ => ?_)
  · refine VJ.iconst (v := 0) C dX6_move_22 (by decide) ?_
    exact j23 I R x1 x2 x3 0
  · refine VJ.iload_n C 3 dX6_move_8 rfl ?_
    refine VJ.iconst (v := 0) C dX6_move_9 (by decide) ?_
    refine VJ.bipush (v := 15) C dX6_move_10 (by decide) ?_
    refine VJ.callS1 C [.int x3, .int 0, .int 15] (pf []) (pf [mW cI cZ o ad I R]) (fun r8 => some (.int r8)) (fun r8 => pf []) (fun r8 => pf [mW cI cZ o ad I R]) (fun r8 => [.int r8]) 0 0 (fun _ h9 => c_X6_within l G cI cZ cQ cU cJ x3 0 15 _ h9) (vj_pn _) (fun _ => vj_pn' _) (va_cwS 3 C.1.2.2.2.2 gX6_move_X6_within rfl rfl rfl hy_X6_within ⟨Nat.le_of_ble_eq_true rfl, Nat.le_of_ble_eq_true rfl⟩) rfl rfl (fun _ => rfl) (Nat.le_of_ble_eq_true rfl) dX6_move_12 ⟨Nat.le_of_ble_eq_true rfl, Nat.le_of_ble_eq_true rfl⟩ ⟨rfl, rfl⟩ (fun r8 => ?_)
    refine VJ.if_eq C 22 dX6_move_15 (by decide) (fun _ => ?_) (fun _ => ?_)
    · refine VJ.iconst (v := 0) C dX6_move_22 (by decide) ?_
      exact j23 I R x1 x2 x3 0
    · refine VJ.iconst (v := 1) C dX6_move_18 (by decide) ?_
      refine VJ.goto C 23 dX6_move_19 (by decide) ?_
      exact j23 I R x1 x2 x3 1

set_option maxHeartbeats 4000000 in
set_option maxRecDepth 100000 in
def f_X6_naming_j63 (N : Nat) (I : OI) (R : RI) (x1 : Int32) (x2 : Int32) (x3 : Int32) (y0 : Int32) : Option (Int32 × OI × RI) :=
  ob2 (f_X6_refused R I y0) (fun r3 I4 => if r3 = 0 then (ob3 (f_X6_tell N I4 R 2 x2 x1 (-1) (-1) x3) (fun r5 I6 R7 => some (r5, I6, R7))) else (some (0, I4, R)))
set_option maxHeartbeats 4000000 in
set_option maxRecDepth 100000 in
def f_X6_naming_j24 (N : Nat) (I : OI) (R : RI) (x1 : Int32) (x2 : Int32) (x3 : Int32) (y0 : Int32) : Option (Int32 × OI × RI) :=
  ob1 (f_X6_isPerson I R x1) (fun r2 => if r2 = 0 then (f_X6_naming_j63 N I R x1 x2 x3 1) else (if y0 = 0 then (f_X6_naming_j63 N I R x1 x2 x3 2) else (if (I 2) = 150 then (f_X6_naming_j63 N I R x1 x2 x3 3) else (f_X6_naming_j63 N I R x1 x2 x3 0))))
def f_X6_naming (N : Nat) (I : OI) (R : RI) (x1 : Int32) (x2 : Int32) (x3 : Int32) : Option (Int32 × OI × RI) :=
  ob1 (f_X6_isDay I R x2) (fun r1 => if r1 = 0 then (f_X6_naming_j24 N I R x1 x2 x3 0) else (ob1 (f_X6_within x3 0 999) (fun r8 => if r8 = 0 then (f_X6_naming_j24 N I R x1 x2 x3 0) else (f_X6_naming_j24 N I R x1 x2 x3 1))))
abbrev rmX6_naming : Room := { frames := 2, cells := 0, slots := 0, locals := 43 }
theorem in_X6_naming_X6 : ∀ w ∈ u_ws RX6 TX6 38, w ∈ wsX6_naming := in_of 35 rfl
theorem hy_X6_naming : yX6_naming.cls ≠ "java/lang/invoke/MethodHandle" ∧ yX6_naming.cls ≠ "java/lang/invoke/VarHandle" ∧ (parseMethodDescriptor yX6_naming.desc).map (fun d => d.parameters.length) = some 3 := by decide +kernel
theorem hyV_X6_naming : yX6_naming.cls = RX6 ∧ yX6_naming.cls ≠ "java/lang/invoke/MethodHandle" ∧ yX6_naming.cls ≠ "java/lang/invoke/VarHandle" ∧ (parseMethodDescriptor yX6_naming.desc).map (fun d => d.parameters.length) = some 3 := ⟨rfl, hy_X6_naming⟩
set_option maxHeartbeats 8000000 in
set_option maxRecDepth 100000 in
theorem c_X6_naming (l : Launch) (G : va_G) (cI cZ cQ cU cJ : ClassId) (N : Nat) (o : Nat) (ad : Nat → Nat) (I : OI) (R : RI) (x1 : Int32) (x2 : Int32) (x3 : Int32) (out : Int32 × OI × RI) (hf : f_X6_naming N I R x1 x2 x3 = some out) : Con l yX6_naming wsX6_naming rmX6_naming G vwCl (tys cI cZ cQ cU cJ) nws [.ref o, .int x1, .int x2, .int x3] (pf [mW cI cZ o ad I R]) (some (.int out.1)) (pf [mW cI cZ o ad out.2.1 out.2.2]) := by
  refine con_of (rv := fun out : Int32 × OI × RI => some (.int out.1)) (Wd := fun out : Int32 × OI × RI => pf [mW cI cZ o ad out.2.1 out.2.2]) (maxL := 5) (own := RX6) rfl (plainFor_of_name (by decide +kernel)) rfl (Nat.le_of_ble_eq_true rfl) ?_ hf
  intro p e s m args below meth c A C hret hname
  have j63 : ∀ (I : OI) (R : RI) (x1 : Int32) (x2 : Int32) (x3 : Int32) (y0 : Int32), VJ p l e rmX6_naming s m args below meth c 5 G vwCl A (QR below G vwCl A args s rmX6_naming.cells rmX6_naming.slots (fun out : Int32 × OI × RI => some (.int out.1)) (fun out : Int32 × OI × RI => pf [mW cI cZ o ad out.2.1 out.2.2])) 0 0 (f_X6_naming_j63 N  I R x1 x2 x3 y0) (pf [mW cI cZ o ad I R]) 63 [(0, .ref o), (1, .int x1), (2, .int x2), (3, .int x3)] [.int y0, .ref o] := by
    intro  I R x1 x2 x3 y0
    unfold f_X6_naming_j63
    refine VJ.callV2 C [.int y0] (pf [mW cI cZ o ad I R]) ([]) (fun r3 I4 => some (.int r3)) (fun r3 I4 => pf [mW cI cZ o ad I4 R]) (fun r3 I4 => pf [mW cI cZ o ad I4 R]) (fun r3 I4 => [.int r3]) 0 0 (fun _ h9 => c_X6_refused l G cI cZ cQ cU cJ o ad I R y0 _ h9) (vj_p0 _) (fun _ _ => vj_p0' _) 0 rfl rfl (cwV 1 C.1.2.2.2.2 gX6_naming_X6_refused rfl rfl rfl hyV_X6_refused ⟨Nat.le_of_ble_eq_true rfl, Nat.le_of_ble_eq_true rfl⟩) rfl rfl (fun _ _ => rfl) (Nat.le_of_ble_eq_true rfl) dX6_naming_63 ⟨Nat.le_of_ble_eq_true rfl, Nat.le_of_ble_eq_true rfl⟩ ⟨rfl, rfl⟩ (fun r3 I4 => ?_)
    refine VJ.if_eq C 71 dX6_naming_66 (by decide) (fun _ => ?_) (fun _ => ?_)
    · refine VJ.aload_n C 0 dX6_naming_71 rfl ?_
      refine VJ.iconst (v := 2) C dX6_naming_72 (by decide) ?_
      refine VJ.iload_n C 2 dX6_naming_73 rfl ?_
      refine VJ.iload_n C 1 dX6_naming_74 rfl ?_
      refine VJ.iconst (v := (-1)) C dX6_naming_75 (by decide) ?_
      refine VJ.iconst (v := (-1)) C dX6_naming_76 (by decide) ?_
      refine VJ.iload_n C 3 dX6_naming_77 rfl ?_
      refine VJ.callV3 C [.int 2, .int x2, .int x1, .int (-1), .int (-1), .int x3] (pf [mW cI cZ o ad I4 R]) ([]) (fun r5 I6 R7 => some (.int r5)) (fun r5 I6 R7 => pf [mW cI cZ o ad I6 R7]) (fun r5 I6 R7 => pf [mW cI cZ o ad I6 R7]) (fun r5 I6 R7 => [.int r5]) 0 0 (fun _ h9 => c_X6_tell l G cI cZ cQ cU cJ N o ad I4 R 2 x2 x1 (-1) (-1) x3 _ h9) (vj_p0 _) (fun _ _ _ => vj_p0' _) 0 rfl rfl (cwV 6 C.1.2.2.2.2 gX6_naming_X6_tell rfl rfl rfl hyV_X6_tell ⟨Nat.le_of_ble_eq_true rfl, Nat.le_of_ble_eq_true rfl⟩) rfl rfl (fun _ _ _ => rfl) (Nat.le_of_ble_eq_true rfl) dX6_naming_78 ⟨Nat.le_of_ble_eq_true rfl, Nat.le_of_ble_eq_true rfl⟩ ⟨rfl, rfl⟩ (fun r5 I6 R7 => ?_)
      exact VJ.iret C hret rfl rfl dX6_naming_81
    · refine VJ.iconst (v := 0) C dX6_naming_69 (by decide) ?_
      exact VJ.iret C hret rfl rfl dX6_naming_70
  have j24 : ∀ (I : OI) (R : RI) (x1 : Int32) (x2 : Int32) (x3 : Int32) (y0 : Int32), VJ p l e rmX6_naming s m args below meth c 5 G vwCl A (QR below G vwCl A args s rmX6_naming.cells rmX6_naming.slots (fun out : Int32 × OI × RI => some (.int out.1)) (fun out : Int32 × OI × RI => pf [mW cI cZ o ad out.2.1 out.2.2])) 0 0 (f_X6_naming_j24 N  I R x1 x2 x3 y0) (pf [mW cI cZ o ad I R]) 24 [(0, .ref o), (1, .int x1), (2, .int x2), (3, .int x3)] [.int y0] := by
    intro  I R x1 x2 x3 y0
    unfold f_X6_naming_j24
    refine VJ.istore C [(4, .int y0), (0, .ref o), (1, .int x1), (2, .int x2), (3, .int x3)] dX6_naming_24 (Nat.le_of_ble_eq_true rfl) rfl ?_
    refine VJ.aload_n C 1 dX6_naming_26 rfl ?_
    refine VJ.aload_n C 1 dX6_naming_27 rfl ?_
    refine VJ.iload_n C 2 dX6_naming_28 rfl ?_
    refine VJ.callV1 C [.int x1] (pf [mW cI cZ o ad I R]) ([]) (fun r2 => some (.int r2)) (fun r2 => pf [mW cI cZ o ad I R]) (fun r2 => pf [mW cI cZ o ad I R]) (fun r2 => [.int r2, .ref o]) 0 0 (fun _ h9 => c_X6_isPerson l G cI cZ cQ cU cJ o ad I R x1 _ h9) (vj_p0 _) (fun _ => vj_p0' _) 0 rfl rfl (cwV 1 C.1.2.2.2.2 gX6_naming_X6_isPerson rfl rfl rfl hyV_X6_isPerson ⟨Nat.le_of_ble_eq_true rfl, Nat.le_of_ble_eq_true rfl⟩) rfl rfl (fun _ => rfl) (Nat.le_of_ble_eq_true rfl) dX6_naming_29 ⟨Nat.le_of_ble_eq_true rfl, Nat.le_of_ble_eq_true rfl⟩ ⟨rfl, rfl⟩ (fun r2 => ?_)
    refine VJ.if_ne C 39 dX6_naming_32 (by decide) (fun _ => ?_) (fun _ => ?_)
    · refine VJ.iload C 0 dX6_naming_39 rfl ?_
      refine VJ.if_ne C 48 dX6_naming_41 (by decide) (fun _ => ?_) (fun _ => ?_)
      · refine VJ.aload_n C 1 dX6_naming_48 rfl ?_
        refine VJ.get (C0 := RX6) (T := TX6) (N := 38) (ci := 6) C in_X6_naming_X6 0 rfl rfl 2 (Nat.le_of_ble_eq_true rfl) (C.1.2.2.2.2 _ (List.mem_of_getElem? (i := 1) rfl)) (fun _ h9 => h9) (v := .int (I 2)) rfl dX6_naming_49 ?_
        refine VJ.sipush (v := 150) C dX6_naming_52 (by decide) ?_
        refine VJ.icmp_ne C 62 dX6_naming_55 (by decide) (fun _ => ?_) (fun _ => ?_)
        · refine VJ.iconst (v := 0) C dX6_naming_62 (by decide) ?_
          refine VJ.sub [1, 2, 3, 4] rfl ?_
          exact j63 I R x1 x2 x3 0
        · refine VJ.iconst (v := 3) C dX6_naming_58 (by decide) ?_
          refine VJ.goto C 63 dX6_naming_59 (by decide) ?_
          refine VJ.sub [1, 2, 3, 4] rfl ?_
          exact j63 I R x1 x2 x3 3
      · refine VJ.iconst (v := 2) C dX6_naming_44 (by decide) ?_
        refine VJ.goto C 63 dX6_naming_45 (by decide) ?_
        refine VJ.sub [1, 2, 3, 4] rfl ?_
        exact j63 I R x1 x2 x3 2
    · refine VJ.iconst (v := 1) C dX6_naming_35 (by decide) ?_
      refine VJ.goto C 63 dX6_naming_36 (by decide) ?_
      refine VJ.sub [1, 2, 3, 4] rfl ?_
      exact j63 I R x1 x2 x3 1
  unfold f_X6_naming
  refine VJ.aload_n C 0 dX6_naming_0 rfl ?_
  refine VJ.iload_n C 2 dX6_naming_1 rfl ?_
  refine VJ.callV1 C [.int x2] (pf [mW cI cZ o ad I R]) ([]) (fun r1 => some (.int r1)) (fun r1 => pf [mW cI cZ o ad I R]) (fun r1 => pf [mW cI cZ o ad I R]) (fun r1 => [.int r1]) 0 0 (fun _ h9 => c_X6_isDay l G cI cZ cQ cU cJ o ad I R x2 _ h9) (vj_p0 _) (fun _ => vj_p0' _) 0 rfl rfl (cwV 1 C.1.2.2.2.2 gX6_naming_X6_isDay rfl rfl rfl hyV_X6_isDay ⟨Nat.le_of_ble_eq_true rfl, Nat.le_of_ble_eq_true rfl⟩) rfl rfl (fun _ => rfl) (Nat.le_of_ble_eq_true rfl) dX6_naming_2 ⟨Nat.le_of_ble_eq_true rfl, Nat.le_of_ble_eq_true rfl⟩ ⟨rfl, rfl⟩ (fun r1 => ?_)
  refine VJ.if_eq C 23 dX6_naming_5 (by decide) (fun _ => ?_) (fun _ => ?_)
  · refine VJ.iconst (v := 0) C dX6_naming_23 (by decide) ?_
    exact j24 I R x1 x2 x3 0
  · refine VJ.iload_n C 3 dX6_naming_8 rfl ?_
    refine VJ.iconst (v := 0) C dX6_naming_9 (by decide) ?_
    refine VJ.sipush (v := 999) C dX6_naming_10 (by decide) ?_
    refine VJ.callS1 C [.int x3, .int 0, .int 999] (pf []) (pf [mW cI cZ o ad I R]) (fun r8 => some (.int r8)) (fun r8 => pf []) (fun r8 => pf [mW cI cZ o ad I R]) (fun r8 => [.int r8]) 0 0 (fun _ h9 => c_X6_within l G cI cZ cQ cU cJ x3 0 999 _ h9) (vj_pn _) (fun _ => vj_pn' _) (va_cwS 3 C.1.2.2.2.2 gX6_naming_X6_within rfl rfl rfl hy_X6_within ⟨Nat.le_of_ble_eq_true rfl, Nat.le_of_ble_eq_true rfl⟩) rfl rfl (fun _ => rfl) (Nat.le_of_ble_eq_true rfl) dX6_naming_13 ⟨Nat.le_of_ble_eq_true rfl, Nat.le_of_ble_eq_true rfl⟩ ⟨rfl, rfl⟩ (fun r8 => ?_)
    refine VJ.if_eq C 23 dX6_naming_16 (by decide) (fun _ => ?_) (fun _ => ?_)
    · refine VJ.iconst (v := 0) C dX6_naming_23 (by decide) ?_
      exact j24 I R x1 x2 x3 0
    · refine VJ.iconst (v := 1) C dX6_naming_19 (by decide) ?_
      refine VJ.goto C 24 dX6_naming_20 (by decide) ?_
      exact j24 I R x1 x2 x3 1

set_option maxHeartbeats 4000000 in
set_option maxRecDepth 100000 in
def f_X6_tie_j94 (N : Nat) (I : OI) (R : RI) (x1 : Int32) (x2 : Int32) (x3 : Int32) (x4 : Int32) (y0 : Int32) : Option (Int32 × OI × RI) :=
  ob2 (f_X6_refused R I y0) (fun r3 I4 => if r3 = 0 then (ob3 (f_X6_tell N I4 R x1 x4 x2 x3 (-1) (-1)) (fun r5 I6 R7 => some (r5, I6, R7))) else (some (0, I4, R)))
set_option maxHeartbeats 4000000 in
set_option maxRecDepth 100000 in
def f_X6_tie_j58 (N : Nat) (I : OI) (R : RI) (x1 : Int32) (x2 : Int32) (x3 : Int32) (x4 : Int32) (x5 : Int32) (y0 : Int32) : Option (Int32 × OI × RI) :=
  if x5 = 0 then (f_X6_tie_j94 N I R x1 x2 x3 x4 1) else (if y0 = 0 then (f_X6_tie_j94 N I R x1 x2 x3 x4 2) else (if (I 2) = 150 then (f_X6_tie_j94 N I R x1 x2 x3 x4 3) else (f_X6_tie_j94 N I R x1 x2 x3 x4 0)))
set_option maxHeartbeats 4000000 in
set_option maxRecDepth 100000 in
def f_X6_tie_j39 (N : Nat) (I : OI) (R : RI) (x1 : Int32) (x2 : Int32) (x3 : Int32) (x4 : Int32) (x5 : Int32) : Option (Int32 × OI × RI) :=
  ob1 (f_X6_isDay I R x4) (fun r2 => if r2 = 0 then (f_X6_tie_j58 N I R x1 x2 x3 x4 x5 0) else (if x2 = x3 then (f_X6_tie_j58 N I R x1 x2 x3 x4 x5 0) else (f_X6_tie_j58 N I R x1 x2 x3 x4 x5 1)))
set_option maxHeartbeats 4000000 in
set_option maxRecDepth 100000 in
def f_X6_tie_j21 (N : Nat) (I : OI) (R : RI) (x1 : Int32) (x2 : Int32) (x3 : Int32) (x4 : Int32) (y0 : Int32) : Option (Int32 × OI × RI) :=
  if x1 = 3 then (f_X6_tie_j39 N I R x1 x2 x3 x4 y0) else (if x1 = 4 then (f_X6_tie_j39 N I R x1 x2 x3 x4 y0) else (if x1 = 6 then (f_X6_tie_j39 N I R x1 x2 x3 x4 y0) else (f_X6_tie_j58 N I R x1 x2 x3 x4 y0 0)))
def f_X6_tie (N : Nat) (I : OI) (R : RI) (x1 : Int32) (x2 : Int32) (x3 : Int32) (x4 : Int32) : Option (Int32 × OI × RI) :=
  ob1 (f_X6_isPerson I R x2) (fun r1 => if r1 = 0 then (f_X6_tie_j21 N I R x1 x2 x3 x4 0) else (ob1 (f_X6_isPerson I R x3) (fun r8 => if r8 = 0 then (f_X6_tie_j21 N I R x1 x2 x3 x4 0) else (f_X6_tie_j21 N I R x1 x2 x3 x4 1))))
abbrev rmX6_tie : Room := { frames := 2, cells := 0, slots := 0, locals := 43 }
theorem in_X6_tie_X6 : ∀ w ∈ u_ws RX6 TX6 38, w ∈ wsX6_tie := in_of 35 rfl
theorem hy_X6_tie : yX6_tie.cls ≠ "java/lang/invoke/MethodHandle" ∧ yX6_tie.cls ≠ "java/lang/invoke/VarHandle" ∧ (parseMethodDescriptor yX6_tie.desc).map (fun d => d.parameters.length) = some 4 := by decide +kernel
theorem hyV_X6_tie : yX6_tie.cls = RX6 ∧ yX6_tie.cls ≠ "java/lang/invoke/MethodHandle" ∧ yX6_tie.cls ≠ "java/lang/invoke/VarHandle" ∧ (parseMethodDescriptor yX6_tie.desc).map (fun d => d.parameters.length) = some 4 := ⟨rfl, hy_X6_tie⟩
set_option maxHeartbeats 8000000 in
set_option maxRecDepth 100000 in
theorem c_X6_tie (l : Launch) (G : va_G) (cI cZ cQ cU cJ : ClassId) (N : Nat) (o : Nat) (ad : Nat → Nat) (I : OI) (R : RI) (x1 : Int32) (x2 : Int32) (x3 : Int32) (x4 : Int32) (out : Int32 × OI × RI) (hf : f_X6_tie N I R x1 x2 x3 x4 = some out) : Con l yX6_tie wsX6_tie rmX6_tie G vwCl (tys cI cZ cQ cU cJ) nws [.ref o, .int x1, .int x2, .int x3, .int x4] (pf [mW cI cZ o ad I R]) (some (.int out.1)) (pf [mW cI cZ o ad out.2.1 out.2.2]) := by
  refine con_of (rv := fun out : Int32 × OI × RI => some (.int out.1)) (Wd := fun out : Int32 × OI × RI => pf [mW cI cZ o ad out.2.1 out.2.2]) (maxL := 7) (own := RX6) rfl (plainFor_of_name (by decide +kernel)) rfl (Nat.le_of_ble_eq_true rfl) ?_ hf
  intro p e s m args below meth c A C hret hname
  have j94 : ∀ (I : OI) (R : RI) (x1 : Int32) (x2 : Int32) (x3 : Int32) (x4 : Int32) (y0 : Int32), VJ p l e rmX6_tie s m args below meth c 7 G vwCl A (QR below G vwCl A args s rmX6_tie.cells rmX6_tie.slots (fun out : Int32 × OI × RI => some (.int out.1)) (fun out : Int32 × OI × RI => pf [mW cI cZ o ad out.2.1 out.2.2])) 0 0 (f_X6_tie_j94 N  I R x1 x2 x3 x4 y0) (pf [mW cI cZ o ad I R]) 94 [(0, .ref o), (1, .int x1), (2, .int x2), (3, .int x3), (4, .int x4)] [.int y0, .ref o] := by
    intro  I R x1 x2 x3 x4 y0
    unfold f_X6_tie_j94
    refine VJ.callV2 C [.int y0] (pf [mW cI cZ o ad I R]) ([]) (fun r3 I4 => some (.int r3)) (fun r3 I4 => pf [mW cI cZ o ad I4 R]) (fun r3 I4 => pf [mW cI cZ o ad I4 R]) (fun r3 I4 => [.int r3]) 0 0 (fun _ h9 => c_X6_refused l G cI cZ cQ cU cJ o ad I R y0 _ h9) (vj_p0 _) (fun _ _ => vj_p0' _) 0 rfl rfl (cwV 1 C.1.2.2.2.2 gX6_tie_X6_refused rfl rfl rfl hyV_X6_refused ⟨Nat.le_of_ble_eq_true rfl, Nat.le_of_ble_eq_true rfl⟩) rfl rfl (fun _ _ => rfl) (Nat.le_of_ble_eq_true rfl) dX6_tie_94 ⟨Nat.le_of_ble_eq_true rfl, Nat.le_of_ble_eq_true rfl⟩ ⟨rfl, rfl⟩ (fun r3 I4 => ?_)
    refine VJ.if_eq C 102 dX6_tie_97 (by decide) (fun _ => ?_) (fun _ => ?_)
    · refine VJ.aload_n C 0 dX6_tie_102 rfl ?_
      refine VJ.iload_n C 1 dX6_tie_103 rfl ?_
      refine VJ.iload C 4 dX6_tie_104 rfl ?_
      refine VJ.iload_n C 2 dX6_tie_106 rfl ?_
      refine VJ.iload_n C 3 dX6_tie_107 rfl ?_
      refine VJ.iconst (v := (-1)) C dX6_tie_108 (by decide) ?_
      refine VJ.iconst (v := (-1)) C dX6_tie_109 (by decide) ?_
      refine VJ.callV3 C [.int x1, .int x4, .int x2, .int x3, .int (-1), .int (-1)] (pf [mW cI cZ o ad I4 R]) ([]) (fun r5 I6 R7 => some (.int r5)) (fun r5 I6 R7 => pf [mW cI cZ o ad I6 R7]) (fun r5 I6 R7 => pf [mW cI cZ o ad I6 R7]) (fun r5 I6 R7 => [.int r5]) 0 0 (fun _ h9 => c_X6_tell l G cI cZ cQ cU cJ N o ad I4 R x1 x4 x2 x3 (-1) (-1) _ h9) (vj_p0 _) (fun _ _ _ => vj_p0' _) 0 rfl rfl (cwV 6 C.1.2.2.2.2 gX6_tie_X6_tell rfl rfl rfl hyV_X6_tell ⟨Nat.le_of_ble_eq_true rfl, Nat.le_of_ble_eq_true rfl⟩) rfl rfl (fun _ _ _ => rfl) (Nat.le_of_ble_eq_true rfl) dX6_tie_110 ⟨Nat.le_of_ble_eq_true rfl, Nat.le_of_ble_eq_true rfl⟩ ⟨rfl, rfl⟩ (fun r5 I6 R7 => ?_)
      exact VJ.iret C hret rfl rfl dX6_tie_113
    · refine VJ.iconst (v := 0) C dX6_tie_100 (by decide) ?_
      exact VJ.iret C hret rfl rfl dX6_tie_101
  have j58 : ∀ (I : OI) (R : RI) (x1 : Int32) (x2 : Int32) (x3 : Int32) (x4 : Int32) (x5 : Int32) (y0 : Int32), VJ p l e rmX6_tie s m args below meth c 7 G vwCl A (QR below G vwCl A args s rmX6_tie.cells rmX6_tie.slots (fun out : Int32 × OI × RI => some (.int out.1)) (fun out : Int32 × OI × RI => pf [mW cI cZ o ad out.2.1 out.2.2])) 0 0 (f_X6_tie_j58 N  I R x1 x2 x3 x4 x5 y0) (pf [mW cI cZ o ad I R]) 58 [(0, .ref o), (1, .int x1), (2, .int x2), (3, .int x3), (4, .int x4), (5, .int x5)] [.int y0] := by
    intro  I R x1 x2 x3 x4 x5 y0
    unfold f_X6_tie_j58
    refine VJ.istore C [(6, .int y0), (0, .ref o), (1, .int x1), (2, .int x2), (3, .int x3), (4, .int x4), (5, .int x5)] dX6_tie_58 (Nat.le_of_ble_eq_true rfl) rfl ?_
    refine VJ.aload_n C 1 dX6_tie_60 rfl ?_
    refine VJ.iload C 6 dX6_tie_61 rfl ?_
    refine VJ.if_ne C 70 dX6_tie_63 (by decide) (fun _ => ?_) (fun _ => ?_)
    · refine VJ.iload C 0 dX6_tie_70 rfl ?_
      refine VJ.if_ne C 79 dX6_tie_72 (by decide) (fun _ => ?_) (fun _ => ?_)
      · refine VJ.aload_n C 1 dX6_tie_79 rfl ?_
        refine VJ.get (C0 := RX6) (T := TX6) (N := 38) (ci := 6) C in_X6_tie_X6 0 rfl rfl 2 (Nat.le_of_ble_eq_true rfl) (C.1.2.2.2.2 _ (List.mem_of_getElem? (i := 1) rfl)) (fun _ h9 => h9) (v := .int (I 2)) rfl dX6_tie_80 ?_
        refine VJ.sipush (v := 150) C dX6_tie_83 (by decide) ?_
        refine VJ.icmp_ne C 93 dX6_tie_86 (by decide) (fun _ => ?_) (fun _ => ?_)
        · refine VJ.iconst (v := 0) C dX6_tie_93 (by decide) ?_
          refine VJ.sub [1, 2, 3, 4, 5] rfl ?_
          exact j94 I R x1 x2 x3 x4 0
        · refine VJ.iconst (v := 3) C dX6_tie_89 (by decide) ?_
          refine VJ.goto C 94 dX6_tie_90 (by decide) ?_
          refine VJ.sub [1, 2, 3, 4, 5] rfl ?_
          exact j94 I R x1 x2 x3 x4 3
      · refine VJ.iconst (v := 2) C dX6_tie_75 (by decide) ?_
        refine VJ.goto C 94 dX6_tie_76 (by decide) ?_
        refine VJ.sub [1, 2, 3, 4, 5] rfl ?_
        exact j94 I R x1 x2 x3 x4 2
    · refine VJ.iconst (v := 1) C dX6_tie_66 (by decide) ?_
      refine VJ.goto C 94 dX6_tie_67 (by decide) ?_
      refine VJ.sub [1, 2, 3, 4, 5] rfl ?_
      exact j94 I R x1 x2 x3 x4 1
  have j39 : ∀ (I : OI) (R : RI) (x1 : Int32) (x2 : Int32) (x3 : Int32) (x4 : Int32) (x5 : Int32), VJ p l e rmX6_tie s m args below meth c 7 G vwCl A (QR below G vwCl A args s rmX6_tie.cells rmX6_tie.slots (fun out : Int32 × OI × RI => some (.int out.1)) (fun out : Int32 × OI × RI => pf [mW cI cZ o ad out.2.1 out.2.2])) 0 0 (f_X6_tie_j39 N  I R x1 x2 x3 x4 x5) (pf [mW cI cZ o ad I R]) 39 [(0, .ref o), (1, .int x1), (2, .int x2), (3, .int x3), (4, .int x4), (5, .int x5)] [] := by
    intro  I R x1 x2 x3 x4 x5
    unfold f_X6_tie_j39
    refine VJ.aload_n C 0 dX6_tie_39 rfl ?_
    refine VJ.iload C 4 dX6_tie_40 rfl ?_
    refine VJ.callV1 C [.int x4] (pf [mW cI cZ o ad I R]) ([]) (fun r2 => some (.int r2)) (fun r2 => pf [mW cI cZ o ad I R]) (fun r2 => pf [mW cI cZ o ad I R]) (fun r2 => [.int r2]) 0 0 (fun _ h9 => c_X6_isDay l G cI cZ cQ cU cJ o ad I R x4 _ h9) (vj_p0 _) (fun _ => vj_p0' _) 0 rfl rfl (cwV 1 C.1.2.2.2.2 gX6_tie_X6_isDay rfl rfl rfl hyV_X6_isDay ⟨Nat.le_of_ble_eq_true rfl, Nat.le_of_ble_eq_true rfl⟩) rfl rfl (fun _ => rfl) (Nat.le_of_ble_eq_true rfl) dX6_tie_42 ⟨Nat.le_of_ble_eq_true rfl, Nat.le_of_ble_eq_true rfl⟩ ⟨rfl, rfl⟩ (fun r2 => ?_)
    refine VJ.if_eq C 57 dX6_tie_45 (by decide) (fun _ => ?_) (fun _ => ?_)
    · refine VJ.iconst (v := 0) C dX6_tie_57 (by decide) ?_
      exact j58 I R x1 x2 x3 x4 x5 0
    · refine VJ.iload_n C 2 dX6_tie_48 rfl ?_
      refine VJ.iload_n C 3 dX6_tie_49 rfl ?_
      refine VJ.icmp_eq C 57 dX6_tie_50 (by decide) (fun _ => ?_) (fun _ => ?_)
      · refine VJ.iconst (v := 0) C dX6_tie_57 (by decide) ?_
        exact j58 I R x1 x2 x3 x4 x5 0
      · refine VJ.iconst (v := 1) C dX6_tie_53 (by decide) ?_
        refine VJ.goto C 58 dX6_tie_54 (by decide) ?_
        exact j58 I R x1 x2 x3 x4 x5 1
  have j21 : ∀ (I : OI) (R : RI) (x1 : Int32) (x2 : Int32) (x3 : Int32) (x4 : Int32) (y0 : Int32), VJ p l e rmX6_tie s m args below meth c 7 G vwCl A (QR below G vwCl A args s rmX6_tie.cells rmX6_tie.slots (fun out : Int32 × OI × RI => some (.int out.1)) (fun out : Int32 × OI × RI => pf [mW cI cZ o ad out.2.1 out.2.2])) 0 0 (f_X6_tie_j21 N  I R x1 x2 x3 x4 y0) (pf [mW cI cZ o ad I R]) 21 [(0, .ref o), (1, .int x1), (2, .int x2), (3, .int x3), (4, .int x4)] [.int y0] := by
    intro  I R x1 x2 x3 x4 y0
    unfold f_X6_tie_j21
    refine VJ.istore C [(5, .int y0), (0, .ref o), (1, .int x1), (2, .int x2), (3, .int x3), (4, .int x4)] dX6_tie_21 (Nat.le_of_ble_eq_true rfl) rfl ?_
    refine VJ.iload_n C 2 dX6_tie_23 rfl ?_
    refine VJ.iconst (v := 3) C dX6_tie_24 (by decide) ?_
    refine VJ.icmp_eq C 39 dX6_tie_25 (by decide) (fun _ => ?_) (fun _ => ?_)
    · refine VJ.sub [1, 2, 3, 4, 5, 0] rfl ?_
      exact j39 I R x1 x2 x3 x4 y0
    · refine VJ.iload_n C 2 dX6_tie_28 rfl ?_
      refine VJ.iconst (v := 4) C dX6_tie_29 (by decide) ?_
      refine VJ.icmp_eq C 39 dX6_tie_30 (by decide) (fun _ => ?_) (fun _ => ?_)
      · refine VJ.sub [1, 2, 3, 4, 5, 0] rfl ?_
        exact j39 I R x1 x2 x3 x4 y0
      · refine VJ.iload_n C 2 dX6_tie_33 rfl ?_
        refine VJ.bipush (v := 6) C dX6_tie_34 (by decide) ?_
        refine VJ.icmp_ne C 57 dX6_tie_36 (by decide) (fun _ => ?_) (fun _ => ?_)
        · refine VJ.iconst (v := 0) C dX6_tie_57 (by decide) ?_
          refine VJ.sub [1, 2, 3, 4, 5, 0] rfl ?_
          exact j58 I R x1 x2 x3 x4 y0 0
        · refine VJ.sub [1, 2, 3, 4, 5, 0] rfl ?_
          exact j39 I R x1 x2 x3 x4 y0
  unfold f_X6_tie
  refine VJ.aload_n C 0 dX6_tie_0 rfl ?_
  refine VJ.iload_n C 2 dX6_tie_1 rfl ?_
  refine VJ.callV1 C [.int x2] (pf [mW cI cZ o ad I R]) ([]) (fun r1 => some (.int r1)) (fun r1 => pf [mW cI cZ o ad I R]) (fun r1 => pf [mW cI cZ o ad I R]) (fun r1 => [.int r1]) 0 0 (fun _ h9 => c_X6_isPerson l G cI cZ cQ cU cJ o ad I R x2 _ h9) (vj_p0 _) (fun _ => vj_p0' _) 0 rfl rfl (cwV 1 C.1.2.2.2.2 gX6_tie_X6_isPerson rfl rfl rfl hyV_X6_isPerson ⟨Nat.le_of_ble_eq_true rfl, Nat.le_of_ble_eq_true rfl⟩) rfl rfl (fun _ => rfl) (Nat.le_of_ble_eq_true rfl) dX6_tie_2 ⟨Nat.le_of_ble_eq_true rfl, Nat.le_of_ble_eq_true rfl⟩ ⟨rfl, rfl⟩ (fun r1 => ?_)
  refine VJ.if_eq C 20 dX6_tie_5 (by decide) (fun _ => ?_) (fun _ => ?_)
  · refine VJ.iconst (v := 0) C dX6_tie_20 (by decide) ?_
    exact j21 I R x1 x2 x3 x4 0
  · refine VJ.aload_n C 0 dX6_tie_8 rfl ?_
    refine VJ.iload_n C 3 dX6_tie_9 rfl ?_
    refine VJ.callV1 C [.int x3] (pf [mW cI cZ o ad I R]) ([]) (fun r8 => some (.int r8)) (fun r8 => pf [mW cI cZ o ad I R]) (fun r8 => pf [mW cI cZ o ad I R]) (fun r8 => [.int r8]) 0 0 (fun _ h9 => c_X6_isPerson l G cI cZ cQ cU cJ o ad I R x3 _ h9) (vj_p0 _) (fun _ => vj_p0' _) 0 rfl rfl (cwV 1 C.1.2.2.2.2 gX6_tie_X6_isPerson rfl rfl rfl hyV_X6_isPerson ⟨Nat.le_of_ble_eq_true rfl, Nat.le_of_ble_eq_true rfl⟩) rfl rfl (fun _ => rfl) (Nat.le_of_ble_eq_true rfl) dX6_tie_10 ⟨Nat.le_of_ble_eq_true rfl, Nat.le_of_ble_eq_true rfl⟩ ⟨rfl, rfl⟩ (fun r8 => ?_)
    refine VJ.if_eq C 20 dX6_tie_13 (by decide) (fun _ => ?_) (fun _ => ?_)
    · refine VJ.iconst (v := 0) C dX6_tie_20 (by decide) ?_
      exact j21 I R x1 x2 x3 x4 0
    · refine VJ.iconst (v := 1) C dX6_tie_16 (by decide) ?_
      refine VJ.goto C 21 dX6_tie_17 (by decide) ?_
      exact j21 I R x1 x2 x3 x4 1

set_option maxHeartbeats 4000000 in
set_option maxRecDepth 100000 in
def f_X6_death_j40 (N : Nat) (I : OI) (R : RI) (x1 : Int32) (x2 : Int32) (y0 : Int32) : Option (Int32 × OI × RI) :=
  ob2 (f_X6_refused R I y0) (fun r3 I4 => if r3 = 0 then (ob3 (f_X6_tell N I4 R 5 x2 x1 (-1) (-1) (-1)) (fun r5 I6 R7 => some (r5, I6, R7))) else (some (0, I4, R)))
def f_X6_death (N : Nat) (I : OI) (R : RI) (x1 : Int32) (x2 : Int32) : Option (Int32 × OI × RI) :=
  ob1 (f_X6_isPerson I R x1) (fun r1 => if r1 = 0 then (f_X6_death_j40 N I R x1 x2 1) else (ob1 (f_X6_isDay I R x2) (fun r2 => if r2 = 0 then (f_X6_death_j40 N I R x1 x2 2) else (if (I 2) = 150 then (f_X6_death_j40 N I R x1 x2 3) else (f_X6_death_j40 N I R x1 x2 0)))))
abbrev rmX6_death : Room := { frames := 2, cells := 0, slots := 0, locals := 43 }
theorem in_X6_death_X6 : ∀ w ∈ u_ws RX6 TX6 38, w ∈ wsX6_death := in_of 35 rfl
theorem hy_X6_death : yX6_death.cls ≠ "java/lang/invoke/MethodHandle" ∧ yX6_death.cls ≠ "java/lang/invoke/VarHandle" ∧ (parseMethodDescriptor yX6_death.desc).map (fun d => d.parameters.length) = some 2 := by decide +kernel
theorem hyV_X6_death : yX6_death.cls = RX6 ∧ yX6_death.cls ≠ "java/lang/invoke/MethodHandle" ∧ yX6_death.cls ≠ "java/lang/invoke/VarHandle" ∧ (parseMethodDescriptor yX6_death.desc).map (fun d => d.parameters.length) = some 2 := ⟨rfl, hy_X6_death⟩
set_option maxHeartbeats 8000000 in
set_option maxRecDepth 100000 in
theorem c_X6_death (l : Launch) (G : va_G) (cI cZ cQ cU cJ : ClassId) (N : Nat) (o : Nat) (ad : Nat → Nat) (I : OI) (R : RI) (x1 : Int32) (x2 : Int32) (out : Int32 × OI × RI) (hf : f_X6_death N I R x1 x2 = some out) : Con l yX6_death wsX6_death rmX6_death G vwCl (tys cI cZ cQ cU cJ) nws [.ref o, .int x1, .int x2] (pf [mW cI cZ o ad I R]) (some (.int out.1)) (pf [mW cI cZ o ad out.2.1 out.2.2]) := by
  refine con_of (rv := fun out : Int32 × OI × RI => some (.int out.1)) (Wd := fun out : Int32 × OI × RI => pf [mW cI cZ o ad out.2.1 out.2.2]) (maxL := 3) (own := RX6) rfl (plainFor_of_name (by decide +kernel)) rfl (Nat.le_of_ble_eq_true rfl) ?_ hf
  intro p e s m args below meth c A C hret hname
  have j40 : ∀ (I : OI) (R : RI) (x1 : Int32) (x2 : Int32) (y0 : Int32), VJ p l e rmX6_death s m args below meth c 3 G vwCl A (QR below G vwCl A args s rmX6_death.cells rmX6_death.slots (fun out : Int32 × OI × RI => some (.int out.1)) (fun out : Int32 × OI × RI => pf [mW cI cZ o ad out.2.1 out.2.2])) 0 0 (f_X6_death_j40 N  I R x1 x2 y0) (pf [mW cI cZ o ad I R]) 40 [(0, .ref o), (1, .int x1), (2, .int x2)] [.int y0, .ref o] := by
    intro  I R x1 x2 y0
    unfold f_X6_death_j40
    refine VJ.callV2 C [.int y0] (pf [mW cI cZ o ad I R]) ([]) (fun r3 I4 => some (.int r3)) (fun r3 I4 => pf [mW cI cZ o ad I4 R]) (fun r3 I4 => pf [mW cI cZ o ad I4 R]) (fun r3 I4 => [.int r3]) 0 0 (fun _ h9 => c_X6_refused l G cI cZ cQ cU cJ o ad I R y0 _ h9) (vj_p0 _) (fun _ _ => vj_p0' _) 0 rfl rfl (cwV 1 C.1.2.2.2.2 gX6_death_X6_refused rfl rfl rfl hyV_X6_refused ⟨Nat.le_of_ble_eq_true rfl, Nat.le_of_ble_eq_true rfl⟩) rfl rfl (fun _ _ => rfl) (Nat.le_of_ble_eq_true rfl) dX6_death_40 ⟨Nat.le_of_ble_eq_true rfl, Nat.le_of_ble_eq_true rfl⟩ ⟨rfl, rfl⟩ (fun r3 I4 => ?_)
    refine VJ.if_eq C 48 dX6_death_43 (by decide) (fun _ => ?_) (fun _ => ?_)
    · refine VJ.aload_n C 0 dX6_death_48 rfl ?_
      refine VJ.iconst (v := 5) C dX6_death_49 (by decide) ?_
      refine VJ.iload_n C 2 dX6_death_50 rfl ?_
      refine VJ.iload_n C 1 dX6_death_51 rfl ?_
      refine VJ.iconst (v := (-1)) C dX6_death_52 (by decide) ?_
      refine VJ.iconst (v := (-1)) C dX6_death_53 (by decide) ?_
      refine VJ.iconst (v := (-1)) C dX6_death_54 (by decide) ?_
      refine VJ.callV3 C [.int 5, .int x2, .int x1, .int (-1), .int (-1), .int (-1)] (pf [mW cI cZ o ad I4 R]) ([]) (fun r5 I6 R7 => some (.int r5)) (fun r5 I6 R7 => pf [mW cI cZ o ad I6 R7]) (fun r5 I6 R7 => pf [mW cI cZ o ad I6 R7]) (fun r5 I6 R7 => [.int r5]) 0 0 (fun _ h9 => c_X6_tell l G cI cZ cQ cU cJ N o ad I4 R 5 x2 x1 (-1) (-1) (-1) _ h9) (vj_p0 _) (fun _ _ _ => vj_p0' _) 0 rfl rfl (cwV 6 C.1.2.2.2.2 gX6_death_X6_tell rfl rfl rfl hyV_X6_tell ⟨Nat.le_of_ble_eq_true rfl, Nat.le_of_ble_eq_true rfl⟩) rfl rfl (fun _ _ _ => rfl) (Nat.le_of_ble_eq_true rfl) dX6_death_55 ⟨Nat.le_of_ble_eq_true rfl, Nat.le_of_ble_eq_true rfl⟩ ⟨rfl, rfl⟩ (fun r5 I6 R7 => ?_)
      exact VJ.iret C hret rfl rfl dX6_death_58
    · refine VJ.iconst (v := 0) C dX6_death_46 (by decide) ?_
      exact VJ.iret C hret rfl rfl dX6_death_47
  unfold f_X6_death
  refine VJ.aload_n C 0 dX6_death_0 rfl ?_
  refine VJ.aload_n C 0 dX6_death_1 rfl ?_
  refine VJ.iload_n C 1 dX6_death_2 rfl ?_
  refine VJ.callV1 C [.int x1] (pf [mW cI cZ o ad I R]) ([]) (fun r1 => some (.int r1)) (fun r1 => pf [mW cI cZ o ad I R]) (fun r1 => pf [mW cI cZ o ad I R]) (fun r1 => [.int r1, .ref o]) 0 0 (fun _ h9 => c_X6_isPerson l G cI cZ cQ cU cJ o ad I R x1 _ h9) (vj_p0 _) (fun _ => vj_p0' _) 0 rfl rfl (cwV 1 C.1.2.2.2.2 gX6_death_X6_isPerson rfl rfl rfl hyV_X6_isPerson ⟨Nat.le_of_ble_eq_true rfl, Nat.le_of_ble_eq_true rfl⟩) rfl rfl (fun _ => rfl) (Nat.le_of_ble_eq_true rfl) dX6_death_3 ⟨Nat.le_of_ble_eq_true rfl, Nat.le_of_ble_eq_true rfl⟩ ⟨rfl, rfl⟩ (fun r1 => ?_)
  refine VJ.if_ne C 13 dX6_death_6 (by decide) (fun _ => ?_) (fun _ => ?_)
  · refine VJ.aload_n C 0 dX6_death_13 rfl ?_
    refine VJ.iload_n C 2 dX6_death_14 rfl ?_
    refine VJ.callV1 C [.int x2] (pf [mW cI cZ o ad I R]) ([]) (fun r2 => some (.int r2)) (fun r2 => pf [mW cI cZ o ad I R]) (fun r2 => pf [mW cI cZ o ad I R]) (fun r2 => [.int r2, .ref o]) 0 0 (fun _ h9 => c_X6_isDay l G cI cZ cQ cU cJ o ad I R x2 _ h9) (vj_p0 _) (fun _ => vj_p0' _) 0 rfl rfl (cwV 1 C.1.2.2.2.2 gX6_death_X6_isDay rfl rfl rfl hyV_X6_isDay ⟨Nat.le_of_ble_eq_true rfl, Nat.le_of_ble_eq_true rfl⟩) rfl rfl (fun _ => rfl) (Nat.le_of_ble_eq_true rfl) dX6_death_15 ⟨Nat.le_of_ble_eq_true rfl, Nat.le_of_ble_eq_true rfl⟩ ⟨rfl, rfl⟩ (fun r2 => ?_)
    refine VJ.if_ne C 25 dX6_death_18 (by decide) (fun _ => ?_) (fun _ => ?_)
    · refine VJ.aload_n C 0 dX6_death_25 rfl ?_
      refine VJ.get (C0 := RX6) (T := TX6) (N := 38) (ci := 6) C in_X6_death_X6 0 rfl rfl 2 (Nat.le_of_ble_eq_true rfl) (C.1.2.2.2.2 _ (List.mem_of_getElem? (i := 1) rfl)) (fun _ h9 => h9) (v := .int (I 2)) rfl dX6_death_26 ?_
      refine VJ.sipush (v := 150) C dX6_death_29 (by decide) ?_
      refine VJ.icmp_ne C 39 dX6_death_32 (by decide) (fun _ => ?_) (fun _ => ?_)
      · refine VJ.iconst (v := 0) C dX6_death_39 (by decide) ?_
        exact j40 I R x1 x2 0
      · refine VJ.iconst (v := 3) C dX6_death_35 (by decide) ?_
        refine VJ.goto C 40 dX6_death_36 (by decide) ?_
        exact j40 I R x1 x2 3
    · refine VJ.iconst (v := 2) C dX6_death_21 (by decide) ?_
      refine VJ.goto C 40 dX6_death_22 (by decide) ?_
      exact j40 I R x1 x2 2
  · refine VJ.iconst (v := 1) C dX6_death_9 (by decide) ?_
    refine VJ.goto C 40 dX6_death_10 (by decide) ?_
    exact j40 I R x1 x2 1

set_option maxHeartbeats 4000000 in
set_option maxRecDepth 100000 in
def f_X6_join_j55 (N : Nat) (I : OI) (R : RI) (x1 : Int32) (x2 : Int32) (y0 : Int32) : Option (Int32 × OI × RI) :=
  ob2 (f_X6_refused R I y0) (fun r2 I3 => if r2 = 0 then (ob3 (f_X6_tell N I3 R 7 (-1) x1 x2 (-1) (-1)) (fun r4 I5 R6 => some (r4, I5, R6))) else (some (0, I3, R)))
set_option maxHeartbeats 4000000 in
set_option maxRecDepth 100000 in
def f_X6_join_j21 (N : Nat) (I : OI) (R : RI) (x1 : Int32) (x2 : Int32) (y0 : Int32) : Option (Int32 × OI × RI) :=
  if y0 = 0 then (f_X6_join_j55 N I R x1 x2 1) else (if x1 < x2 then (if (I 2) = 150 then (f_X6_join_j55 N I R x1 x2 3) else (f_X6_join_j55 N I R x1 x2 0)) else (f_X6_join_j55 N I R x1 x2 2))
def f_X6_join (N : Nat) (I : OI) (R : RI) (x1 : Int32) (x2 : Int32) : Option (Int32 × OI × RI) :=
  ob1 (f_X6_isPerson I R x1) (fun r1 => if r1 = 0 then (f_X6_join_j21 N I R x1 x2 0) else (ob1 (f_X6_isPerson I R x2) (fun r7 => if r7 = 0 then (f_X6_join_j21 N I R x1 x2 0) else (f_X6_join_j21 N I R x1 x2 1))))
abbrev rmX6_join : Room := { frames := 2, cells := 0, slots := 0, locals := 43 }
theorem in_X6_join_X6 : ∀ w ∈ u_ws RX6 TX6 38, w ∈ wsX6_join := in_of 31 rfl
theorem hy_X6_join : yX6_join.cls ≠ "java/lang/invoke/MethodHandle" ∧ yX6_join.cls ≠ "java/lang/invoke/VarHandle" ∧ (parseMethodDescriptor yX6_join.desc).map (fun d => d.parameters.length) = some 2 := by decide +kernel
theorem hyV_X6_join : yX6_join.cls = RX6 ∧ yX6_join.cls ≠ "java/lang/invoke/MethodHandle" ∧ yX6_join.cls ≠ "java/lang/invoke/VarHandle" ∧ (parseMethodDescriptor yX6_join.desc).map (fun d => d.parameters.length) = some 2 := ⟨rfl, hy_X6_join⟩
set_option maxHeartbeats 8000000 in
set_option maxRecDepth 100000 in
theorem c_X6_join (l : Launch) (G : va_G) (cI cZ cQ cU cJ : ClassId) (N : Nat) (o : Nat) (ad : Nat → Nat) (I : OI) (R : RI) (x1 : Int32) (x2 : Int32) (out : Int32 × OI × RI) (hf : f_X6_join N I R x1 x2 = some out) : Con l yX6_join wsX6_join rmX6_join G vwCl (tys cI cZ cQ cU cJ) nws [.ref o, .int x1, .int x2] (pf [mW cI cZ o ad I R]) (some (.int out.1)) (pf [mW cI cZ o ad out.2.1 out.2.2]) := by
  refine con_of (rv := fun out : Int32 × OI × RI => some (.int out.1)) (Wd := fun out : Int32 × OI × RI => pf [mW cI cZ o ad out.2.1 out.2.2]) (maxL := 4) (own := RX6) rfl (plainFor_of_name (by decide +kernel)) rfl (Nat.le_of_ble_eq_true rfl) ?_ hf
  intro p e s m args below meth c A C hret hname
  have j55 : ∀ (I : OI) (R : RI) (x1 : Int32) (x2 : Int32) (y0 : Int32), VJ p l e rmX6_join s m args below meth c 4 G vwCl A (QR below G vwCl A args s rmX6_join.cells rmX6_join.slots (fun out : Int32 × OI × RI => some (.int out.1)) (fun out : Int32 × OI × RI => pf [mW cI cZ o ad out.2.1 out.2.2])) 0 0 (f_X6_join_j55 N  I R x1 x2 y0) (pf [mW cI cZ o ad I R]) 55 [(0, .ref o), (1, .int x1), (2, .int x2)] [.int y0, .ref o] := by
    intro  I R x1 x2 y0
    unfold f_X6_join_j55
    refine VJ.callV2 C [.int y0] (pf [mW cI cZ o ad I R]) ([]) (fun r2 I3 => some (.int r2)) (fun r2 I3 => pf [mW cI cZ o ad I3 R]) (fun r2 I3 => pf [mW cI cZ o ad I3 R]) (fun r2 I3 => [.int r2]) 0 0 (fun _ h9 => c_X6_refused l G cI cZ cQ cU cJ o ad I R y0 _ h9) (vj_p0 _) (fun _ _ => vj_p0' _) 0 rfl rfl (cwV 1 C.1.2.2.2.2 gX6_join_X6_refused rfl rfl rfl hyV_X6_refused ⟨Nat.le_of_ble_eq_true rfl, Nat.le_of_ble_eq_true rfl⟩) rfl rfl (fun _ _ => rfl) (Nat.le_of_ble_eq_true rfl) dX6_join_55 ⟨Nat.le_of_ble_eq_true rfl, Nat.le_of_ble_eq_true rfl⟩ ⟨rfl, rfl⟩ (fun r2 I3 => ?_)
    refine VJ.if_eq C 63 dX6_join_58 (by decide) (fun _ => ?_) (fun _ => ?_)
    · refine VJ.aload_n C 0 dX6_join_63 rfl ?_
      refine VJ.bipush (v := 7) C dX6_join_64 (by decide) ?_
      refine VJ.iconst (v := (-1)) C dX6_join_66 (by decide) ?_
      refine VJ.iload_n C 1 dX6_join_67 rfl ?_
      refine VJ.iload_n C 2 dX6_join_68 rfl ?_
      refine VJ.iconst (v := (-1)) C dX6_join_69 (by decide) ?_
      refine VJ.iconst (v := (-1)) C dX6_join_70 (by decide) ?_
      refine VJ.callV3 C [.int 7, .int (-1), .int x1, .int x2, .int (-1), .int (-1)] (pf [mW cI cZ o ad I3 R]) ([]) (fun r4 I5 R6 => some (.int r4)) (fun r4 I5 R6 => pf [mW cI cZ o ad I5 R6]) (fun r4 I5 R6 => pf [mW cI cZ o ad I5 R6]) (fun r4 I5 R6 => [.int r4]) 0 0 (fun _ h9 => c_X6_tell l G cI cZ cQ cU cJ N o ad I3 R 7 (-1) x1 x2 (-1) (-1) _ h9) (vj_p0 _) (fun _ _ _ => vj_p0' _) 0 rfl rfl (cwV 6 C.1.2.2.2.2 gX6_join_X6_tell rfl rfl rfl hyV_X6_tell ⟨Nat.le_of_ble_eq_true rfl, Nat.le_of_ble_eq_true rfl⟩) rfl rfl (fun _ _ _ => rfl) (Nat.le_of_ble_eq_true rfl) dX6_join_71 ⟨Nat.le_of_ble_eq_true rfl, Nat.le_of_ble_eq_true rfl⟩ ⟨rfl, rfl⟩ (fun r4 I5 R6 => ?_)
      exact VJ.iret C hret rfl rfl dX6_join_74
    · refine VJ.iconst (v := 0) C dX6_join_61 (by decide) ?_
      exact VJ.iret C hret rfl rfl dX6_join_62
  have j21 : ∀ (I : OI) (R : RI) (x1 : Int32) (x2 : Int32) (y0 : Int32), VJ p l e rmX6_join s m args below meth c 4 G vwCl A (QR below G vwCl A args s rmX6_join.cells rmX6_join.slots (fun out : Int32 × OI × RI => some (.int out.1)) (fun out : Int32 × OI × RI => pf [mW cI cZ o ad out.2.1 out.2.2])) 0 0 (f_X6_join_j21 N  I R x1 x2 y0) (pf [mW cI cZ o ad I R]) 21 [(0, .ref o), (1, .int x1), (2, .int x2)] [.int y0] := by
    intro  I R x1 x2 y0
    unfold f_X6_join_j21
    refine VJ.istore_n C [(3, .int y0), (0, .ref o), (1, .int x1), (2, .int x2)] dX6_join_21 (Nat.le_of_ble_eq_true rfl) rfl ?_
    refine VJ.aload_n C 1 dX6_join_22 rfl ?_
    refine VJ.iload_n C 0 dX6_join_23 rfl ?_
    refine VJ.if_ne C 31 dX6_join_24 (by decide) (fun _ => ?_) (fun _ => ?_)
    · refine VJ.iload_n C 3 dX6_join_31 rfl ?_
      refine VJ.iload_n C 2 dX6_join_32 rfl ?_
      refine VJ.icmp_gt C 40 dX6_join_33 (by decide) (fun _ => ?_) (fun _ => ?_)
      · refine VJ.aload_n C 1 dX6_join_40 rfl ?_
        refine VJ.get (C0 := RX6) (T := TX6) (N := 38) (ci := 6) C in_X6_join_X6 0 rfl rfl 2 (Nat.le_of_ble_eq_true rfl) (C.1.2.2.2.2 _ (List.mem_of_getElem? (i := 1) rfl)) (fun _ h9 => h9) (v := .int (I 2)) rfl dX6_join_41 ?_
        refine VJ.sipush (v := 150) C dX6_join_44 (by decide) ?_
        refine VJ.icmp_ne C 54 dX6_join_47 (by decide) (fun _ => ?_) (fun _ => ?_)
        · refine VJ.iconst (v := 0) C dX6_join_54 (by decide) ?_
          refine VJ.sub [1, 2, 3] rfl ?_
          exact j55 I R x1 x2 0
        · refine VJ.iconst (v := 3) C dX6_join_50 (by decide) ?_
          refine VJ.goto C 55 dX6_join_51 (by decide) ?_
          refine VJ.sub [1, 2, 3] rfl ?_
          exact j55 I R x1 x2 3
      · refine VJ.iconst (v := 2) C dX6_join_36 (by decide) ?_
        refine VJ.goto C 55 dX6_join_37 (by decide) ?_
        refine VJ.sub [1, 2, 3] rfl ?_
        exact j55 I R x1 x2 2
    · refine VJ.iconst (v := 1) C dX6_join_27 (by decide) ?_
      refine VJ.goto C 55 dX6_join_28 (by decide) ?_
      refine VJ.sub [1, 2, 3] rfl ?_
      exact j55 I R x1 x2 1
  unfold f_X6_join
  refine VJ.aload_n C 0 dX6_join_0 rfl ?_
  refine VJ.iload_n C 1 dX6_join_1 rfl ?_
  refine VJ.callV1 C [.int x1] (pf [mW cI cZ o ad I R]) ([]) (fun r1 => some (.int r1)) (fun r1 => pf [mW cI cZ o ad I R]) (fun r1 => pf [mW cI cZ o ad I R]) (fun r1 => [.int r1]) 0 0 (fun _ h9 => c_X6_isPerson l G cI cZ cQ cU cJ o ad I R x1 _ h9) (vj_p0 _) (fun _ => vj_p0' _) 0 rfl rfl (cwV 1 C.1.2.2.2.2 gX6_join_X6_isPerson rfl rfl rfl hyV_X6_isPerson ⟨Nat.le_of_ble_eq_true rfl, Nat.le_of_ble_eq_true rfl⟩) rfl rfl (fun _ => rfl) (Nat.le_of_ble_eq_true rfl) dX6_join_2 ⟨Nat.le_of_ble_eq_true rfl, Nat.le_of_ble_eq_true rfl⟩ ⟨rfl, rfl⟩ (fun r1 => ?_)
  refine VJ.if_eq C 20 dX6_join_5 (by decide) (fun _ => ?_) (fun _ => ?_)
  · refine VJ.iconst (v := 0) C dX6_join_20 (by decide) ?_
    exact j21 I R x1 x2 0
  · refine VJ.aload_n C 0 dX6_join_8 rfl ?_
    refine VJ.iload_n C 2 dX6_join_9 rfl ?_
    refine VJ.callV1 C [.int x2] (pf [mW cI cZ o ad I R]) ([]) (fun r7 => some (.int r7)) (fun r7 => pf [mW cI cZ o ad I R]) (fun r7 => pf [mW cI cZ o ad I R]) (fun r7 => [.int r7]) 0 0 (fun _ h9 => c_X6_isPerson l G cI cZ cQ cU cJ o ad I R x2 _ h9) (vj_p0 _) (fun _ => vj_p0' _) 0 rfl rfl (cwV 1 C.1.2.2.2.2 gX6_join_X6_isPerson rfl rfl rfl hyV_X6_isPerson ⟨Nat.le_of_ble_eq_true rfl, Nat.le_of_ble_eq_true rfl⟩) rfl rfl (fun _ => rfl) (Nat.le_of_ble_eq_true rfl) dX6_join_10 ⟨Nat.le_of_ble_eq_true rfl, Nat.le_of_ble_eq_true rfl⟩ ⟨rfl, rfl⟩ (fun r7 => ?_)
    refine VJ.if_eq C 20 dX6_join_13 (by decide) (fun _ => ?_) (fun _ => ?_)
    · refine VJ.iconst (v := 0) C dX6_join_20 (by decide) ?_
      exact j21 I R x1 x2 0
    · refine VJ.iconst (v := 1) C dX6_join_16 (by decide) ?_
      refine VJ.goto C 21 dX6_join_17 (by decide) ?_
      exact j21 I R x1 x2 1

set_option maxHeartbeats 4000000 in
set_option maxRecDepth 100000 in
def f_X6_strike_j57 (N : Nat) (I : OI) (R : RI) (x1 : Int32) (y0 : Int32) : Option (Int32 × OI × RI) :=
  ob2 (f_X6_refused R I y0) (fun r2 I3 => if r2 = 0 then (og x1 150 (ol (va_up R 7 (upd (R 7) x1.toNatClampNeg (I3 2))) (fun R4 => ob3 (f_X6_tell N I3 R4 8 (-1) (-1) x1 (-1) (-1)) (fun r5 I6 R7 => some (r5, I6, R7))))) else (some (0, I3, R)))
def f_X6_strike (N : Nat) (I : OI) (R : RI) (x1 : Int32) : Option (Int32 × OI × RI) :=
  ob1 (f_X6_within x1 0 ((I 2) - 1)) (fun r1 => if r1 = 0 then (f_X6_strike_j57 N I R x1 1) else (og x1 150 (if (R 0 x1.toNatClampNeg) = 8 then (f_X6_strike_j57 N I R x1 2) else (og x1 150 (if (R 7 x1.toNatClampNeg) = (-1) then (if (I 2) = 150 then (f_X6_strike_j57 N I R x1 2) else (f_X6_strike_j57 N I R x1 0)) else (f_X6_strike_j57 N I R x1 2))))))
abbrev rmX6_strike : Room := { frames := 1, cells := 0, slots := 0, locals := 27 }
theorem in_X6_strike_X6 : ∀ w ∈ u_ws RX6 TX6 38, w ∈ wsX6_strike := in_of 26 rfl
theorem hy_X6_strike : yX6_strike.cls ≠ "java/lang/invoke/MethodHandle" ∧ yX6_strike.cls ≠ "java/lang/invoke/VarHandle" ∧ (parseMethodDescriptor yX6_strike.desc).map (fun d => d.parameters.length) = some 1 := by decide +kernel
theorem hyV_X6_strike : yX6_strike.cls = RX6 ∧ yX6_strike.cls ≠ "java/lang/invoke/MethodHandle" ∧ yX6_strike.cls ≠ "java/lang/invoke/VarHandle" ∧ (parseMethodDescriptor yX6_strike.desc).map (fun d => d.parameters.length) = some 1 := ⟨rfl, hy_X6_strike⟩
set_option maxHeartbeats 8000000 in
set_option maxRecDepth 100000 in
theorem c_X6_strike (l : Launch) (G : va_G) (cI cZ cQ cU cJ : ClassId) (N : Nat) (o : Nat) (ad : Nat → Nat) (I : OI) (R : RI) (x1 : Int32) (out : Int32 × OI × RI) (hf : f_X6_strike N I R x1 = some out) : Con l yX6_strike wsX6_strike rmX6_strike G vwCl (tys cI cZ cQ cU cJ) nws [.ref o, .int x1] (pf [mW cI cZ o ad I R]) (some (.int out.1)) (pf [mW cI cZ o ad out.2.1 out.2.2]) := by
  refine con_of (rv := fun out : Int32 × OI × RI => some (.int out.1)) (Wd := fun out : Int32 × OI × RI => pf [mW cI cZ o ad out.2.1 out.2.2]) (maxL := 3) (own := RX6) rfl (plainFor_of_name (by decide +kernel)) rfl (Nat.le_of_ble_eq_true rfl) ?_ hf
  intro p e s m args below meth c A C hret hname
  have j57 : ∀ (I : OI) (R : RI) (x1 : Int32) (y0 : Int32), VJ p l e rmX6_strike s m args below meth c 3 G vwCl A (QR below G vwCl A args s rmX6_strike.cells rmX6_strike.slots (fun out : Int32 × OI × RI => some (.int out.1)) (fun out : Int32 × OI × RI => pf [mW cI cZ o ad out.2.1 out.2.2])) 0 0 (f_X6_strike_j57 N  I R x1 y0) (pf [mW cI cZ o ad I R]) 57 [(0, .ref o), (1, .int x1)] [.int y0, .ref o] := by
    intro  I R x1 y0
    unfold f_X6_strike_j57
    refine VJ.callV2 C [.int y0] (pf [mW cI cZ o ad I R]) ([]) (fun r2 I3 => some (.int r2)) (fun r2 I3 => pf [mW cI cZ o ad I3 R]) (fun r2 I3 => pf [mW cI cZ o ad I3 R]) (fun r2 I3 => [.int r2]) 0 0 (fun _ h9 => c_X6_refused l G cI cZ cQ cU cJ o ad I R y0 _ h9) (vj_p0 _) (fun _ _ => vj_p0' _) 0 rfl rfl (cwV 1 C.1.2.2.2.2 gX6_strike_X6_refused rfl rfl rfl hyV_X6_refused ⟨Nat.le_of_ble_eq_true rfl, Nat.le_of_ble_eq_true rfl⟩) rfl rfl (fun _ _ => rfl) (Nat.le_of_ble_eq_true rfl) dX6_strike_57 ⟨Nat.le_of_ble_eq_true rfl, Nat.le_of_ble_eq_true rfl⟩ ⟨rfl, rfl⟩ (fun r2 I3 => ?_)
    refine VJ.if_eq C 65 dX6_strike_60 (by decide) (fun _ => ?_) (fun _ => ?_)
    · refine VJ.aload_n C 0 dX6_strike_65 rfl ?_
      refine VJ.get (C0 := RX6) (T := TX6) (N := 38) (ci := 6) C in_X6_strike_X6 0 rfl rfl 10 (Nat.le_of_ble_eq_true rfl) (C.1.2.2.2.2 _ (List.mem_of_getElem? (i := 3) rfl)) (fun _ h9 => h9) (v := .ref (ad 7)) rfl dX6_strike_66 ?_
      refine VJ.iload_n C 1 dX6_strike_69 rfl ?_
      refine VJ.aload_n C 0 dX6_strike_70 rfl ?_
      refine VJ.get (C0 := RX6) (T := TX6) (N := 38) (ci := 6) C in_X6_strike_X6 0 rfl rfl 2 (Nat.le_of_ble_eq_true rfl) (C.1.2.2.2.2 _ (List.mem_of_getElem? (i := 1) rfl)) (fun _ h9 => h9) (v := .int (I3 2)) rfl dX6_strike_71 ?_
      refine VJ.iastR C 8 0 R 7 (fun R4 => pf [mW cI cZ o ad I3 R4]) rfl rfl (fun _ => rfl) dX6_strike_74 (fun R4 => ?_)
      refine VJ.aload_n C 0 dX6_strike_75 rfl ?_
      refine VJ.bipush (v := 8) C dX6_strike_76 (by decide) ?_
      refine VJ.iconst (v := (-1)) C dX6_strike_78 (by decide) ?_
      refine VJ.iconst (v := (-1)) C dX6_strike_79 (by decide) ?_
      refine VJ.iload_n C 1 dX6_strike_80 rfl ?_
      refine VJ.iconst (v := (-1)) C dX6_strike_81 (by decide) ?_
      refine VJ.iconst (v := (-1)) C dX6_strike_82 (by decide) ?_
      refine VJ.callV3 C [.int 8, .int (-1), .int (-1), .int x1, .int (-1), .int (-1)] (pf [mW cI cZ o ad I3 R4]) ([]) (fun r5 I6 R7 => some (.int r5)) (fun r5 I6 R7 => pf [mW cI cZ o ad I6 R7]) (fun r5 I6 R7 => pf [mW cI cZ o ad I6 R7]) (fun r5 I6 R7 => [.int r5]) 0 0 (fun _ h9 => c_X6_tell l G cI cZ cQ cU cJ N o ad I3 R4 8 (-1) (-1) x1 (-1) (-1) _ h9) (vj_p0 _) (fun _ _ _ => vj_p0' _) 0 rfl rfl (cwV 6 C.1.2.2.2.2 gX6_strike_X6_tell rfl rfl rfl hyV_X6_tell ⟨Nat.le_of_ble_eq_true rfl, Nat.le_of_ble_eq_true rfl⟩) rfl rfl (fun _ _ _ => rfl) (Nat.le_of_ble_eq_true rfl) dX6_strike_83 ⟨Nat.le_of_ble_eq_true rfl, Nat.le_of_ble_eq_true rfl⟩ ⟨rfl, rfl⟩ (fun r5 I6 R7 => ?_)
      exact VJ.iret C hret rfl rfl dX6_strike_86
    · refine VJ.iconst (v := 0) C dX6_strike_63 (by decide) ?_
      exact VJ.iret C hret rfl rfl dX6_strike_64
  unfold f_X6_strike
  refine VJ.iload_n C 1 dX6_strike_0 rfl ?_
  refine VJ.iconst (v := 0) C dX6_strike_1 (by decide) ?_
  refine VJ.aload_n C 0 dX6_strike_2 rfl ?_
  refine VJ.get (C0 := RX6) (T := TX6) (N := 38) (ci := 6) C in_X6_strike_X6 0 rfl rfl 2 (Nat.le_of_ble_eq_true rfl) (C.1.2.2.2.2 _ (List.mem_of_getElem? (i := 1) rfl)) (fun _ h9 => h9) (v := .int (I 2)) rfl dX6_strike_3 ?_
  refine VJ.iconst (v := 1) C dX6_strike_6 (by decide) ?_
  refine VJ.isub C dX6_strike_7 ?_
  refine VJ.callS1 C [.int x1, .int 0, .int ((I 2) - 1)] (pf []) (pf [mW cI cZ o ad I R]) (fun r1 => some (.int r1)) (fun r1 => pf []) (fun r1 => pf [mW cI cZ o ad I R]) (fun r1 => [.int r1]) 0 0 (fun _ h9 => c_X6_within l G cI cZ cQ cU cJ x1 0 ((I 2) - 1) _ h9) (vj_pn _) (fun _ => vj_pn' _) (va_cwS 3 C.1.2.2.2.2 gX6_strike_X6_within rfl rfl rfl hy_X6_within ⟨Nat.le_of_ble_eq_true rfl, Nat.le_of_ble_eq_true rfl⟩) rfl rfl (fun _ => rfl) (Nat.le_of_ble_eq_true rfl) dX6_strike_8 ⟨Nat.le_of_ble_eq_true rfl, Nat.le_of_ble_eq_true rfl⟩ ⟨rfl, rfl⟩ (fun r1 => ?_)
  refine VJ.istore_n C [(2, .int r1), (0, .ref o), (1, .int x1)] dX6_strike_11 (Nat.le_of_ble_eq_true rfl) rfl ?_
  refine VJ.aload_n C 1 dX6_strike_12 rfl ?_
  refine VJ.iload_n C 0 dX6_strike_13 rfl ?_
  refine VJ.if_ne C 21 dX6_strike_14 (by decide) (fun _ => ?_) (fun _ => ?_)
  · refine VJ.aload_n C 1 dX6_strike_21 rfl ?_
    refine VJ.get (C0 := RX6) (T := TX6) (N := 38) (ci := 6) C in_X6_strike_X6 0 rfl rfl 3 (Nat.le_of_ble_eq_true rfl) (C.1.2.2.2.2 _ (List.mem_of_getElem? (i := 2) rfl)) (fun _ h9 => h9) (v := .ref (ad 0)) rfl dX6_strike_22 ?_
    refine VJ.iload_n C 2 dX6_strike_25 rfl ?_
    refine VJ.iald C 1 0 rfl rfl dX6_strike_26 ?_
    refine VJ.bipush (v := 8) C dX6_strike_27 (by decide) ?_
    refine VJ.icmp_eq C 52 dX6_strike_29 (by decide) (fun _ => ?_) (fun _ => ?_)
    · refine VJ.iconst (v := 2) C dX6_strike_52 (by decide) ?_
      refine VJ.goto C 57 dX6_strike_53 (by decide) ?_
      refine VJ.sub [1, 2] rfl ?_
      exact j57 I R x1 2
    · refine VJ.aload_n C 1 dX6_strike_32 rfl ?_
      refine VJ.get (C0 := RX6) (T := TX6) (N := 38) (ci := 6) C in_X6_strike_X6 0 rfl rfl 10 (Nat.le_of_ble_eq_true rfl) (C.1.2.2.2.2 _ (List.mem_of_getElem? (i := 3) rfl)) (fun _ h9 => h9) (v := .ref (ad 7)) rfl dX6_strike_33 ?_
      refine VJ.iload_n C 2 dX6_strike_36 rfl ?_
      refine VJ.iald C 8 0 rfl rfl dX6_strike_37 ?_
      refine VJ.iconst (v := (-1)) C dX6_strike_38 (by decide) ?_
      refine VJ.icmp_ne C 52 dX6_strike_39 (by decide) (fun _ => ?_) (fun _ => ?_)
      · refine VJ.iconst (v := 2) C dX6_strike_52 (by decide) ?_
        refine VJ.goto C 57 dX6_strike_53 (by decide) ?_
        refine VJ.sub [1, 2] rfl ?_
        exact j57 I R x1 2
      · refine VJ.aload_n C 1 dX6_strike_42 rfl ?_
        refine VJ.get (C0 := RX6) (T := TX6) (N := 38) (ci := 6) C in_X6_strike_X6 0 rfl rfl 2 (Nat.le_of_ble_eq_true rfl) (C.1.2.2.2.2 _ (List.mem_of_getElem? (i := 1) rfl)) (fun _ h9 => h9) (v := .int (I 2)) rfl dX6_strike_43 ?_
        refine VJ.sipush (v := 150) C dX6_strike_46 (by decide) ?_
        refine VJ.icmp_ne C 56 dX6_strike_49 (by decide) (fun _ => ?_) (fun _ => ?_)
        · refine VJ.iconst (v := 0) C dX6_strike_56 (by decide) ?_
          refine VJ.sub [1, 2] rfl ?_
          exact j57 I R x1 0
        · refine VJ.iconst (v := 2) C dX6_strike_52 (by decide) ?_
          refine VJ.goto C 57 dX6_strike_53 (by decide) ?_
          refine VJ.sub [1, 2] rfl ?_
          exact j57 I R x1 2
  · refine VJ.iconst (v := 1) C dX6_strike_17 (by decide) ?_
    refine VJ.goto C 57 dX6_strike_18 (by decide) ?_
    refine VJ.sub [1, 2] rfl ?_
    exact j57 I R x1 1

def f_X6_isKnown (I : OI) (R : RI) (x1 : Int32) (x2 : Int32) : Option Int32 :=
  og x1 150 (if x2 < (R 1 x1.toNatClampNeg) then (some 0) else (og x1 150 (if (R 7 x1.toNatClampNeg) = (-1) then (some 1) else (og x1 150 (og (R 7 x1.toNatClampNeg) 150 (if (R 1 (R 7 x1.toNatClampNeg).toNatClampNeg) ≤ x2 then (some 0) else (some 1)))))))
abbrev rmX6_isKnown : Room := { frames := 0, cells := 0, slots := 0, locals := 0 }
theorem in_X6_isKnown_X6 : ∀ w ∈ u_ws RX6 TX6 38, w ∈ wsX6_isKnown := in_of 3 rfl
theorem hy_X6_isKnown : yX6_isKnown.cls ≠ "java/lang/invoke/MethodHandle" ∧ yX6_isKnown.cls ≠ "java/lang/invoke/VarHandle" ∧ (parseMethodDescriptor yX6_isKnown.desc).map (fun d => d.parameters.length) = some 2 := by decide +kernel
theorem hyV_X6_isKnown : yX6_isKnown.cls = RX6 ∧ yX6_isKnown.cls ≠ "java/lang/invoke/MethodHandle" ∧ yX6_isKnown.cls ≠ "java/lang/invoke/VarHandle" ∧ (parseMethodDescriptor yX6_isKnown.desc).map (fun d => d.parameters.length) = some 2 := ⟨rfl, hy_X6_isKnown⟩
set_option maxHeartbeats 8000000 in
set_option maxRecDepth 100000 in
theorem c_X6_isKnown (l : Launch) (G : va_G) (cI cZ cQ cU cJ : ClassId) (o : Nat) (ad : Nat → Nat) (I : OI) (R : RI) (x1 : Int32) (x2 : Int32) (out : Int32) (hf : f_X6_isKnown I R x1 x2 = some out) : Con l yX6_isKnown wsX6_isKnown rmX6_isKnown G vwCl (tys cI cZ cQ cU cJ) nws [.ref o, .int x1, .int x2] (pf [mW cI cZ o ad I R]) (some (.int out)) (pf [mW cI cZ o ad I R]) := by
  refine con_of (rv := fun out : Int32 => some (.int out)) (Wd := fun out : Int32 => pf [mW cI cZ o ad I R]) (maxL := 3) (own := RX6) rfl (plainFor_of_name (by decide +kernel)) rfl (Nat.le_of_ble_eq_true rfl) ?_ hf
  intro p e s m args below meth c A C hret hname
  unfold f_X6_isKnown
  refine VJ.aload_n C 0 dX6_isKnown_0 rfl ?_
  refine VJ.get (C0 := RX6) (T := TX6) (N := 38) (ci := 6) C in_X6_isKnown_X6 0 rfl rfl 4 (Nat.le_of_ble_eq_true rfl) (C.1.2.2.2.2 _ (List.mem_of_getElem? (i := 1) rfl)) (fun _ h9 => h9) (v := .ref (ad 1)) rfl dX6_isKnown_1 ?_
  refine VJ.iload_n C 1 dX6_isKnown_4 rfl ?_
  refine VJ.iald C 2 0 rfl rfl dX6_isKnown_5 ?_
  refine VJ.iload_n C 2 dX6_isKnown_6 rfl ?_
  refine VJ.icmp_gt C 39 dX6_isKnown_7 (by decide) (fun _ => ?_) (fun _ => ?_)
  · refine VJ.iconst (v := 0) C dX6_isKnown_39 (by decide) ?_
    exact VJ.zret C rfl hret rfl rfl dX6_isKnown_40
  · refine VJ.aload_n C 0 dX6_isKnown_10 rfl ?_
    refine VJ.get (C0 := RX6) (T := TX6) (N := 38) (ci := 6) C in_X6_isKnown_X6 0 rfl rfl 10 (Nat.le_of_ble_eq_true rfl) (C.1.2.2.2.2 _ (List.mem_of_getElem? (i := 2) rfl)) (fun _ h9 => h9) (v := .ref (ad 7)) rfl dX6_isKnown_11 ?_
    refine VJ.iload_n C 1 dX6_isKnown_14 rfl ?_
    refine VJ.iald C 8 0 rfl rfl dX6_isKnown_15 ?_
    refine VJ.iconst (v := (-1)) C dX6_isKnown_16 (by decide) ?_
    refine VJ.icmp_eq C 35 dX6_isKnown_17 (by decide) (fun _ => ?_) (fun _ => ?_)
    · refine VJ.iconst (v := 1) C dX6_isKnown_35 (by decide) ?_
      refine VJ.goto C 40 dX6_isKnown_36 (by decide) ?_
      exact VJ.zret C rfl hret rfl rfl dX6_isKnown_40
    · refine VJ.aload_n C 0 dX6_isKnown_20 rfl ?_
      refine VJ.get (C0 := RX6) (T := TX6) (N := 38) (ci := 6) C in_X6_isKnown_X6 0 rfl rfl 4 (Nat.le_of_ble_eq_true rfl) (C.1.2.2.2.2 _ (List.mem_of_getElem? (i := 1) rfl)) (fun _ h9 => h9) (v := .ref (ad 1)) rfl dX6_isKnown_21 ?_
      refine VJ.aload_n C 0 dX6_isKnown_24 rfl ?_
      refine VJ.get (C0 := RX6) (T := TX6) (N := 38) (ci := 6) C in_X6_isKnown_X6 0 rfl rfl 10 (Nat.le_of_ble_eq_true rfl) (C.1.2.2.2.2 _ (List.mem_of_getElem? (i := 2) rfl)) (fun _ h9 => h9) (v := .ref (ad 7)) rfl dX6_isKnown_25 ?_
      refine VJ.iload_n C 1 dX6_isKnown_28 rfl ?_
      refine VJ.iald C 8 0 rfl rfl dX6_isKnown_29 ?_
      refine VJ.iald C 2 0 rfl rfl dX6_isKnown_30 ?_
      refine VJ.iload_n C 2 dX6_isKnown_31 rfl ?_
      refine VJ.icmp_le C 39 dX6_isKnown_32 (by decide) (fun _ => ?_) (fun _ => ?_)
      · refine VJ.iconst (v := 0) C dX6_isKnown_39 (by decide) ?_
        exact VJ.zret C rfl hret rfl rfl dX6_isKnown_40
      · refine VJ.iconst (v := 1) C dX6_isKnown_35 (by decide) ?_
        refine VJ.goto C 40 dX6_isKnown_36 (by decide) ?_
        exact VJ.zret C rfl hret rfl rfl dX6_isKnown_40

set_option maxHeartbeats 4000000 in
set_option maxRecDepth 100000 in
def f_X6_leadsTo_l2b (N : Nat) (I : OI) (R : RI) (k2 : Int32 → Option Int32) (x2 : Int32) : Option Int32 :=
  if x2 = (-1) then (some x2) else (og x2 24 (if (R 11 x2.toNatClampNeg) = (-1) then (some x2) else (og x2 24 (ol (R 11 x2.toNatClampNeg) (fun v1 => k2 v1)))))
set_option maxHeartbeats 4000000 in
set_option maxRecDepth 100000 in
def f_X6_leadsTo_l2 (N : Nat) (I : OI) (R : RI) : Nat → Int32 → Option Int32
  | 0 => fun _ => none
  | n9 + 1 => f_X6_leadsTo_l2b N I R (f_X6_leadsTo_l2 N I R n9)
def f_X6_leadsTo (N : Nat) (I : OI) (R : RI) (x1 : Int32) : Option Int32 :=
  f_X6_leadsTo_l2 N I R N x1
abbrev rmX6_leadsTo : Room := { frames := 0, cells := 0, slots := 0, locals := 0 }
theorem in_X6_leadsTo_X6 : ∀ w ∈ u_ws RX6 TX6 38, w ∈ wsX6_leadsTo := in_of 2 rfl
theorem hy_X6_leadsTo : yX6_leadsTo.cls ≠ "java/lang/invoke/MethodHandle" ∧ yX6_leadsTo.cls ≠ "java/lang/invoke/VarHandle" ∧ (parseMethodDescriptor yX6_leadsTo.desc).map (fun d => d.parameters.length) = some 1 := by decide +kernel
theorem hyV_X6_leadsTo : yX6_leadsTo.cls = RX6 ∧ yX6_leadsTo.cls ≠ "java/lang/invoke/MethodHandle" ∧ yX6_leadsTo.cls ≠ "java/lang/invoke/VarHandle" ∧ (parseMethodDescriptor yX6_leadsTo.desc).map (fun d => d.parameters.length) = some 1 := ⟨rfl, hy_X6_leadsTo⟩
set_option maxHeartbeats 8000000 in
set_option maxRecDepth 100000 in
theorem c_X6_leadsTo (l : Launch) (G : va_G) (cI cZ cQ cU cJ : ClassId) (N : Nat) (o : Nat) (ad : Nat → Nat) (I : OI) (R : RI) (x1 : Int32) (out : Int32) (hf : f_X6_leadsTo N I R x1 = some out) : Con l yX6_leadsTo wsX6_leadsTo rmX6_leadsTo G vwCl (tys cI cZ cQ cU cJ) nws [.ref o, .int x1] (pf [mW cI cZ o ad I R]) (some (.int out)) (pf [mW cI cZ o ad I R]) := by
  refine con_of (rv := fun out : Int32 => some (.int out)) (Wd := fun out : Int32 => pf [mW cI cZ o ad I R]) (maxL := 3) (own := RX6) rfl (plainFor_of_name (by decide +kernel)) rfl (Nat.le_of_ble_eq_true rfl) ?_ hf
  intro p e s m args below meth c A C hret hname
  have j2 : ∀ (n9 : Nat) (x2 : Int32), VJ p l e rmX6_leadsTo s m args below meth c 3 G vwCl A (QR below G vwCl A args s rmX6_leadsTo.cells rmX6_leadsTo.slots (fun out : Int32 => some (.int out)) (fun out : Int32 => pf [mW cI cZ o ad I R])) 0 0 (f_X6_leadsTo_l2 N I R  n9 x2) (pf [mW cI cZ o ad I R]) 2 [(0, .ref o), (2, .int x2)] [] := by
    intro  n9
    induction n9 with
    | zero => intro x2; exact VJ.fnone rfl
    | succ n9 i2 =>
      intro x2
      refine VJ.eqf (f' := f_X6_leadsTo_l2b N I R  (f_X6_leadsTo_l2 N I R  n9) x2) rfl ?_
      generalize f_X6_leadsTo_l2 N I R  n9 = k2 at i2 ⊢
      unfold f_X6_leadsTo_l2b
      refine VJ.iload_n C 1 dX6_leadsTo_2 rfl ?_
      refine VJ.iconst (v := (-1)) C dX6_leadsTo_3 (by decide) ?_
      refine VJ.icmp_eq C 27 dX6_leadsTo_4 (by decide) (fun _ => ?_) (fun _ => ?_)
      · refine VJ.iload_n C 1 dX6_leadsTo_27 rfl ?_
        exact VJ.iret C hret rfl rfl dX6_leadsTo_28
      · refine VJ.aload_n C 0 dX6_leadsTo_7 rfl ?_
        refine VJ.get (C0 := RX6) (T := TX6) (N := 38) (ci := 6) C in_X6_leadsTo_X6 0 rfl rfl 18 (Nat.le_of_ble_eq_true rfl) (C.1.2.2.2.2 _ (List.mem_of_getElem? (i := 1) rfl)) (fun _ h9 => h9) (v := .ref (ad 11)) rfl dX6_leadsTo_8 ?_
        refine VJ.iload_n C 1 dX6_leadsTo_11 rfl ?_
        refine VJ.iald C 12 0 rfl rfl dX6_leadsTo_12 ?_
        refine VJ.iconst (v := (-1)) C dX6_leadsTo_13 (by decide) ?_
        refine VJ.icmp_eq C 27 dX6_leadsTo_14 (by decide) (fun _ => ?_) (fun _ => ?_)
        · refine VJ.iload_n C 1 dX6_leadsTo_27 rfl ?_
          exact VJ.iret C hret rfl rfl dX6_leadsTo_28
        · refine VJ.aload_n C 0 dX6_leadsTo_17 rfl ?_
          refine VJ.get (C0 := RX6) (T := TX6) (N := 38) (ci := 6) C in_X6_leadsTo_X6 0 rfl rfl 18 (Nat.le_of_ble_eq_true rfl) (C.1.2.2.2.2 _ (List.mem_of_getElem? (i := 1) rfl)) (fun _ h9 => h9) (v := .ref (ad 11)) rfl dX6_leadsTo_18 ?_
          refine VJ.iload_n C 1 dX6_leadsTo_21 rfl ?_
          refine VJ.iald C 12 0 rfl rfl dX6_leadsTo_22 ?_
          refine VJ.topi C (fun v1 => ?_)
          refine VJ.istore_n C [(2, .int v1), (0, .ref o)] dX6_leadsTo_23 (Nat.le_of_ble_eq_true rfl) rfl ?_
          refine VJ.goto C 2 dX6_leadsTo_24 (by decide) ?_
          refine VJ.sub [1, 0] rfl ?_
          exact i2 v1
  unfold f_X6_leadsTo
  refine VJ.iload_n C 1 dX6_leadsTo_0 rfl ?_
  refine VJ.istore_n C [(2, .int x1), (0, .ref o), (1, .int x1)] dX6_leadsTo_1 (Nat.le_of_ble_eq_true rfl) rfl ?_
  refine VJ.sub [1, 0] rfl ?_
  exact j2 N x1

