
theorem dp_0_1_2 : ([0, 1, 2] : List Nat).Perm (List.range 3) := by decide +kernel
theorem dp_0_2_1 : ([0, 2, 1] : List Nat).Perm (List.range 3) := by decide +kernel
theorem dp_1_0 : ([1, 0] : List Nat).Perm (List.range 2) := by decide +kernel
theorem dp_1_0_2 : ([1, 0, 2] : List Nat).Perm (List.range 3) := by decide +kernel
theorem dp_2_0_1 : ([2, 0, 1] : List Nat).Perm (List.range 3) := by decide +kernel

set_option maxHeartbeats 4000000 in
set_option maxRecDepth 100000 in
def f_X2_forget_l2b (N : Nat) (I : OI) (cm : Option Nat) (k2 : RI → Int32 → Option RI) (R : RI) (x1 : Int32) : Option RI :=
  if 24 ≤ x1 then (ol (va_up R 1 (fillv 24 (R 1) 0)) (fun R1 => ol (va_up R1 2 (fillv 24 (R1 2) (-1))) (fun R2 => ol (va_up R2 3 (fillv 24 (R2 3) (-1))) (fun R3 => ol (va_up R3 4 (fillv 24 (R3 4) (-1))) (fun R4 => ol (va_up R4 5 (fillv 24 (R4 5) (-1))) (fun R5 => ol (va_up R5 6 (fillv 24 (R5 6) (-1))) (fun R6 => ol (va_up R6 7 (fillv 24 (R6 7) (-1))) (fun R7 => some R7)))))))) else (og x1 24 (ol (va_up R 0 (upd (R 0) x1.toNatClampNeg x1)) (fun R8 => og x1 24 (ol (va_up R8 8 (upd (R8 8) x1.toNatClampNeg (vp_nar .boolean 0))) (fun R9 => ol (x1 + Int32.ofInt 1) (fun v10 => k2 R9 v10))))))
set_option maxHeartbeats 4000000 in
set_option maxRecDepth 100000 in
def f_X2_forget_l2 (N : Nat) (I : OI) (cm : Option Nat) : Nat → RI → Int32 → Option RI
  | 0 => fun _ _ => none
  | n9 + 1 => f_X2_forget_l2b N I cm (f_X2_forget_l2 N I cm n9)
def f_X2_forget (N : Nat) (I : OI) (cm : Option Nat) (R : RI) : Option RI :=
  f_X2_forget_l2 N I cm N R 0
abbrev rmX2_forget : Room := { frames := 1, cells := 0, slots := 0, locals := 23 }
theorem in_X2_forget_X2 : ∀ w ∈ u_ws RX2 TX2 13, w ∈ wsX2_forget := in_of 14 rfl
theorem hy_X2_forget : yX2_forget.cls ≠ "java/lang/invoke/MethodHandle" ∧ yX2_forget.cls ≠ "java/lang/invoke/VarHandle" ∧ (parseMethodDescriptor yX2_forget.desc).map (fun d => d.parameters.length) = some 0 := by decide +kernel
theorem hyV_X2_forget : yX2_forget.cls = RX2 ∧ yX2_forget.cls ≠ "java/lang/invoke/MethodHandle" ∧ yX2_forget.cls ≠ "java/lang/invoke/VarHandle" ∧ (parseMethodDescriptor yX2_forget.desc).map (fun d => d.parameters.length) = some 0 := ⟨rfl, hy_X2_forget⟩
set_option maxHeartbeats 8000000 in
set_option maxRecDepth 100000 in
theorem c_X2_forget (l : Launch) (G : va_G) (cI cZ cQ cU cJ : ClassId) (N : Nat) (o : Nat) (ad : Nat → Nat) (I : OI) (R : RI) (cm : Option Nat) (out : RI) (hf : f_X2_forget N I cm R = some out) : Con l yX2_forget wsX2_forget rmX2_forget G vwCl (tys cI cZ cQ cU cJ) nws [.ref o] (pf [lW cI cZ o ad I R cm]) (none) (pf [lW cI cZ o ad I out cm]) := by
  refine con_of (rv := fun out : RI => none) (Wd := fun out : RI => pf [lW cI cZ o ad I out cm]) (maxL := 2) (own := RX2) rfl (plainFor_of_name (by decide +kernel)) rfl (Nat.le_of_ble_eq_true rfl) ?_ hf
  intro p e s m args below meth c A C hret hname
  have j2 : ∀ (n9 : Nat) (R : RI) (x1 : Int32), VJ p l e rmX2_forget s m args below meth c 2 G vwCl A (QR below G vwCl A args s rmX2_forget.cells rmX2_forget.slots (fun out : RI => none) (fun out : RI => pf [lW cI cZ o ad I out cm])) 0 0 (f_X2_forget_l2 N I cm  n9 R x1) (pf [lW cI cZ o ad I R cm]) 2 [(0, .ref o), (1, .int x1)] [] := by
    intro  n9
    induction n9 with
    | zero => intro R x1; exact VJ.fnone rfl
    | succ n9 i2 =>
      intro R x1
      refine VJ.eqf (f' := f_X2_forget_l2b N I cm  (f_X2_forget_l2 N I cm  n9) R x1) rfl ?_
      generalize f_X2_forget_l2 N I cm  n9 = k2 at i2 ⊢
      unfold f_X2_forget_l2b
      refine VJ.iload_n C 1 dX2_forget_2 rfl ?_
      refine VJ.bipush (v := 24) C dX2_forget_3 (by decide) ?_
      refine VJ.icmp_ge C 28 dX2_forget_5 (by decide) (fun _ => ?_) (fun _ => ?_)
      · refine VJ.aload_n C 0 dX2_forget_28 rfl ?_
        refine VJ.get (C0 := RX2) (T := TX2) (N := 13) (ci := 2) C in_X2_forget_X2 0 rfl rfl 1 (Nat.le_of_ble_eq_true rfl) (C.1.2.2.2.2 _ (List.mem_of_getElem? (i := 3) rfl)) (fun _ h9 => h9) (v := .ref (ad 1)) rfl dX2_forget_29 ?_
        refine VJ.iconst (v := 0) C dX2_forget_32 (by decide) ?_
        refine VJ.wrS (q0 := 2) C [.ref (ad 1), .int 0] R 1 (fun R1 => pf [lW cI cZ o ad I R1 cm]) rfl (fun _ => rfl) (c_J7_fill_53178t l G cI cZ cQ cU cJ (ad 1) 24 (Nat.le_of_ble_eq_true rfl) (R 1) 0) (va_cwS 2 C.1.2.2.2.2 gX2_forget_J7_fill_53178 rfl rfl rfl hy_J7_fill_53178 ⟨Nat.le_of_ble_eq_true rfl, Nat.le_of_ble_eq_true rfl⟩) rfl rfl (Nat.le_of_ble_eq_true rfl) dX2_forget_33 ⟨Nat.le_of_ble_eq_true rfl, Nat.le_of_ble_eq_true rfl⟩ ⟨rfl, rfl⟩ (fun R1 => ?_)
        refine VJ.aload_n C 0 dX2_forget_36 rfl ?_
        refine VJ.get (C0 := RX2) (T := TX2) (N := 13) (ci := 2) C in_X2_forget_X2 0 rfl rfl 2 (Nat.le_of_ble_eq_true rfl) (C.1.2.2.2.2 _ (List.mem_of_getElem? (i := 4) rfl)) (fun _ h9 => h9) (v := .ref (ad 2)) rfl dX2_forget_37 ?_
        refine VJ.iconst (v := (-1)) C dX2_forget_40 (by decide) ?_
        refine VJ.wrS (q0 := 3) C [.ref (ad 2), .int (-1)] R1 2 (fun R2 => pf [lW cI cZ o ad I R2 cm]) rfl (fun _ => rfl) (c_J7_fill_53178t l G cI cZ cQ cU cJ (ad 2) 24 (Nat.le_of_ble_eq_true rfl) (R1 2) (-1)) (va_cwS 2 C.1.2.2.2.2 gX2_forget_J7_fill_53178 rfl rfl rfl hy_J7_fill_53178 ⟨Nat.le_of_ble_eq_true rfl, Nat.le_of_ble_eq_true rfl⟩) rfl rfl (Nat.le_of_ble_eq_true rfl) dX2_forget_41 ⟨Nat.le_of_ble_eq_true rfl, Nat.le_of_ble_eq_true rfl⟩ ⟨rfl, rfl⟩ (fun R2 => ?_)
        refine VJ.aload_n C 0 dX2_forget_44 rfl ?_
        refine VJ.get (C0 := RX2) (T := TX2) (N := 13) (ci := 2) C in_X2_forget_X2 0 rfl rfl 3 (Nat.le_of_ble_eq_true rfl) (C.1.2.2.2.2 _ (List.mem_of_getElem? (i := 5) rfl)) (fun _ h9 => h9) (v := .ref (ad 3)) rfl dX2_forget_45 ?_
        refine VJ.iconst (v := (-1)) C dX2_forget_48 (by decide) ?_
        refine VJ.wrS (q0 := 4) C [.ref (ad 3), .int (-1)] R2 3 (fun R3 => pf [lW cI cZ o ad I R3 cm]) rfl (fun _ => rfl) (c_J7_fill_53178t l G cI cZ cQ cU cJ (ad 3) 24 (Nat.le_of_ble_eq_true rfl) (R2 3) (-1)) (va_cwS 2 C.1.2.2.2.2 gX2_forget_J7_fill_53178 rfl rfl rfl hy_J7_fill_53178 ⟨Nat.le_of_ble_eq_true rfl, Nat.le_of_ble_eq_true rfl⟩) rfl rfl (Nat.le_of_ble_eq_true rfl) dX2_forget_49 ⟨Nat.le_of_ble_eq_true rfl, Nat.le_of_ble_eq_true rfl⟩ ⟨rfl, rfl⟩ (fun R3 => ?_)
        refine VJ.aload_n C 0 dX2_forget_52 rfl ?_
        refine VJ.get (C0 := RX2) (T := TX2) (N := 13) (ci := 2) C in_X2_forget_X2 0 rfl rfl 4 (Nat.le_of_ble_eq_true rfl) (C.1.2.2.2.2 _ (List.mem_of_getElem? (i := 6) rfl)) (fun _ h9 => h9) (v := .ref (ad 4)) rfl dX2_forget_53 ?_
        refine VJ.iconst (v := (-1)) C dX2_forget_56 (by decide) ?_
        refine VJ.wrS (q0 := 5) C [.ref (ad 4), .int (-1)] R3 4 (fun R4 => pf [lW cI cZ o ad I R4 cm]) rfl (fun _ => rfl) (c_J7_fill_53178t l G cI cZ cQ cU cJ (ad 4) 24 (Nat.le_of_ble_eq_true rfl) (R3 4) (-1)) (va_cwS 2 C.1.2.2.2.2 gX2_forget_J7_fill_53178 rfl rfl rfl hy_J7_fill_53178 ⟨Nat.le_of_ble_eq_true rfl, Nat.le_of_ble_eq_true rfl⟩) rfl rfl (Nat.le_of_ble_eq_true rfl) dX2_forget_57 ⟨Nat.le_of_ble_eq_true rfl, Nat.le_of_ble_eq_true rfl⟩ ⟨rfl, rfl⟩ (fun R4 => ?_)
        refine VJ.aload_n C 0 dX2_forget_60 rfl ?_
        refine VJ.get (C0 := RX2) (T := TX2) (N := 13) (ci := 2) C in_X2_forget_X2 0 rfl rfl 5 (Nat.le_of_ble_eq_true rfl) (C.1.2.2.2.2 _ (List.mem_of_getElem? (i := 7) rfl)) (fun _ h9 => h9) (v := .ref (ad 5)) rfl dX2_forget_61 ?_
        refine VJ.iconst (v := (-1)) C dX2_forget_64 (by decide) ?_
        refine VJ.wrS (q0 := 6) C [.ref (ad 5), .int (-1)] R4 5 (fun R5 => pf [lW cI cZ o ad I R5 cm]) rfl (fun _ => rfl) (c_J7_fill_53178t l G cI cZ cQ cU cJ (ad 5) 24 (Nat.le_of_ble_eq_true rfl) (R4 5) (-1)) (va_cwS 2 C.1.2.2.2.2 gX2_forget_J7_fill_53178 rfl rfl rfl hy_J7_fill_53178 ⟨Nat.le_of_ble_eq_true rfl, Nat.le_of_ble_eq_true rfl⟩) rfl rfl (Nat.le_of_ble_eq_true rfl) dX2_forget_65 ⟨Nat.le_of_ble_eq_true rfl, Nat.le_of_ble_eq_true rfl⟩ ⟨rfl, rfl⟩ (fun R5 => ?_)
        refine VJ.aload_n C 0 dX2_forget_68 rfl ?_
        refine VJ.get (C0 := RX2) (T := TX2) (N := 13) (ci := 2) C in_X2_forget_X2 0 rfl rfl 6 (Nat.le_of_ble_eq_true rfl) (C.1.2.2.2.2 _ (List.mem_of_getElem? (i := 8) rfl)) (fun _ h9 => h9) (v := .ref (ad 6)) rfl dX2_forget_69 ?_
        refine VJ.iconst (v := (-1)) C dX2_forget_72 (by decide) ?_
        refine VJ.wrS (q0 := 7) C [.ref (ad 6), .int (-1)] R5 6 (fun R6 => pf [lW cI cZ o ad I R6 cm]) rfl (fun _ => rfl) (c_J7_fill_53178t l G cI cZ cQ cU cJ (ad 6) 24 (Nat.le_of_ble_eq_true rfl) (R5 6) (-1)) (va_cwS 2 C.1.2.2.2.2 gX2_forget_J7_fill_53178 rfl rfl rfl hy_J7_fill_53178 ⟨Nat.le_of_ble_eq_true rfl, Nat.le_of_ble_eq_true rfl⟩) rfl rfl (Nat.le_of_ble_eq_true rfl) dX2_forget_73 ⟨Nat.le_of_ble_eq_true rfl, Nat.le_of_ble_eq_true rfl⟩ ⟨rfl, rfl⟩ (fun R6 => ?_)
        refine VJ.aload_n C 0 dX2_forget_76 rfl ?_
        refine VJ.get (C0 := RX2) (T := TX2) (N := 13) (ci := 2) C in_X2_forget_X2 0 rfl rfl 7 (Nat.le_of_ble_eq_true rfl) (C.1.2.2.2.2 _ (List.mem_of_getElem? (i := 9) rfl)) (fun _ h9 => h9) (v := .ref (ad 7)) rfl dX2_forget_77 ?_
        refine VJ.iconst (v := (-1)) C dX2_forget_80 (by decide) ?_
        refine VJ.wrS (q0 := 8) C [.ref (ad 7), .int (-1)] R6 7 (fun R7 => pf [lW cI cZ o ad I R7 cm]) rfl (fun _ => rfl) (c_J7_fill_53178t l G cI cZ cQ cU cJ (ad 7) 24 (Nat.le_of_ble_eq_true rfl) (R6 7) (-1)) (va_cwS 2 C.1.2.2.2.2 gX2_forget_J7_fill_53178 rfl rfl rfl hy_J7_fill_53178 ⟨Nat.le_of_ble_eq_true rfl, Nat.le_of_ble_eq_true rfl⟩) rfl rfl (Nat.le_of_ble_eq_true rfl) dX2_forget_81 ⟨Nat.le_of_ble_eq_true rfl, Nat.le_of_ble_eq_true rfl⟩ ⟨rfl, rfl⟩ (fun R7 => ?_)
        exact VJ.vret C hret rfl rfl dX2_forget_84
      · refine VJ.aload_n C 0 dX2_forget_8 rfl ?_
        refine VJ.get (C0 := RX2) (T := TX2) (N := 13) (ci := 2) C in_X2_forget_X2 0 rfl rfl 0 (Nat.le_of_ble_eq_true rfl) (C.1.2.2.2.2 _ (List.mem_of_getElem? (i := 1) rfl)) (fun _ h9 => h9) (v := .ref (ad 0)) rfl dX2_forget_9 ?_
        refine VJ.iload_n C 1 dX2_forget_12 rfl ?_
        refine VJ.iload_n C 1 dX2_forget_13 rfl ?_
        refine VJ.iastR C 1 0 R 0 (fun R8 => pf [lW cI cZ o ad I R8 cm]) rfl rfl (fun _ => rfl) dX2_forget_14 (fun R8 => ?_)
        refine VJ.aload_n C 0 dX2_forget_15 rfl ?_
        refine VJ.get (C0 := RX2) (T := TX2) (N := 13) (ci := 2) C in_X2_forget_X2 0 rfl rfl 8 (Nat.le_of_ble_eq_true rfl) (C.1.2.2.2.2 _ (List.mem_of_getElem? (i := 2) rfl)) (fun _ h9 => h9) (v := .ref (ad 8)) rfl dX2_forget_16 ?_
        refine VJ.iload_n C 1 dX2_forget_19 rfl ?_
        refine VJ.iconst (v := 0) C dX2_forget_20 (by decide) ?_
        refine VJ.zastR C 9 1 R8 8 (fun R9 => pf [lW cI cZ o ad I R9 cm]) rfl rfl (fun _ => rfl) dX2_forget_21 (fun R9 => ?_)
        refine VJ.iincN C 1 (fun v10 => [(1, .int v10), (0, .ref o)]) dX2_forget_22 rfl (Nat.le_of_ble_eq_true rfl) (fun _ => rfl) (fun v10 => ?_)
        refine VJ.goto C 2 dX2_forget_25 (by decide) ?_
        refine VJ.sub [1, 0] rfl ?_
        exact i2 R9 v10
  unfold f_X2_forget
  refine VJ.iconst (v := 0) C dX2_forget_0 (by decide) ?_
  refine VJ.istore_n C [(1, .int 0), (0, .ref o)] dX2_forget_1 (Nat.le_of_ble_eq_true rfl) rfl ?_
  refine VJ.sub [1, 0] rfl ?_
  exact j2 N R 0

set_option maxHeartbeats 4000000 in
set_option maxRecDepth 100000 in
def f_X2_joinDoubles_l63b (N : Nat) (AL : List Nat) (I : OI) (cm : Option Nat) (ta : Int32) (ea : Option Nat) (wa : OO) (AI : Nat → OI) (AR : Nat → OO) (k63 : RI → Int32 → Option RI) (R : RI) (x2 : Int32) : Option RI :=
  if 24 ≤ x2 then (some R) else (og x2 24 (if (R 0 x2.toNatClampNeg) = x2 then (ol (x2 + Int32.ofInt 1) (fun v1 => k63 R v1)) else (og x2 24 (og x2 24 (ol (va_up R 0 (upd (R 0) x2.toNatClampNeg (atv 24 (R 0) (R 0 x2.toNatClampNeg)))) (fun R2 => og x2 24 (ol (va_up R2 1 (upd (R2 1) x2.toNatClampNeg 3)) (fun R3 => ol (x2 + Int32.ofInt 1) (fun v4 => k63 R3 v4)))))))))
set_option maxHeartbeats 4000000 in
set_option maxRecDepth 100000 in
def f_X2_joinDoubles_l63 (N : Nat) (AL : List Nat) (I : OI) (cm : Option Nat) (ta : Int32) (ea : Option Nat) (wa : OO) (AI : Nat → OI) (AR : Nat → OO) : Nat → RI → Int32 → Option RI
  | 0 => fun _ _ => none
  | n9 + 1 => f_X2_joinDoubles_l63b N AL I cm ta ea wa AI AR (f_X2_joinDoubles_l63 N AL I cm ta ea wa AI AR n9)
set_option maxHeartbeats 4000000 in
set_option maxRecDepth 100000 in
def f_X2_joinDoubles_l2b (N : Nat) (AL : List Nat) (I : OI) (cm : Option Nat) (ta : Int32) (ea : Option Nat) (wa : OO) (AI : Nat → OI) (AR : Nat → OO) (k2 : RI → Int32 → Option RI) (R : RI) (x2 : Int32) : Option RI :=
  if ta ≤ x2 then (f_X2_joinDoubles_l63 N AL I cm ta ea wa AI AR N R 0) else (ob1 (f_X1_find ta ea wa x2) (fun r5 => oc r5 (ol (x2 + Int32.ofInt 1) (fun v7 => k2 R v7)) (fun a6 => om a6 AL (if (AI a6 0) = 7 then (om a6 AL (ob1 (f_X0_isKnownOn AL AI AR a6 (I 1)) (fun r10 => if r10 = 0 then (ol (x2 + Int32.ofInt 1) (fun v12 => k2 R v12)) else (om a6 AL (om a6 AL (ol (va_up R 0 (putv 24 (R 0) (AI a6 4) (AI a6 3))) (fun R15 => ol (x2 + Int32.ofInt 1) (fun v16 => k2 R15 v16)))))))) else (ol (x2 + Int32.ofInt 1) (fun v9 => k2 R v9))))))
set_option maxHeartbeats 4000000 in
set_option maxRecDepth 100000 in
def f_X2_joinDoubles_l2 (N : Nat) (AL : List Nat) (I : OI) (cm : Option Nat) (ta : Int32) (ea : Option Nat) (wa : OO) (AI : Nat → OI) (AR : Nat → OO) : Nat → RI → Int32 → Option RI
  | 0 => fun _ _ => none
  | n9 + 1 => f_X2_joinDoubles_l2b N AL I cm ta ea wa AI AR (f_X2_joinDoubles_l2 N AL I cm ta ea wa AI AR n9)
def f_X2_joinDoubles (N : Nat) (AL : List Nat) (I : OI) (cm : Option Nat) (ta : Int32) (ea : Option Nat) (wa : OO) (AI : Nat → OI) (AR : Nat → OO) (R : RI) : Option RI :=
  f_X2_joinDoubles_l2 N AL I cm ta ea wa AI AR N R 0
abbrev rmX2_joinDoubles : Room := { frames := 1, cells := 0, slots := 0, locals := 22 }
theorem in_X2_joinDoubles_X0 : ∀ w ∈ u_ws RX0 TX0 10, w ∈ wsX2_joinDoubles := in_of 23 rfl
theorem in_X2_joinDoubles_X1 : ∀ w ∈ u_ws RX1 TX1 3, w ∈ wsX2_joinDoubles := in_of 20 rfl
theorem in_X2_joinDoubles_X2 : ∀ w ∈ u_ws RX2 TX2 13, w ∈ wsX2_joinDoubles := in_of 33 rfl
theorem hy_X2_joinDoubles : yX2_joinDoubles.cls ≠ "java/lang/invoke/MethodHandle" ∧ yX2_joinDoubles.cls ≠ "java/lang/invoke/VarHandle" ∧ (parseMethodDescriptor yX2_joinDoubles.desc).map (fun d => d.parameters.length) = some 1 := by decide +kernel
theorem hyV_X2_joinDoubles : yX2_joinDoubles.cls = RX2 ∧ yX2_joinDoubles.cls ≠ "java/lang/invoke/MethodHandle" ∧ yX2_joinDoubles.cls ≠ "java/lang/invoke/VarHandle" ∧ (parseMethodDescriptor yX2_joinDoubles.desc).map (fun d => d.parameters.length) = some 1 := ⟨rfl, hy_X2_joinDoubles⟩
set_option maxHeartbeats 8000000 in
set_option maxRecDepth 100000 in
theorem c_X2_joinDoubles (l : Launch) (G : va_G) (cI cZ cQ cU cJ : ClassId) (N : Nat) (o : Nat) (ad : Nat → Nat) (I : OI) (R : RI) (cm : Option Nat) (oa : Nat) (ra : Nat) (ta : Int32) (ea : Option Nat) (wa : OO) (AL : List Nat) (AI : Nat → OI) (AR : Nat → OO) (out : RI) (hf : f_X2_joinDoubles N AL I cm ta ea wa AI AR R = some out) : Con l yX2_joinDoubles wsX2_joinDoubles rmX2_joinDoubles G vwCl (tys cI cZ cQ cU cJ) nws [.ref o, .ref oa] (pf [lW cI cZ o ad I R cm, aW cQ oa ra ta ea wa, pW AL AI AR]) (none) (pf [lW cI cZ o ad I out cm, aW cQ oa ra ta ea wa, pW AL AI AR]) := by
  refine con_of (rv := fun out : RI => none) (Wd := fun out : RI => pf [lW cI cZ o ad I out cm, aW cQ oa ra ta ea wa, pW AL AI AR]) (maxL := 4) (own := RX2) rfl (plainFor_of_name (by decide +kernel)) rfl (Nat.le_of_ble_eq_true rfl) ?_ hf
  intro p e s m args below meth c A C hret hname
  have j63 : ∀ (n9 : Nat) (R : RI) (x2 : Int32), VJ p l e rmX2_joinDoubles s m args below meth c 4 G vwCl A (QR below G vwCl A args s rmX2_joinDoubles.cells rmX2_joinDoubles.slots (fun out : RI => none) (fun out : RI => pf [lW cI cZ o ad I out cm, aW cQ oa ra ta ea wa, pW AL AI AR])) 0 0 (f_X2_joinDoubles_l63 N AL I cm ta ea wa AI AR  n9 R x2) (pf [lW cI cZ o ad I R cm, aW cQ oa ra ta ea wa, pW AL AI AR]) 63 [(0, .ref o), (2, .int x2)] [] := by
    intro  n9
    induction n9 with
    | zero => intro R x2; exact VJ.fnone rfl
    | succ n9 i63 =>
      intro R x2
      refine VJ.eqf (f' := f_X2_joinDoubles_l63b N AL I cm ta ea wa AI AR  (f_X2_joinDoubles_l63 N AL I cm ta ea wa AI AR  n9) R x2) rfl ?_
      generalize f_X2_joinDoubles_l63 N AL I cm ta ea wa AI AR  n9 = k63 at i63 ⊢
      unfold f_X2_joinDoubles_l63b
      refine VJ.iload_n C 1 dX2_joinDoubles_63 rfl ?_
      refine VJ.bipush (v := 24) C dX2_joinDoubles_64 (by decide) ?_
      refine VJ.icmp_ge C 111 dX2_joinDoubles_66 (by decide) (fun _ => ?_) (fun _ => ?_)
      · exact VJ.vret C hret rfl rfl dX2_joinDoubles_111
      · refine VJ.aload_n C 0 dX2_joinDoubles_69 rfl ?_
        refine VJ.get (C0 := RX2) (T := TX2) (N := 13) (ci := 2) C in_X2_joinDoubles_X2 0 rfl rfl 0 (Nat.le_of_ble_eq_true rfl) (C.1.2.2.2.2 _ (List.mem_of_getElem? (i := 2) rfl)) (fun _ h9 => h9) (v := .ref (ad 0)) rfl dX2_joinDoubles_70 ?_
        refine VJ.iload_n C 1 dX2_joinDoubles_73 rfl ?_
        refine VJ.iald C 1 0 rfl rfl dX2_joinDoubles_74 ?_
        refine VJ.iload_n C 1 dX2_joinDoubles_75 rfl ?_
        refine VJ.icmp_eq C 105 dX2_joinDoubles_76 (by decide) (fun _ => ?_) (fun _ => ?_)
        · refine VJ.iincN C 1 (fun v1 => [(2, .int v1), (0, .ref o)]) dX2_joinDoubles_105 rfl (Nat.le_of_ble_eq_true rfl) (fun _ => rfl) (fun v1 => ?_)
          refine VJ.goto C 63 dX2_joinDoubles_108 (by decide) ?_
          refine VJ.sub [1, 0] rfl ?_
          exact i63 R v1
        · refine VJ.aload_n C 0 dX2_joinDoubles_79 rfl ?_
          refine VJ.get (C0 := RX2) (T := TX2) (N := 13) (ci := 2) C in_X2_joinDoubles_X2 0 rfl rfl 0 (Nat.le_of_ble_eq_true rfl) (C.1.2.2.2.2 _ (List.mem_of_getElem? (i := 2) rfl)) (fun _ h9 => h9) (v := .ref (ad 0)) rfl dX2_joinDoubles_80 ?_
          refine VJ.iload_n C 1 dX2_joinDoubles_83 rfl ?_
          refine VJ.aload_n C 0 dX2_joinDoubles_84 rfl ?_
          refine VJ.get (C0 := RX2) (T := TX2) (N := 13) (ci := 2) C in_X2_joinDoubles_X2 0 rfl rfl 0 (Nat.le_of_ble_eq_true rfl) (C.1.2.2.2.2 _ (List.mem_of_getElem? (i := 2) rfl)) (fun _ h9 => h9) (v := .ref (ad 0)) rfl dX2_joinDoubles_85 ?_
          refine VJ.aload_n C 0 dX2_joinDoubles_88 rfl ?_
          refine VJ.get (C0 := RX2) (T := TX2) (N := 13) (ci := 2) C in_X2_joinDoubles_X2 0 rfl rfl 0 (Nat.le_of_ble_eq_true rfl) (C.1.2.2.2.2 _ (List.mem_of_getElem? (i := 2) rfl)) (fun _ h9 => h9) (v := .ref (ad 0)) rfl dX2_joinDoubles_89 ?_
          refine VJ.iload_n C 1 dX2_joinDoubles_92 rfl ?_
          refine VJ.iald C 1 0 rfl rfl dX2_joinDoubles_93 ?_
          refine VJ.atSN (q0 := 1) C rfl (c_X5_att l G cI cZ cQ cU cJ (ad 0) 24 (Nat.le_of_ble_eq_true rfl) (R 0) (R 0 x2.toNatClampNeg)) (⟨va_cnB 2 C.1.2.2.2.2 gX2_joinDoubles_X5_at_n116 rfl rfl rfl (C.nestM (List.mem_of_getElem? (i := 35) rfl)) (C.1.2.2.2.2 _ (List.mem_of_getElem? (i := 16) rfl)) hy_X5_at ⟨Nat.le_of_ble_eq_true rfl, Nat.le_of_ble_eq_true rfl⟩, (C.1.2.2.2.2 _ (List.mem_of_getElem? (i := 18) rfl)), trivial⟩) rfl (Nat.le_of_ble_eq_true rfl) dX2_joinDoubles_94 ⟨Nat.le_of_ble_eq_true rfl, Nat.le_of_ble_eq_true rfl⟩ ⟨rfl, rfl⟩ ?_
          refine VJ.iastR C 1 0 R 0 (fun R2 => pf [lW cI cZ o ad I R2 cm, aW cQ oa ra ta ea wa, pW AL AI AR]) rfl rfl (fun _ => rfl) dX2_joinDoubles_97 (fun R2 => ?_)
          refine VJ.aload_n C 0 dX2_joinDoubles_98 rfl ?_
          refine VJ.get (C0 := RX2) (T := TX2) (N := 13) (ci := 2) C in_X2_joinDoubles_X2 0 rfl rfl 1 (Nat.le_of_ble_eq_true rfl) (C.1.2.2.2.2 _ (List.mem_of_getElem? (i := 3) rfl)) (fun _ h9 => h9) (v := .ref (ad 1)) rfl dX2_joinDoubles_99 ?_
          refine VJ.iload_n C 1 dX2_joinDoubles_102 rfl ?_
          refine VJ.iconst (v := 3) C dX2_joinDoubles_103 (by decide) ?_
          refine VJ.iastR C 2 0 R2 1 (fun R3 => pf [lW cI cZ o ad I R3 cm, aW cQ oa ra ta ea wa, pW AL AI AR]) rfl rfl (fun _ => rfl) dX2_joinDoubles_104 (fun R3 => ?_)
          refine VJ.iincN C 1 (fun v4 => [(2, .int v4), (0, .ref o)]) dX2_joinDoubles_105 rfl (Nat.le_of_ble_eq_true rfl) (fun _ => rfl) (fun v4 => ?_)
          refine VJ.goto C 63 dX2_joinDoubles_108 (by decide) ?_
          refine VJ.sub [1, 0] rfl ?_
          exact i63 R3 v4
  have j2 : ∀ (n9 : Nat) (R : RI) (x2 : Int32), VJ p l e rmX2_joinDoubles s m args below meth c 4 G vwCl A (QR below G vwCl A args s rmX2_joinDoubles.cells rmX2_joinDoubles.slots (fun out : RI => none) (fun out : RI => pf [lW cI cZ o ad I out cm, aW cQ oa ra ta ea wa, pW AL AI AR])) 0 0 (f_X2_joinDoubles_l2 N AL I cm ta ea wa AI AR  n9 R x2) (pf [lW cI cZ o ad I R cm, aW cQ oa ra ta ea wa, pW AL AI AR]) 2 [(0, .ref o), (1, .ref oa), (2, .int x2)] [] := by
    intro  n9
    induction n9 with
    | zero => intro R x2; exact VJ.fnone rfl
    | succ n9 i2 =>
      intro R x2
      refine VJ.eqf (f' := f_X2_joinDoubles_l2b N AL I cm ta ea wa AI AR  (f_X2_joinDoubles_l2 N AL I cm ta ea wa AI AR  n9) R x2) rfl ?_
      generalize f_X2_joinDoubles_l2 N AL I cm ta ea wa AI AR  n9 = k2 at i2 ⊢
      unfold f_X2_joinDoubles_l2b
      refine VJ.iload_n C 2 dX2_joinDoubles_2 rfl ?_
      refine VJ.aload_n C 1 dX2_joinDoubles_3 rfl ?_
      refine VJ.getN (C0 := RX1) (T := TX1) (N := 3) (ci := 1) C in_X2_joinDoubles_X1 11 rfl rfl 1 (Nat.le_of_ble_eq_true rfl) (C.nest (List.mem_of_getElem? (i := 0) rfl) rfl) (fun _ h9 => h9) (v := .int ta) rfl dX2_joinDoubles_4 ?_
      refine VJ.icmp_ge C 61 dX2_joinDoubles_7 (by decide) (fun _ => ?_) (fun _ => ?_)
      · refine VJ.iconst (v := 0) C dX2_joinDoubles_61 (by decide) ?_
        refine VJ.istore_n C [(2, .int 0), (0, .ref o), (1, .ref oa)] dX2_joinDoubles_62 (Nat.le_of_ble_eq_true rfl) rfl ?_
        refine VJ.sub [1, 0] rfl ?_
        exact j63 N R 0
      · refine VJ.aload_n C 1 dX2_joinDoubles_10 rfl ?_
        refine VJ.iload_n C 2 dX2_joinDoubles_11 rfl ?_
        refine VJ.callVN1 C [.int x2] (pf [aW cQ oa ra ta ea wa]) (pf [lW cI cZ o ad I R cm, pW AL AI AR]) (fun r5 => some (va_rf r5)) (fun r5 => pf [aW cQ oa ra ta ea wa]) (fun r5 => pf [lW cI cZ o ad I R cm, aW cQ oa ra ta ea wa, pW AL AI AR]) (fun r5 => [va_rf r5]) 0 0 (fun _ h9 => c_X1_find l G cI cZ cQ cU cJ oa ra ta ea wa x2 _ h9) (vj_pf 3 [1, 0, 2] rfl rfl dp_1_0_2) (fun _ => (vj_pf 3 [1, 0, 2] rfl rfl dp_1_0_2).symm) 0 rfl rfl (⟨va_cnB 1 C.1.2.2.2.2 gX2_joinDoubles_X1_find_n99 rfl rfl rfl (C.nestM (List.mem_of_getElem? (i := 32) rfl)) (C.1.2.2.2.2 _ (List.mem_of_getElem? (i := 5) rfl)) hy_X1_find ⟨Nat.le_of_ble_eq_true rfl, Nat.le_of_ble_eq_true rfl⟩, (C.1.2.2.2.2 _ (List.mem_of_getElem? (i := 4) rfl)), (C.1.2.2.2.2 _ (List.mem_of_getElem? (i := 6) rfl))⟩) rfl rfl (fun _ => rfl) (Nat.le_of_ble_eq_true rfl) dX2_joinDoubles_12 ⟨Nat.le_of_ble_eq_true rfl, Nat.le_of_ble_eq_true rfl⟩ ⟨rfl, rfl⟩ (fun r5 => ?_)
        refine VJ.astore_nq C [(3, va_rf r5), (0, .ref o), (1, .ref oa), (2, .int x2)] dX2_joinDoubles_15 (Nat.le_of_ble_eq_true rfl) rfl ?_
        refine VJ.aload_nq C 0 dX2_joinDoubles_16 rfl ?_
        refine VJ.ifnull C 55 dX2_joinDoubles_17 (by decide) (fun e9 => ?_) (fun a6 e9 => ?_)
        · subst e9
          refine VJ.iincN C 3 (fun v7 => [(2, .int v7), (3, .null), (0, .ref o), (1, .ref oa)]) dX2_joinDoubles_55 rfl (Nat.le_of_ble_eq_true rfl) (fun _ => rfl) (fun v7 => ?_)
          refine VJ.goto C 2 dX2_joinDoubles_58 (by decide) ?_
          refine VJ.sub [2, 3, 0] rfl ?_
          exact i2 R v7
        · subst e9
          refine VJ.aload_n C 0 dX2_joinDoubles_20 rfl ?_
          refine VJ.rom (fun h9 => ?_)
          obtain ⟨p8, ep8⟩ := pool_at (ps := [lW cI cZ o ad I R cm, aW cQ oa ra ta ea wa, pW AL AI AR]) (List.mem_of_getElem? (i := 2) rfl) h9
          refine VJ.getN (C0 := RX0) (T := TX0) (N := 10) (ci := 0) C in_X2_joinDoubles_X0 p8 ep8 rfl 0 (Nat.le_of_ble_eq_true rfl) (C.nest (List.mem_of_getElem? (i := 4) rfl) rfl) (fun _ h9 => h9) rfl dX2_joinDoubles_21 ?_
          refine VJ.bipush (v := 7) C dX2_joinDoubles_24 (by decide) ?_
          refine VJ.icmp_ne C 55 dX2_joinDoubles_26 (by decide) (fun _ => ?_) (fun _ => ?_)
          · refine VJ.iincN C 3 (fun v9 => [(2, .int v9), (3, .ref a6), (0, .ref o), (1, .ref oa)]) dX2_joinDoubles_55 rfl (Nat.le_of_ble_eq_true rfl) (fun _ => rfl) (fun v9 => ?_)
            refine VJ.goto C 2 dX2_joinDoubles_58 (by decide) ?_
            refine VJ.sub [2, 3, 0] rfl ?_
            exact i2 R v9
          · refine VJ.aload_n C 0 dX2_joinDoubles_29 rfl ?_
            refine VJ.aload_n C 1 dX2_joinDoubles_30 rfl ?_
            refine VJ.get (C0 := RX2) (T := TX2) (N := 13) (ci := 2) C in_X2_joinDoubles_X2 0 rfl rfl 11 (Nat.le_of_ble_eq_true rfl) (C.1.2.2.2.2 _ (List.mem_of_getElem? (i := 1) rfl)) (fun _ h9 => h9) (v := .int (I 1)) rfl dX2_joinDoubles_31 ?_
            refine VJ.rom (fun h9 => ?_)
            obtain ⟨p11, ep11⟩ := pool_at (ps := [pW AL AI AR]) (List.mem_of_getElem? (i := 0) rfl) h9
            refine VJ.callVN1 C [.int (I 1)] (pf [pW AL AI AR]) (pf [lW cI cZ o ad I R cm, aW cQ oa ra ta ea wa]) (fun r10 => some (.int r10)) (fun r10 => pf [pW AL AI AR]) (fun r10 => pf [lW cI cZ o ad I R cm, aW cQ oa ra ta ea wa, pW AL AI AR]) (fun r10 => [.int r10]) 0 0 (fun _ h9 => c_X0_isKnownOn l G cI cZ cQ cU cJ AL AI AR a6 (I 1) _ h9) (vj_pf 3 [2, 0, 1] rfl rfl dp_2_0_1) (fun _ => (vj_pf 3 [2, 0, 1] rfl rfl dp_2_0_1).symm) p11 ep11 rfl (⟨va_cnB 1 C.1.2.2.2.2 gX2_joinDoubles_X0_isKnownOn_n79 rfl rfl rfl (C.nestM (List.mem_of_getElem? (i := 33) rfl)) (C.1.2.2.2.2 _ (List.mem_of_getElem? (i := 10) rfl)) hy_X0_isKnownOn ⟨Nat.le_of_ble_eq_true rfl, Nat.le_of_ble_eq_true rfl⟩, (C.1.2.2.2.2 _ (List.mem_of_getElem? (i := 9) rfl)), (C.1.2.2.2.2 _ (List.mem_of_getElem? (i := 11) rfl))⟩) rfl rfl (fun _ => rfl) (Nat.le_of_ble_eq_true rfl) dX2_joinDoubles_34 ⟨Nat.le_of_ble_eq_true rfl, Nat.le_of_ble_eq_true rfl⟩ ⟨rfl, rfl⟩ (fun r10 => ?_)
            refine VJ.if_eq C 55 dX2_joinDoubles_37 (by decide) (fun _ => ?_) (fun _ => ?_)
            · refine VJ.iincN C 3 (fun v12 => [(2, .int v12), (3, .ref a6), (0, .ref o), (1, .ref oa)]) dX2_joinDoubles_55 rfl (Nat.le_of_ble_eq_true rfl) (fun _ => rfl) (fun v12 => ?_)
              refine VJ.goto C 2 dX2_joinDoubles_58 (by decide) ?_
              refine VJ.sub [2, 3, 0] rfl ?_
              exact i2 R v12
            · refine VJ.aload_n C 1 dX2_joinDoubles_40 rfl ?_
              refine VJ.get (C0 := RX2) (T := TX2) (N := 13) (ci := 2) C in_X2_joinDoubles_X2 0 rfl rfl 0 (Nat.le_of_ble_eq_true rfl) (C.1.2.2.2.2 _ (List.mem_of_getElem? (i := 2) rfl)) (fun _ h9 => h9) (v := .ref (ad 0)) rfl dX2_joinDoubles_41 ?_
              refine VJ.aload_n C 0 dX2_joinDoubles_44 rfl ?_
              refine VJ.rom (fun h9 => ?_)
              obtain ⟨p13, ep13⟩ := pool_at (ps := [lW cI cZ o ad I R cm, aW cQ oa ra ta ea wa, pW AL AI AR]) (List.mem_of_getElem? (i := 2) rfl) h9
              refine VJ.getN (C0 := RX0) (T := TX0) (N := 10) (ci := 0) C in_X2_joinDoubles_X0 p13 ep13 rfl 4 (Nat.le_of_ble_eq_true rfl) (C.nest (List.mem_of_getElem? (i := 12) rfl) rfl) (fun _ h9 => h9) rfl dX2_joinDoubles_45 ?_
              refine VJ.aload_n C 0 dX2_joinDoubles_48 rfl ?_
              refine VJ.rom (fun h9 => ?_)
              obtain ⟨p14, ep14⟩ := pool_at (ps := [lW cI cZ o ad I R cm, aW cQ oa ra ta ea wa, pW AL AI AR]) (List.mem_of_getElem? (i := 2) rfl) h9
              refine VJ.getN (C0 := RX0) (T := TX0) (N := 10) (ci := 0) C in_X2_joinDoubles_X0 p14 ep14 rfl 3 (Nat.le_of_ble_eq_true rfl) (C.nest (List.mem_of_getElem? (i := 10) rfl) rfl) (fun _ h9 => h9) rfl dX2_joinDoubles_49 ?_
              refine VJ.putSN (q0 := 1) C R 0 (fun R15 => pf [lW cI cZ o ad I R15 cm, aW cQ oa ra ta ea wa, pW AL AI AR]) rfl (fun _ => rfl) (c_X5_putt l G cI cZ cQ cU cJ (ad 0) 24 (Nat.le_of_ble_eq_true rfl) (R 0) (AI a6 4) (AI a6 3)) (⟨va_cnB 3 C.1.2.2.2.2 gX2_joinDoubles_X5_put_n112 rfl rfl rfl (C.nestM (List.mem_of_getElem? (i := 34) rfl)) (C.1.2.2.2.2 _ (List.mem_of_getElem? (i := 16) rfl)) hy_X5_put ⟨Nat.le_of_ble_eq_true rfl, Nat.le_of_ble_eq_true rfl⟩, (C.1.2.2.2.2 _ (List.mem_of_getElem? (i := 15) rfl)), trivial⟩) rfl (Nat.le_of_ble_eq_true rfl) dX2_joinDoubles_52 ⟨Nat.le_of_ble_eq_true rfl, Nat.le_of_ble_eq_true rfl⟩ ⟨rfl, rfl⟩ (fun R15 => ?_)
              refine VJ.iincN C 3 (fun v16 => [(2, .int v16), (3, .ref a6), (0, .ref o), (1, .ref oa)]) dX2_joinDoubles_55 rfl (Nat.le_of_ble_eq_true rfl) (fun _ => rfl) (fun v16 => ?_)
              refine VJ.goto C 2 dX2_joinDoubles_58 (by decide) ?_
              refine VJ.sub [2, 3, 0] rfl ?_
              exact i2 R15 v16
  unfold f_X2_joinDoubles
  refine VJ.iconst (v := 0) C dX2_joinDoubles_0 (by decide) ?_
  refine VJ.istore_n C [(2, .int 0), (0, .ref o), (1, .ref oa)] dX2_joinDoubles_1 (Nat.le_of_ble_eq_true rfl) rfl ?_
  refine VJ.sub [1, 2, 0] rfl ?_
  exact j2 N R 0

def f_X2_happen (AL : List Nat) (I : OI) (cm : Option Nat) (AI : Nat → OI) (AR : Nat → OO) (R : RI) (x1 : Nat) : Option RI :=
  om x1 AL (ol (atv 24 (R 0) (AI x1 3)) (fun v2 => om x1 AL (ol (atv 24 (R 0) (AI x1 4)) (fun v4 => om x1 AL (if (AI x1 0) = 0 then (ob1 (f_X2_beBorn AL I cm AI AR R v2 v4 x1) (fun R6 => some R6)) else (if (AI x1 0) = 1 then (ob1 (f_X2_isLiving I R cm v2) (fun r7 => if r7 = 0 then (some R) else (om x1 AL (ol (va_up R 2 (putv 24 (R 2) v2 (AI x1 5))) (fun R9 => some R9))))) else (if (AI x1 0) = 2 then (ob1 (f_X2_isLiving I R cm v2) (fun r10 => if r10 = 0 then (some R) else (om x1 AL (ol (va_up R 3 (putv 24 (R 3) v2 (AI x1 6))) (fun R12 => some R12))))) else (if (AI x1 0) = 3 then (ob1 (f_X2_bond I cm R v2 v4) (fun R13 => some R13)) else (if (AI x1 0) = 4 then (ob1 (f_X2_part I cm R v2 v4) (fun R14 => some R14)) else (if (AI x1 0) = 5 then (ob1 (f_X2_die I cm R v2) (fun R15 => some R15)) else (if (AI x1 0) = 6 then (ob1 (f_X2_adopt I cm R v2 v4) (fun R16 => some R16)) else (some R))))))))))))
abbrev rmX2_happen : Room := { frames := 3, cells := 0, slots := 0, locals := 65 }
theorem in_X2_happen_X0 : ∀ w ∈ u_ws RX0 TX0 10, w ∈ wsX2_happen := in_of 59 rfl
theorem in_X2_happen_X2 : ∀ w ∈ u_ws RX2 TX2 13, w ∈ wsX2_happen := in_of 46 rfl
theorem hy_X2_happen : yX2_happen.cls ≠ "java/lang/invoke/MethodHandle" ∧ yX2_happen.cls ≠ "java/lang/invoke/VarHandle" ∧ (parseMethodDescriptor yX2_happen.desc).map (fun d => d.parameters.length) = some 1 := by decide +kernel
theorem hyV_X2_happen : yX2_happen.cls = RX2 ∧ yX2_happen.cls ≠ "java/lang/invoke/MethodHandle" ∧ yX2_happen.cls ≠ "java/lang/invoke/VarHandle" ∧ (parseMethodDescriptor yX2_happen.desc).map (fun d => d.parameters.length) = some 1 := ⟨rfl, hy_X2_happen⟩
set_option maxHeartbeats 8000000 in
set_option maxRecDepth 100000 in
theorem c_X2_happen (l : Launch) (G : va_G) (cI cZ cQ cU cJ : ClassId) (o : Nat) (ad : Nat → Nat) (I : OI) (R : RI) (cm : Option Nat) (AL : List Nat) (AI : Nat → OI) (AR : Nat → OO) (x1 : Nat) (out : RI) (hf : f_X2_happen AL I cm AI AR R x1 = some out) : Con l yX2_happen wsX2_happen rmX2_happen G vwCl (tys cI cZ cQ cU cJ) nws [.ref o, .ref x1] (pf [lW cI cZ o ad I R cm, pW AL AI AR]) (none) (pf [lW cI cZ o ad I out cm, pW AL AI AR]) := by
  refine con_of (rv := fun out : RI => none) (Wd := fun out : RI => pf [lW cI cZ o ad I out cm, pW AL AI AR]) (maxL := 4) (own := RX2) rfl (plainFor_of_name (by decide +kernel)) rfl (Nat.le_of_ble_eq_true rfl) ?_ hf
  intro p e s m args below meth c A C hret hname
  unfold f_X2_happen
  refine VJ.aload_n C 0 dX2_happen_0 rfl ?_
  refine VJ.get (C0 := RX2) (T := TX2) (N := 13) (ci := 2) C in_X2_happen_X2 0 rfl rfl 0 (Nat.le_of_ble_eq_true rfl) (C.1.2.2.2.2 _ (List.mem_of_getElem? (i := 1) rfl)) (fun _ h9 => h9) (v := .ref (ad 0)) rfl dX2_happen_1 ?_
  refine VJ.aload_n C 1 dX2_happen_4 rfl ?_
  refine VJ.rom (fun h9 => ?_)
  obtain ⟨p1, ep1⟩ := pool_at (ps := [lW cI cZ o ad I R cm, pW AL AI AR]) (List.mem_of_getElem? (i := 1) rfl) h9
  refine VJ.getN (C0 := RX0) (T := TX0) (N := 10) (ci := 0) C in_X2_happen_X0 p1 ep1 rfl 3 (Nat.le_of_ble_eq_true rfl) (C.nest (List.mem_of_getElem? (i := 10) rfl) rfl) (fun _ h9 => h9) rfl dX2_happen_5 ?_
  refine VJ.atSN (q0 := 1) C rfl (c_X5_att l G cI cZ cQ cU cJ (ad 0) 24 (Nat.le_of_ble_eq_true rfl) (R 0) (AI x1 3)) (⟨va_cnB 2 C.1.2.2.2.2 gX2_happen_X5_at_n116 rfl rfl rfl (C.nestM (List.mem_of_getElem? (i := 35) rfl)) (C.1.2.2.2.2 _ (List.mem_of_getElem? (i := 5) rfl)) hy_X5_at ⟨Nat.le_of_ble_eq_true rfl, Nat.le_of_ble_eq_true rfl⟩, (C.1.2.2.2.2 _ (List.mem_of_getElem? (i := 4) rfl)), trivial⟩) rfl (Nat.le_of_ble_eq_true rfl) dX2_happen_8 ⟨Nat.le_of_ble_eq_true rfl, Nat.le_of_ble_eq_true rfl⟩ ⟨rfl, rfl⟩ ?_
  refine VJ.topi C (fun v2 => ?_)
  refine VJ.istore_n C [(2, .int v2), (0, .ref o), (1, .ref x1)] dX2_happen_11 (Nat.le_of_ble_eq_true rfl) rfl ?_
  refine VJ.aload_n C 1 dX2_happen_12 rfl ?_
  refine VJ.get (C0 := RX2) (T := TX2) (N := 13) (ci := 2) C in_X2_happen_X2 0 rfl rfl 0 (Nat.le_of_ble_eq_true rfl) (C.1.2.2.2.2 _ (List.mem_of_getElem? (i := 1) rfl)) (fun _ h9 => h9) (v := .ref (ad 0)) rfl dX2_happen_13 ?_
  refine VJ.aload_n C 2 dX2_happen_16 rfl ?_
  refine VJ.rom (fun h9 => ?_)
  obtain ⟨p3, ep3⟩ := pool_at (ps := [lW cI cZ o ad I R cm, pW AL AI AR]) (List.mem_of_getElem? (i := 1) rfl) h9
  refine VJ.getN (C0 := RX0) (T := TX0) (N := 10) (ci := 0) C in_X2_happen_X0 p3 ep3 rfl 4 (Nat.le_of_ble_eq_true rfl) (C.nest (List.mem_of_getElem? (i := 12) rfl) rfl) (fun _ h9 => h9) rfl dX2_happen_17 ?_
  refine VJ.atSN (q0 := 1) C rfl (c_X5_att l G cI cZ cQ cU cJ (ad 0) 24 (Nat.le_of_ble_eq_true rfl) (R 0) (AI x1 4)) (⟨va_cnB 2 C.1.2.2.2.2 gX2_happen_X5_at_n116 rfl rfl rfl (C.nestM (List.mem_of_getElem? (i := 35) rfl)) (C.1.2.2.2.2 _ (List.mem_of_getElem? (i := 5) rfl)) hy_X5_at ⟨Nat.le_of_ble_eq_true rfl, Nat.le_of_ble_eq_true rfl⟩, (C.1.2.2.2.2 _ (List.mem_of_getElem? (i := 4) rfl)), trivial⟩) rfl (Nat.le_of_ble_eq_true rfl) dX2_happen_20 ⟨Nat.le_of_ble_eq_true rfl, Nat.le_of_ble_eq_true rfl⟩ ⟨rfl, rfl⟩ ?_
  refine VJ.topi C (fun v4 => ?_)
  refine VJ.istore_n C [(3, .int v4), (2, .int v2), (0, .ref o), (1, .ref x1)] dX2_happen_23 (Nat.le_of_ble_eq_true rfl) rfl ?_
  refine VJ.aload_n C 3 dX2_happen_24 rfl ?_
  refine VJ.rom (fun h9 => ?_)
  obtain ⟨p5, ep5⟩ := pool_at (ps := [lW cI cZ o ad I R cm, pW AL AI AR]) (List.mem_of_getElem? (i := 1) rfl) h9
  refine VJ.getN (C0 := RX0) (T := TX0) (N := 10) (ci := 0) C in_X2_happen_X0 p5 ep5 rfl 0 (Nat.le_of_ble_eq_true rfl) (C.nest (List.mem_of_getElem? (i := 4) rfl) rfl) (fun _ h9 => h9) rfl dX2_happen_25 ?_
  refine VJ.case 0 (fun e9 => ?_) (fun n0 => ?_)
  · refine VJ.tabin C 72 dX2_happen_28 e9 (by decide) (by decide) rfl (by decide) ?_
    refine VJ.aload_n C 2 dX2_happen_72 rfl ?_
    refine VJ.iload_n C 1 dX2_happen_73 rfl ?_
    refine VJ.iload_n C 0 dX2_happen_74 rfl ?_
    refine VJ.aload_n C 3 dX2_happen_75 rfl ?_
    refine VJ.callV1 C [.int v2, .int v4, .ref x1] (pf [lW cI cZ o ad I R cm, pW AL AI AR]) ([]) (fun R6 => none) (fun R6 => pf [lW cI cZ o ad I R6 cm, pW AL AI AR]) (fun R6 => pf [lW cI cZ o ad I R6 cm, pW AL AI AR]) (fun R6 => []) 0 0 (fun _ h9 => c_X2_beBorn l G cI cZ cQ cU cJ o ad I R cm AL AI AR v2 v4 x1 _ h9) (vj_p0 _) (fun _ => vj_p0' _) 0 rfl rfl (cwV 3 C.1.2.2.2.2 gX2_happen_X2_beBorn rfl rfl rfl hyV_X2_beBorn ⟨Nat.le_of_ble_eq_true rfl, Nat.le_of_ble_eq_true rfl⟩) rfl rfl (fun _ => rfl) (Nat.le_of_ble_eq_true rfl) dX2_happen_76 ⟨Nat.le_of_ble_eq_true rfl, Nat.le_of_ble_eq_true rfl⟩ ⟨rfl, rfl⟩ (fun R6 => ?_)
    refine VJ.goto C 163 dX2_happen_79 (by decide) ?_
    exact VJ.vret C hret rfl rfl dX2_happen_163
  refine VJ.case 1 (fun e9 => ?_) (fun n1 => ?_)
  · refine VJ.tabin C 82 dX2_happen_28 e9 (by decide) (by decide) rfl (by decide) ?_
    refine VJ.aload_n C 2 dX2_happen_82 rfl ?_
    refine VJ.iload_n C 1 dX2_happen_83 rfl ?_
    refine VJ.callV1 C [.int v2] (pf [lW cI cZ o ad I R cm]) (pf [pW AL AI AR]) (fun r7 => some (.int r7)) (fun r7 => pf [lW cI cZ o ad I R cm]) (fun r7 => pf [lW cI cZ o ad I R cm, pW AL AI AR]) (fun r7 => [.int r7]) 0 0 (fun _ h9 => c_X2_isLiving l G cI cZ cQ cU cJ o ad I R cm v2 _ h9) (vj_pf 2 [0, 1] rfl rfl dp_0_1) (fun _ => (vj_pf 2 [0, 1] rfl rfl dp_0_1).symm) 0 rfl rfl (cwV 1 C.1.2.2.2.2 gX2_happen_X2_isLiving rfl rfl rfl hyV_X2_isLiving ⟨Nat.le_of_ble_eq_true rfl, Nat.le_of_ble_eq_true rfl⟩) rfl rfl (fun _ => rfl) (Nat.le_of_ble_eq_true rfl) dX2_happen_84 ⟨Nat.le_of_ble_eq_true rfl, Nat.le_of_ble_eq_true rfl⟩ ⟨rfl, rfl⟩ (fun r7 => ?_)
    refine VJ.if_eq C 163 dX2_happen_87 (by decide) (fun _ => ?_) (fun _ => ?_)
    · exact VJ.vret C hret rfl rfl dX2_happen_163
    · refine VJ.aload_n C 2 dX2_happen_90 rfl ?_
      refine VJ.get (C0 := RX2) (T := TX2) (N := 13) (ci := 2) C in_X2_happen_X2 0 rfl rfl 2 (Nat.le_of_ble_eq_true rfl) (C.1.2.2.2.2 _ (List.mem_of_getElem? (i := 2) rfl)) (fun _ h9 => h9) (v := .ref (ad 2)) rfl dX2_happen_91 ?_
      refine VJ.iload_n C 1 dX2_happen_94 rfl ?_
      refine VJ.aload_n C 3 dX2_happen_95 rfl ?_
      refine VJ.rom (fun h9 => ?_)
      obtain ⟨p8, ep8⟩ := pool_at (ps := [lW cI cZ o ad I R cm, pW AL AI AR]) (List.mem_of_getElem? (i := 1) rfl) h9
      refine VJ.getN (C0 := RX0) (T := TX0) (N := 10) (ci := 0) C in_X2_happen_X0 p8 ep8 rfl 5 (Nat.le_of_ble_eq_true rfl) (C.nest (List.mem_of_getElem? (i := 14) rfl) rfl) (fun _ h9 => h9) rfl dX2_happen_96 ?_
      refine VJ.putSN (q0 := 3) C R 2 (fun R9 => pf [lW cI cZ o ad I R9 cm, pW AL AI AR]) rfl (fun _ => rfl) (c_X5_putt l G cI cZ cQ cU cJ (ad 2) 24 (Nat.le_of_ble_eq_true rfl) (R 2) v2 (AI x1 5)) (⟨va_cnB 3 C.1.2.2.2.2 gX2_happen_X5_put_n112 rfl rfl rfl (C.nestM (List.mem_of_getElem? (i := 34) rfl)) (C.1.2.2.2.2 _ (List.mem_of_getElem? (i := 5) rfl)) hy_X5_put ⟨Nat.le_of_ble_eq_true rfl, Nat.le_of_ble_eq_true rfl⟩, (C.1.2.2.2.2 _ (List.mem_of_getElem? (i := 20) rfl)), trivial⟩) rfl (Nat.le_of_ble_eq_true rfl) dX2_happen_99 ⟨Nat.le_of_ble_eq_true rfl, Nat.le_of_ble_eq_true rfl⟩ ⟨rfl, rfl⟩ (fun R9 => ?_)
      refine VJ.goto C 163 dX2_happen_102 (by decide) ?_
      exact VJ.vret C hret rfl rfl dX2_happen_163
  refine VJ.case 2 (fun e9 => ?_) (fun n2 => ?_)
  · refine VJ.tabin C 105 dX2_happen_28 e9 (by decide) (by decide) rfl (by decide) ?_
    refine VJ.aload_n C 2 dX2_happen_105 rfl ?_
    refine VJ.iload_n C 1 dX2_happen_106 rfl ?_
    refine VJ.callV1 C [.int v2] (pf [lW cI cZ o ad I R cm]) (pf [pW AL AI AR]) (fun r10 => some (.int r10)) (fun r10 => pf [lW cI cZ o ad I R cm]) (fun r10 => pf [lW cI cZ o ad I R cm, pW AL AI AR]) (fun r10 => [.int r10]) 0 0 (fun _ h9 => c_X2_isLiving l G cI cZ cQ cU cJ o ad I R cm v2 _ h9) (vj_pf 2 [0, 1] rfl rfl dp_0_1) (fun _ => (vj_pf 2 [0, 1] rfl rfl dp_0_1).symm) 0 rfl rfl (cwV 1 C.1.2.2.2.2 gX2_happen_X2_isLiving rfl rfl rfl hyV_X2_isLiving ⟨Nat.le_of_ble_eq_true rfl, Nat.le_of_ble_eq_true rfl⟩) rfl rfl (fun _ => rfl) (Nat.le_of_ble_eq_true rfl) dX2_happen_107 ⟨Nat.le_of_ble_eq_true rfl, Nat.le_of_ble_eq_true rfl⟩ ⟨rfl, rfl⟩ (fun r10 => ?_)
    refine VJ.if_eq C 163 dX2_happen_110 (by decide) (fun _ => ?_) (fun _ => ?_)
    · exact VJ.vret C hret rfl rfl dX2_happen_163
    · refine VJ.aload_n C 2 dX2_happen_113 rfl ?_
      refine VJ.get (C0 := RX2) (T := TX2) (N := 13) (ci := 2) C in_X2_happen_X2 0 rfl rfl 3 (Nat.le_of_ble_eq_true rfl) (C.1.2.2.2.2 _ (List.mem_of_getElem? (i := 3) rfl)) (fun _ h9 => h9) (v := .ref (ad 3)) rfl dX2_happen_114 ?_
      refine VJ.iload_n C 1 dX2_happen_117 rfl ?_
      refine VJ.aload_n C 3 dX2_happen_118 rfl ?_
      refine VJ.rom (fun h9 => ?_)
      obtain ⟨p11, ep11⟩ := pool_at (ps := [lW cI cZ o ad I R cm, pW AL AI AR]) (List.mem_of_getElem? (i := 1) rfl) h9
      refine VJ.getN (C0 := RX0) (T := TX0) (N := 10) (ci := 0) C in_X2_happen_X0 p11 ep11 rfl 6 (Nat.le_of_ble_eq_true rfl) (C.nest (List.mem_of_getElem? (i := 16) rfl) rfl) (fun _ h9 => h9) rfl dX2_happen_119 ?_
      refine VJ.putSN (q0 := 4) C R 3 (fun R12 => pf [lW cI cZ o ad I R12 cm, pW AL AI AR]) rfl (fun _ => rfl) (c_X5_putt l G cI cZ cQ cU cJ (ad 3) 24 (Nat.le_of_ble_eq_true rfl) (R 3) v2 (AI x1 6)) (⟨va_cnB 3 C.1.2.2.2.2 gX2_happen_X5_put_n112 rfl rfl rfl (C.nestM (List.mem_of_getElem? (i := 34) rfl)) (C.1.2.2.2.2 _ (List.mem_of_getElem? (i := 5) rfl)) hy_X5_put ⟨Nat.le_of_ble_eq_true rfl, Nat.le_of_ble_eq_true rfl⟩, (C.1.2.2.2.2 _ (List.mem_of_getElem? (i := 20) rfl)), trivial⟩) rfl (Nat.le_of_ble_eq_true rfl) dX2_happen_122 ⟨Nat.le_of_ble_eq_true rfl, Nat.le_of_ble_eq_true rfl⟩ ⟨rfl, rfl⟩ (fun R12 => ?_)
      refine VJ.goto C 163 dX2_happen_125 (by decide) ?_
      exact VJ.vret C hret rfl rfl dX2_happen_163
  refine VJ.case 3 (fun e9 => ?_) (fun n3 => ?_)
  · refine VJ.tabin C 128 dX2_happen_28 e9 (by decide) (by decide) rfl (by decide) ?_
    refine VJ.aload_n C 2 dX2_happen_128 rfl ?_
    refine VJ.iload_n C 1 dX2_happen_129 rfl ?_
    refine VJ.iload_n C 0 dX2_happen_130 rfl ?_
    refine VJ.callV1 C [.int v2, .int v4] (pf [lW cI cZ o ad I R cm]) (pf [pW AL AI AR]) (fun R13 => none) (fun R13 => pf [lW cI cZ o ad I R13 cm]) (fun R13 => pf [lW cI cZ o ad I R13 cm, pW AL AI AR]) (fun R13 => []) 0 0 (fun _ h9 => c_X2_bond l G cI cZ cQ cU cJ o ad I R cm v2 v4 _ h9) (vj_pf 2 [0, 1] rfl rfl dp_0_1) (fun _ => (vj_pf 2 [0, 1] rfl rfl dp_0_1).symm) 0 rfl rfl (cwV 2 C.1.2.2.2.2 gX2_happen_X2_bond rfl rfl rfl hyV_X2_bond ⟨Nat.le_of_ble_eq_true rfl, Nat.le_of_ble_eq_true rfl⟩) rfl rfl (fun _ => rfl) (Nat.le_of_ble_eq_true rfl) dX2_happen_131 ⟨Nat.le_of_ble_eq_true rfl, Nat.le_of_ble_eq_true rfl⟩ ⟨rfl, rfl⟩ (fun R13 => ?_)
    refine VJ.goto C 163 dX2_happen_134 (by decide) ?_
    exact VJ.vret C hret rfl rfl dX2_happen_163
  refine VJ.case 4 (fun e9 => ?_) (fun n4 => ?_)
  · refine VJ.tabin C 137 dX2_happen_28 e9 (by decide) (by decide) rfl (by decide) ?_
    refine VJ.aload_n C 2 dX2_happen_137 rfl ?_
    refine VJ.iload_n C 1 dX2_happen_138 rfl ?_
    refine VJ.iload_n C 0 dX2_happen_139 rfl ?_
    refine VJ.callV1 C [.int v2, .int v4] (pf [lW cI cZ o ad I R cm]) (pf [pW AL AI AR]) (fun R14 => none) (fun R14 => pf [lW cI cZ o ad I R14 cm]) (fun R14 => pf [lW cI cZ o ad I R14 cm, pW AL AI AR]) (fun R14 => []) 0 0 (fun _ h9 => c_X2_part l G cI cZ cQ cU cJ o ad I R cm v2 v4 _ h9) (vj_pf 2 [0, 1] rfl rfl dp_0_1) (fun _ => (vj_pf 2 [0, 1] rfl rfl dp_0_1).symm) 0 rfl rfl (cwV 2 C.1.2.2.2.2 gX2_happen_X2_part rfl rfl rfl hyV_X2_part ⟨Nat.le_of_ble_eq_true rfl, Nat.le_of_ble_eq_true rfl⟩) rfl rfl (fun _ => rfl) (Nat.le_of_ble_eq_true rfl) dX2_happen_140 ⟨Nat.le_of_ble_eq_true rfl, Nat.le_of_ble_eq_true rfl⟩ ⟨rfl, rfl⟩ (fun R14 => ?_)
    refine VJ.goto C 163 dX2_happen_143 (by decide) ?_
    exact VJ.vret C hret rfl rfl dX2_happen_163
  refine VJ.case 5 (fun e9 => ?_) (fun n5 => ?_)
  · refine VJ.tabin C 146 dX2_happen_28 e9 (by decide) (by decide) rfl (by decide) ?_
    refine VJ.aload_n C 2 dX2_happen_146 rfl ?_
    refine VJ.iload_n C 1 dX2_happen_147 rfl ?_
    refine VJ.callV1 C [.int v2] (pf [lW cI cZ o ad I R cm]) (pf [pW AL AI AR]) (fun R15 => none) (fun R15 => pf [lW cI cZ o ad I R15 cm]) (fun R15 => pf [lW cI cZ o ad I R15 cm, pW AL AI AR]) (fun R15 => []) 0 0 (fun _ h9 => c_X2_die l G cI cZ cQ cU cJ o ad I R cm v2 _ h9) (vj_pf 2 [0, 1] rfl rfl dp_0_1) (fun _ => (vj_pf 2 [0, 1] rfl rfl dp_0_1).symm) 0 rfl rfl (cwV 1 C.1.2.2.2.2 gX2_happen_X2_die rfl rfl rfl hyV_X2_die ⟨Nat.le_of_ble_eq_true rfl, Nat.le_of_ble_eq_true rfl⟩) rfl rfl (fun _ => rfl) (Nat.le_of_ble_eq_true rfl) dX2_happen_148 ⟨Nat.le_of_ble_eq_true rfl, Nat.le_of_ble_eq_true rfl⟩ ⟨rfl, rfl⟩ (fun R15 => ?_)
    refine VJ.goto C 163 dX2_happen_151 (by decide) ?_
    exact VJ.vret C hret rfl rfl dX2_happen_163
  refine VJ.case 6 (fun e9 => ?_) (fun n6 => ?_)
  · refine VJ.tabin C 154 dX2_happen_28 e9 (by decide) (by decide) rfl (by decide) ?_
    refine VJ.aload_n C 2 dX2_happen_154 rfl ?_
    refine VJ.iload_n C 1 dX2_happen_155 rfl ?_
    refine VJ.iload_n C 0 dX2_happen_156 rfl ?_
    refine VJ.callV1 C [.int v2, .int v4] (pf [lW cI cZ o ad I R cm]) (pf [pW AL AI AR]) (fun R16 => none) (fun R16 => pf [lW cI cZ o ad I R16 cm]) (fun R16 => pf [lW cI cZ o ad I R16 cm, pW AL AI AR]) (fun R16 => []) 0 0 (fun _ h9 => c_X2_adopt l G cI cZ cQ cU cJ o ad I R cm v2 v4 _ h9) (vj_pf 2 [0, 1] rfl rfl dp_0_1) (fun _ => (vj_pf 2 [0, 1] rfl rfl dp_0_1).symm) 0 rfl rfl (cwV 2 C.1.2.2.2.2 gX2_happen_X2_adopt rfl rfl rfl hyV_X2_adopt ⟨Nat.le_of_ble_eq_true rfl, Nat.le_of_ble_eq_true rfl⟩) rfl rfl (fun _ => rfl) (Nat.le_of_ble_eq_true rfl) dX2_happen_157 ⟨Nat.le_of_ble_eq_true rfl, Nat.le_of_ble_eq_true rfl⟩ ⟨rfl, rfl⟩ (fun R16 => ?_)
    refine VJ.goto C 163 dX2_happen_160 (by decide) ?_
    exact VJ.vret C hret rfl rfl dX2_happen_163
  refine VJ.tabout C 163 dX2_happen_28 (vj_out0_7 n0 n1 n2 n3 n4 n5 n6) (by decide) ?_
  exact VJ.vret C hret rfl rfl dX2_happen_163

set_option maxHeartbeats 4000000 in
set_option maxRecDepth 100000 in
def f_X2_goOn_j46 (N : Nat) (AL : List Nat) (AI : Nat → OI) (AR : Nat → OO) (I : OI) (R : RI) (cm : Option Nat) (x2 : Option Nat) : Option (OI × RI × Option Nat) :=
  some (I, R, x2)
set_option maxHeartbeats 4000000 in
set_option maxRecDepth 100000 in
def f_X2_goOn_l10b (N : Nat) (AL : List Nat) (AI : Nat → OI) (AR : Nat → OO) (k10 : OI → RI → Option Nat → Int32 → Option Nat → Option (OI × RI × Option Nat)) (I : OI) (R : RI) (cm : Option Nat) (x1 : Int32) (x2 : Option Nat) : Option (OI × RI × Option Nat) :=
  oc x2 (f_X2_goOn_j46 N AL AI AR I R cm none) (fun a2 => om a2 AL (if x1 < (AI a2 2) then (f_X2_goOn_j46 N AL AI AR I R cm (some a2)) else (om a2 AL (ob1 (f_X0_isKnownOn AL AI AR a2 (I 1)) (fun r4 => if r4 = 0 then (om a2 AL (ol (AR a2 1) (fun q7 => k10 I R cm x1 q7))) else (ob1 (f_X2_happen AL I cm AI AR R a2) (fun R8 => om a2 AL (ol (AR a2 1) (fun q10 => k10 I R8 cm x1 q10)))))))))
set_option maxHeartbeats 4000000 in
set_option maxRecDepth 100000 in
def f_X2_goOn_l10 (N : Nat) (AL : List Nat) (AI : Nat → OI) (AR : Nat → OO) : Nat → OI → RI → Option Nat → Int32 → Option Nat → Option (OI × RI × Option Nat)
  | 0 => fun _ _ _ _ _ => none
  | n9 + 1 => f_X2_goOn_l10b N AL AI AR (f_X2_goOn_l10 N AL AI AR n9)
def f_X2_goOn (N : Nat) (AL : List Nat) (AI : Nat → OI) (AR : Nat → OO) (I : OI) (R : RI) (cm : Option Nat) (x1 : Int32) : Option (OI × RI × Option Nat) :=
  ol (va_up I 0 x1) (fun I1 => f_X2_goOn_l10 N AL AI AR N I1 R cm x1 cm)
abbrev rmX2_goOn : Room := { frames := 4, cells := 0, slots := 0, locals := 88 }
theorem in_X2_goOn_X0 : ∀ w ∈ u_ws RX0 TX0 10, w ∈ wsX2_goOn := in_of 72 rfl
theorem in_X2_goOn_X2 : ∀ w ∈ u_ws RX2 TX2 13, w ∈ wsX2_goOn := in_of 59 rfl
theorem hy_X2_goOn : yX2_goOn.cls ≠ "java/lang/invoke/MethodHandle" ∧ yX2_goOn.cls ≠ "java/lang/invoke/VarHandle" ∧ (parseMethodDescriptor yX2_goOn.desc).map (fun d => d.parameters.length) = some 1 := by decide +kernel
theorem hyV_X2_goOn : yX2_goOn.cls = RX2 ∧ yX2_goOn.cls ≠ "java/lang/invoke/MethodHandle" ∧ yX2_goOn.cls ≠ "java/lang/invoke/VarHandle" ∧ (parseMethodDescriptor yX2_goOn.desc).map (fun d => d.parameters.length) = some 1 := ⟨rfl, hy_X2_goOn⟩
set_option maxHeartbeats 8000000 in
set_option maxRecDepth 100000 in
theorem c_X2_goOn (l : Launch) (G : va_G) (cI cZ cQ cU cJ : ClassId) (N : Nat) (o : Nat) (ad : Nat → Nat) (I : OI) (R : RI) (cm : Option Nat) (AL : List Nat) (AI : Nat → OI) (AR : Nat → OO) (x1 : Int32) (out : OI × RI × Option Nat) (hf : f_X2_goOn N AL AI AR I R cm x1 = some out) : Con l yX2_goOn wsX2_goOn rmX2_goOn G vwCl (tys cI cZ cQ cU cJ) nws [.ref o, .int x1] (pf [lW cI cZ o ad I R cm, pW AL AI AR]) (none) (pf [lW cI cZ o ad out.1 out.2.1 out.2.2, pW AL AI AR]) := by
  refine con_of (rv := fun out : OI × RI × Option Nat => none) (Wd := fun out : OI × RI × Option Nat => pf [lW cI cZ o ad out.1 out.2.1 out.2.2, pW AL AI AR]) (maxL := 3) (own := RX2) rfl (plainFor_of_name (by decide +kernel)) rfl (Nat.le_of_ble_eq_true rfl) ?_ hf
  intro p e s m args below meth c A C hret hname
  have j46 : ∀ (I : OI) (R : RI) (cm : Option Nat) (x2 : Option Nat), VJ p l e rmX2_goOn s m args below meth c 3 G vwCl A (QR below G vwCl A args s rmX2_goOn.cells rmX2_goOn.slots (fun out : OI × RI × Option Nat => none) (fun out : OI × RI × Option Nat => pf [lW cI cZ o ad out.1 out.2.1 out.2.2, pW AL AI AR])) 0 0 (f_X2_goOn_j46 N AL AI AR  I R cm x2) (pf [lW cI cZ o ad I R cm, pW AL AI AR]) 46 [(0, .ref o), (2, va_rf x2)] [] := by
    intro  I R cm x2
    unfold f_X2_goOn_j46
    refine VJ.aload_n C 0 dX2_goOn_46 rfl ?_
    refine VJ.aload_nq C 1 dX2_goOn_47 rfl ?_
    refine VJ.put (C0 := RX2) (T := TX2) (N := 13) (ci := 2) C in_X2_goOn_X2 0 rfl rfl 12 (Nat.le_of_ble_eq_true rfl) (C.1.2.2.2.2 _ (List.mem_of_getElem? (i := 2) rfl)) (fun _ h9 => h9) (pf [lW cI cZ o ad I R x2, pW AL AI AR]) tyX2 tyX2_ok nmX2 rfl (fty := .object "Residentroll$Act") rfl (vj_nq _ x2) (vj_fq _ x2) (Nat.le_of_ble_eq_true rfl) rfl dX2_goOn_48 ?_
    exact VJ.vret C hret rfl rfl dX2_goOn_51
  have j10 : ∀ (n9 : Nat) (I : OI) (R : RI) (cm : Option Nat) (x1 : Int32) (x2 : Option Nat), VJ p l e rmX2_goOn s m args below meth c 3 G vwCl A (QR below G vwCl A args s rmX2_goOn.cells rmX2_goOn.slots (fun out : OI × RI × Option Nat => none) (fun out : OI × RI × Option Nat => pf [lW cI cZ o ad out.1 out.2.1 out.2.2, pW AL AI AR])) 0 0 (f_X2_goOn_l10 N AL AI AR  n9 I R cm x1 x2) (pf [lW cI cZ o ad I R cm, pW AL AI AR]) 10 [(0, .ref o), (1, .int x1), (2, va_rf x2)] [] := by
    intro  n9
    induction n9 with
    | zero => intro I R cm x1 x2; exact VJ.fnone rfl
    | succ n9 i10 =>
      intro I R cm x1 x2
      refine VJ.eqf (f' := f_X2_goOn_l10b N AL AI AR  (f_X2_goOn_l10 N AL AI AR  n9) I R cm x1 x2) rfl ?_
      generalize f_X2_goOn_l10 N AL AI AR  n9 = k10 at i10 ⊢
      unfold f_X2_goOn_l10b
      refine VJ.aload_nq C 2 dX2_goOn_10 rfl ?_
      refine VJ.ifnull C 46 dX2_goOn_11 (by decide) (fun e9 => ?_) (fun a2 e9 => ?_)
      · subst e9
        refine VJ.sub [0, 2] rfl ?_
        exact j46 I R cm none
      · subst e9
        refine VJ.aload_n C 2 dX2_goOn_14 rfl ?_
        refine VJ.rom (fun h9 => ?_)
        obtain ⟨p3, ep3⟩ := pool_at (ps := [lW cI cZ o ad I R cm, pW AL AI AR]) (List.mem_of_getElem? (i := 1) rfl) h9
        refine VJ.getN (C0 := RX0) (T := TX0) (N := 10) (ci := 0) C in_X2_goOn_X0 p3 ep3 rfl 2 (Nat.le_of_ble_eq_true rfl) (C.nest (List.mem_of_getElem? (i := 8) rfl) rfl) (fun _ h9 => h9) rfl dX2_goOn_15 ?_
        refine VJ.iload_n C 1 dX2_goOn_18 rfl ?_
        refine VJ.icmp_gt C 46 dX2_goOn_19 (by decide) (fun _ => ?_) (fun _ => ?_)
        · refine VJ.sub [0, 2] rfl ?_
          exact j46 I R cm (some a2)
        · refine VJ.aload_n C 2 dX2_goOn_22 rfl ?_
          refine VJ.aload_n C 0 dX2_goOn_23 rfl ?_
          refine VJ.get (C0 := RX2) (T := TX2) (N := 13) (ci := 2) C in_X2_goOn_X2 0 rfl rfl 11 (Nat.le_of_ble_eq_true rfl) (C.1.2.2.2.2 _ (List.mem_of_getElem? (i := 3) rfl)) (fun _ h9 => h9) (v := .int (I 1)) rfl dX2_goOn_24 ?_
          refine VJ.rom (fun h9 => ?_)
          obtain ⟨p5, ep5⟩ := pool_at (ps := [pW AL AI AR]) (List.mem_of_getElem? (i := 0) rfl) h9
          refine VJ.callVN1 C [.int (I 1)] (pf [pW AL AI AR]) (pf [lW cI cZ o ad I R cm]) (fun r4 => some (.int r4)) (fun r4 => pf [pW AL AI AR]) (fun r4 => pf [lW cI cZ o ad I R cm, pW AL AI AR]) (fun r4 => [.int r4]) 0 0 (fun _ h9 => c_X0_isKnownOn l G cI cZ cQ cU cJ AL AI AR a2 (I 1) _ h9) (vj_pf 2 [1, 0] rfl rfl dp_1_0) (fun _ => (vj_pf 2 [1, 0] rfl rfl dp_1_0).symm) p5 ep5 rfl (⟨va_cnB 1 C.1.2.2.2.2 gX2_goOn_X0_isKnownOn_n79 rfl rfl rfl (C.nestM (List.mem_of_getElem? (i := 33) rfl)) (C.1.2.2.2.2 _ (List.mem_of_getElem? (i := 5) rfl)) hy_X0_isKnownOn ⟨Nat.le_of_ble_eq_true rfl, Nat.le_of_ble_eq_true rfl⟩, (C.1.2.2.2.2 _ (List.mem_of_getElem? (i := 4) rfl)), (C.1.2.2.2.2 _ (List.mem_of_getElem? (i := 6) rfl))⟩) rfl rfl (fun _ => rfl) (Nat.le_of_ble_eq_true rfl) dX2_goOn_27 ⟨Nat.le_of_ble_eq_true rfl, Nat.le_of_ble_eq_true rfl⟩ ⟨rfl, rfl⟩ (fun r4 => ?_)
          refine VJ.if_eq C 38 dX2_goOn_30 (by decide) (fun _ => ?_) (fun _ => ?_)
          · refine VJ.aload_n C 2 dX2_goOn_38 rfl ?_
            refine VJ.rom (fun h9 => ?_)
            obtain ⟨p6, ep6⟩ := pool_at (ps := [lW cI cZ o ad I R cm, pW AL AI AR]) (List.mem_of_getElem? (i := 1) rfl) h9
            refine VJ.getN (C0 := RX0) (T := TX0) (N := 10) (ci := 0) C in_X2_goOn_X0 p6 ep6 rfl 9 (Nat.le_of_ble_eq_true rfl) (C.nest (List.mem_of_getElem? (i := 21) rfl) rfl) (fun _ h9 => h9) rfl dX2_goOn_39 ?_
            refine VJ.topq C (fun q7 => ?_)
            refine VJ.astore_nq C [(2, va_rf q7), (0, .ref o), (1, .int x1)] dX2_goOn_42 (Nat.le_of_ble_eq_true rfl) rfl ?_
            refine VJ.goto C 10 dX2_goOn_43 (by decide) ?_
            refine VJ.sub [1, 2, 0] rfl ?_
            exact i10 I R cm x1 q7
          · refine VJ.aload_n C 0 dX2_goOn_33 rfl ?_
            refine VJ.aload_n C 2 dX2_goOn_34 rfl ?_
            refine VJ.callV1 C [.ref a2] (pf [lW cI cZ o ad I R cm, pW AL AI AR]) ([]) (fun R8 => none) (fun R8 => pf [lW cI cZ o ad I R8 cm, pW AL AI AR]) (fun R8 => pf [lW cI cZ o ad I R8 cm, pW AL AI AR]) (fun R8 => []) 0 0 (fun _ h9 => c_X2_happen l G cI cZ cQ cU cJ o ad I R cm AL AI AR a2 _ h9) (vj_p0 _) (fun _ => vj_p0' _) 0 rfl rfl (cwV 1 C.1.2.2.2.2 gX2_goOn_X2_happen rfl rfl rfl hyV_X2_happen ⟨Nat.le_of_ble_eq_true rfl, Nat.le_of_ble_eq_true rfl⟩) rfl rfl (fun _ => rfl) (Nat.le_of_ble_eq_true rfl) dX2_goOn_35 ⟨Nat.le_of_ble_eq_true rfl, Nat.le_of_ble_eq_true rfl⟩ ⟨rfl, rfl⟩ (fun R8 => ?_)
            refine VJ.aload_n C 2 dX2_goOn_38 rfl ?_
            refine VJ.rom (fun h9 => ?_)
            obtain ⟨p9, ep9⟩ := pool_at (ps := [lW cI cZ o ad I R8 cm, pW AL AI AR]) (List.mem_of_getElem? (i := 1) rfl) h9
            refine VJ.getN (C0 := RX0) (T := TX0) (N := 10) (ci := 0) C in_X2_goOn_X0 p9 ep9 rfl 9 (Nat.le_of_ble_eq_true rfl) (C.nest (List.mem_of_getElem? (i := 21) rfl) rfl) (fun _ h9 => h9) rfl dX2_goOn_39 ?_
            refine VJ.topq C (fun q10 => ?_)
            refine VJ.astore_nq C [(2, va_rf q10), (0, .ref o), (1, .int x1)] dX2_goOn_42 (Nat.le_of_ble_eq_true rfl) rfl ?_
            refine VJ.goto C 10 dX2_goOn_43 (by decide) ?_
            refine VJ.sub [1, 2, 0] rfl ?_
            exact i10 I R8 cm x1 q10
  unfold f_X2_goOn
  refine VJ.aload_n C 0 dX2_goOn_0 rfl ?_
  refine VJ.iload_n C 1 dX2_goOn_1 rfl ?_
  refine VJ.putI (C0 := RX2) (T := TX2) (N := 13) (ci := 2) C in_X2_goOn_X2 0 rfl rfl 10 (Nat.le_of_ble_eq_true rfl) (C.1.2.2.2.2 _ (List.mem_of_getElem? (i := 1) rfl)) (fun _ h9 => h9) (Ii := I) (jj := 0) (fun I1 => pf [lW cI cZ o ad I1 R cm, pW AL AI AR]) tyX2 tyX2_ok nmX2 rfl rfl (Nat.le_of_ble_eq_true rfl) (fun _ => rfl) dX2_goOn_2 (fun I1 => ?_)
  refine VJ.aload_n C 0 dX2_goOn_5 rfl ?_
  refine VJ.get (C0 := RX2) (T := TX2) (N := 13) (ci := 2) C in_X2_goOn_X2 0 rfl rfl 12 (Nat.le_of_ble_eq_true rfl) (C.1.2.2.2.2 _ (List.mem_of_getElem? (i := 2) rfl)) (fun _ h9 => h9) (v := va_rf cm) rfl dX2_goOn_6 ?_
  refine VJ.astore_nq C [(2, va_rf cm), (0, .ref o), (1, .int x1)] dX2_goOn_9 (Nat.le_of_ble_eq_true rfl) rfl ?_
  refine VJ.sub [1, 2, 0] rfl ?_
  exact j10 N I1 R cm x1 cm

def f_X2_begin (N : Nat) (AL : List Nat) (ta : Int32) (ea : Option Nat) (wa : OO) (AI : Nat → OI) (AR : Nat → OO) (I : OI) (R : RI) (cm : Option Nat) (x2 : Int32) : Option (OI × RI × Option Nat) :=
  ol (va_up I 1 x2) (fun I1 => ol (va_up I1 0 0) (fun I2 => ob1 (f_X2_forget N I2 ea R) (fun R3 => ob1 (f_X2_joinDoubles N AL I2 ea ta ea wa AI AR R3) (fun R4 => some (I2, R4, ea)))))
abbrev rmX2_begin : Room := { frames := 2, cells := 0, slots := 0, locals := 45 }
theorem in_X2_begin_X1 : ∀ w ∈ u_ws RX1 TX1 3, w ∈ wsX2_begin := in_of 55 rfl
theorem in_X2_begin_X2 : ∀ w ∈ u_ws RX2 TX2 13, w ∈ wsX2_begin := in_of 42 rfl
theorem hy_X2_begin : yX2_begin.cls ≠ "java/lang/invoke/MethodHandle" ∧ yX2_begin.cls ≠ "java/lang/invoke/VarHandle" ∧ (parseMethodDescriptor yX2_begin.desc).map (fun d => d.parameters.length) = some 2 := by decide +kernel
theorem hyV_X2_begin : yX2_begin.cls = RX2 ∧ yX2_begin.cls ≠ "java/lang/invoke/MethodHandle" ∧ yX2_begin.cls ≠ "java/lang/invoke/VarHandle" ∧ (parseMethodDescriptor yX2_begin.desc).map (fun d => d.parameters.length) = some 2 := ⟨rfl, hy_X2_begin⟩
set_option maxHeartbeats 8000000 in
set_option maxRecDepth 100000 in
theorem c_X2_begin (l : Launch) (G : va_G) (cI cZ cQ cU cJ : ClassId) (N : Nat) (o : Nat) (ad : Nat → Nat) (I : OI) (R : RI) (cm : Option Nat) (oa : Nat) (ra : Nat) (ta : Int32) (ea : Option Nat) (wa : OO) (AL : List Nat) (AI : Nat → OI) (AR : Nat → OO) (x2 : Int32) (out : OI × RI × Option Nat) (hf : f_X2_begin N AL ta ea wa AI AR I R cm x2 = some out) : Con l yX2_begin wsX2_begin rmX2_begin G vwCl (tys cI cZ cQ cU cJ) nws [.ref o, .ref oa, .int x2] (pf [lW cI cZ o ad I R cm, aW cQ oa ra ta ea wa, pW AL AI AR]) (none) (pf [lW cI cZ o ad out.1 out.2.1 out.2.2, aW cQ oa ra ta ea wa, pW AL AI AR]) := by
  refine con_of (rv := fun out : OI × RI × Option Nat => none) (Wd := fun out : OI × RI × Option Nat => pf [lW cI cZ o ad out.1 out.2.1 out.2.2, aW cQ oa ra ta ea wa, pW AL AI AR]) (maxL := 3) (own := RX2) rfl (plainFor_of_name (by decide +kernel)) rfl (Nat.le_of_ble_eq_true rfl) ?_ hf
  intro p e s m args below meth c A C hret hname
  unfold f_X2_begin
  refine VJ.aload_n C 0 dX2_begin_0 rfl ?_
  refine VJ.iload_n C 2 dX2_begin_1 rfl ?_
  refine VJ.putI (C0 := RX2) (T := TX2) (N := 13) (ci := 2) C in_X2_begin_X2 0 rfl rfl 11 (Nat.le_of_ble_eq_true rfl) (C.1.2.2.2.2 _ (List.mem_of_getElem? (i := 1) rfl)) (fun _ h9 => h9) (Ii := I) (jj := 1) (fun I1 => pf [lW cI cZ o ad I1 R cm, aW cQ oa ra ta ea wa, pW AL AI AR]) tyX2 tyX2_ok nmX2 rfl rfl (Nat.le_of_ble_eq_true rfl) (fun _ => rfl) dX2_begin_2 (fun I1 => ?_)
  refine VJ.aload_n C 0 dX2_begin_5 rfl ?_
  refine VJ.iconst (v := 0) C dX2_begin_6 (by decide) ?_
  refine VJ.putI (C0 := RX2) (T := TX2) (N := 13) (ci := 2) C in_X2_begin_X2 0 rfl rfl 10 (Nat.le_of_ble_eq_true rfl) (C.1.2.2.2.2 _ (List.mem_of_getElem? (i := 2) rfl)) (fun _ h9 => h9) (Ii := I1) (jj := 0) (fun I2 => pf [lW cI cZ o ad I2 R cm, aW cQ oa ra ta ea wa, pW AL AI AR]) tyX2 tyX2_ok nmX2 rfl rfl (Nat.le_of_ble_eq_true rfl) (fun _ => rfl) dX2_begin_7 (fun I2 => ?_)
  refine VJ.aload_n C 0 dX2_begin_10 rfl ?_
  refine VJ.aload_n C 1 dX2_begin_11 rfl ?_
  refine VJ.getN (C0 := RX1) (T := TX1) (N := 3) (ci := 1) C in_X2_begin_X1 11 rfl rfl 2 (Nat.le_of_ble_eq_true rfl) (C.nest (List.mem_of_getElem? (i := 2) rfl) rfl) (fun _ h9 => h9) (v := va_rf ea) rfl dX2_begin_12 ?_
  refine VJ.put (C0 := RX2) (T := TX2) (N := 13) (ci := 2) C in_X2_begin_X2 0 rfl rfl 12 (Nat.le_of_ble_eq_true rfl) (C.1.2.2.2.2 _ (List.mem_of_getElem? (i := 3) rfl)) (fun _ h9 => h9) (pf [lW cI cZ o ad I2 R ea, aW cQ oa ra ta ea wa, pW AL AI AR]) tyX2 tyX2_ok nmX2 rfl (fty := .object "Residentroll$Act") rfl (vj_nq _ ea) (vj_fq _ ea) (Nat.le_of_ble_eq_true rfl) rfl dX2_begin_15 ?_
  refine VJ.aload_n C 0 dX2_begin_18 rfl ?_
  refine VJ.callV1 C [] (pf [lW cI cZ o ad I2 R ea]) (pf [aW cQ oa ra ta ea wa, pW AL AI AR]) (fun R3 => none) (fun R3 => pf [lW cI cZ o ad I2 R3 ea]) (fun R3 => pf [lW cI cZ o ad I2 R3 ea, aW cQ oa ra ta ea wa, pW AL AI AR]) (fun R3 => []) 0 0 (fun _ h9 => c_X2_forget l G cI cZ cQ cU cJ N o ad I2 R ea _ h9) (vj_pf 3 [0, 1, 2] rfl rfl dp_0_1_2) (fun _ => (vj_pf 3 [0, 1, 2] rfl rfl dp_0_1_2).symm) 0 rfl rfl (cwV 0 C.1.2.2.2.2 gX2_begin_X2_forget rfl rfl rfl hyV_X2_forget ⟨Nat.le_of_ble_eq_true rfl, Nat.le_of_ble_eq_true rfl⟩) rfl rfl (fun _ => rfl) (Nat.le_of_ble_eq_true rfl) dX2_begin_19 ⟨Nat.le_of_ble_eq_true rfl, Nat.le_of_ble_eq_true rfl⟩ ⟨rfl, rfl⟩ (fun R3 => ?_)
  refine VJ.aload_n C 0 dX2_begin_22 rfl ?_
  refine VJ.aload_n C 1 dX2_begin_23 rfl ?_
  refine VJ.callV1 C [.ref oa] (pf [lW cI cZ o ad I2 R3 ea, aW cQ oa ra ta ea wa, pW AL AI AR]) ([]) (fun R4 => none) (fun R4 => pf [lW cI cZ o ad I2 R4 ea, aW cQ oa ra ta ea wa, pW AL AI AR]) (fun R4 => pf [lW cI cZ o ad I2 R4 ea, aW cQ oa ra ta ea wa, pW AL AI AR]) (fun R4 => []) 0 0 (fun _ h9 => c_X2_joinDoubles l G cI cZ cQ cU cJ N o ad I2 R3 ea oa ra ta ea wa AL AI AR _ h9) (vj_p0 _) (fun _ => vj_p0' _) 0 rfl rfl (cwV 1 C.1.2.2.2.2 gX2_begin_X2_joinDoubles rfl rfl rfl hyV_X2_joinDoubles ⟨Nat.le_of_ble_eq_true rfl, Nat.le_of_ble_eq_true rfl⟩) rfl rfl (fun _ => rfl) (Nat.le_of_ble_eq_true rfl) dX2_begin_24 ⟨Nat.le_of_ble_eq_true rfl, Nat.le_of_ble_eq_true rfl⟩ ⟨rfl, rfl⟩ (fun R4 => ?_)
  exact VJ.vret C hret rfl rfl dX2_begin_27

def f_X2_find (N : Nat) (AL : List Nat) (ta : Int32) (ea : Option Nat) (wa : OO) (AI : Nat → OI) (AR : Nat → OO) (I : OI) (R : RI) (cm : Option Nat) (x2 : Int32) (x3 : Int32) : Option (OI × RI × Option Nat) :=
  ob3 (f_X2_begin N AL ta ea wa AI AR I R cm x3) (fun I1 R2 cm3 => ob3 (f_X2_goOn N AL AI AR I1 R2 cm3 x2) (fun I4 R5 cm6 => some (I4, R5, cm6)))
abbrev rmX2_find : Room := { frames := 5, cells := 0, slots := 0, locals := 110 }
theorem hy_X2_find : yX2_find.cls ≠ "java/lang/invoke/MethodHandle" ∧ yX2_find.cls ≠ "java/lang/invoke/VarHandle" ∧ (parseMethodDescriptor yX2_find.desc).map (fun d => d.parameters.length) = some 3 := by decide +kernel
theorem hyV_X2_find : yX2_find.cls = RX2 ∧ yX2_find.cls ≠ "java/lang/invoke/MethodHandle" ∧ yX2_find.cls ≠ "java/lang/invoke/VarHandle" ∧ (parseMethodDescriptor yX2_find.desc).map (fun d => d.parameters.length) = some 3 := ⟨rfl, hy_X2_find⟩
set_option maxHeartbeats 8000000 in
set_option maxRecDepth 100000 in
theorem c_X2_find (l : Launch) (G : va_G) (cI cZ cQ cU cJ : ClassId) (N : Nat) (o : Nat) (ad : Nat → Nat) (I : OI) (R : RI) (cm : Option Nat) (oa : Nat) (ra : Nat) (ta : Int32) (ea : Option Nat) (wa : OO) (AL : List Nat) (AI : Nat → OI) (AR : Nat → OO) (x2 : Int32) (x3 : Int32) (out : OI × RI × Option Nat) (hf : f_X2_find N AL ta ea wa AI AR I R cm x2 x3 = some out) : Con l yX2_find wsX2_find rmX2_find G vwCl (tys cI cZ cQ cU cJ) nws [.ref o, .ref oa, .int x2, .int x3] (pf [lW cI cZ o ad I R cm, aW cQ oa ra ta ea wa, pW AL AI AR]) (none) (pf [lW cI cZ o ad out.1 out.2.1 out.2.2, aW cQ oa ra ta ea wa, pW AL AI AR]) := by
  refine con_of (rv := fun out : OI × RI × Option Nat => none) (Wd := fun out : OI × RI × Option Nat => pf [lW cI cZ o ad out.1 out.2.1 out.2.2, aW cQ oa ra ta ea wa, pW AL AI AR]) (maxL := 4) (own := RX2) rfl (plainFor_of_name (by decide +kernel)) rfl (Nat.le_of_ble_eq_true rfl) ?_ hf
  intro p e s m args below meth c A C hret hname
  unfold f_X2_find
  refine VJ.aload_n C 0 dX2_find_0 rfl ?_
  refine VJ.aload_n C 1 dX2_find_1 rfl ?_
  refine VJ.iload_n C 3 dX2_find_2 rfl ?_
  refine VJ.callV3 C [.ref oa, .int x3] (pf [lW cI cZ o ad I R cm, aW cQ oa ra ta ea wa, pW AL AI AR]) ([]) (fun I1 R2 cm3 => none) (fun I1 R2 cm3 => pf [lW cI cZ o ad I1 R2 cm3, aW cQ oa ra ta ea wa, pW AL AI AR]) (fun I1 R2 cm3 => pf [lW cI cZ o ad I1 R2 cm3, aW cQ oa ra ta ea wa, pW AL AI AR]) (fun I1 R2 cm3 => []) 0 0 (fun _ h9 => c_X2_begin l G cI cZ cQ cU cJ N o ad I R cm oa ra ta ea wa AL AI AR x3 _ h9) (vj_p0 _) (fun _ _ _ => vj_p0' _) 0 rfl rfl (cwV 2 C.1.2.2.2.2 gX2_find_X2_begin rfl rfl rfl hyV_X2_begin ⟨Nat.le_of_ble_eq_true rfl, Nat.le_of_ble_eq_true rfl⟩) rfl rfl (fun _ _ _ => rfl) (Nat.le_of_ble_eq_true rfl) dX2_find_3 ⟨Nat.le_of_ble_eq_true rfl, Nat.le_of_ble_eq_true rfl⟩ ⟨rfl, rfl⟩ (fun I1 R2 cm3 => ?_)
  refine VJ.aload_n C 0 dX2_find_6 rfl ?_
  refine VJ.iload_n C 2 dX2_find_7 rfl ?_
  refine VJ.callV3 C [.int x2] (pf [lW cI cZ o ad I1 R2 cm3, pW AL AI AR]) (pf [aW cQ oa ra ta ea wa]) (fun I4 R5 cm6 => none) (fun I4 R5 cm6 => pf [lW cI cZ o ad I4 R5 cm6, pW AL AI AR]) (fun I4 R5 cm6 => pf [lW cI cZ o ad I4 R5 cm6, aW cQ oa ra ta ea wa, pW AL AI AR]) (fun I4 R5 cm6 => []) 0 0 (fun _ h9 => c_X2_goOn l G cI cZ cQ cU cJ N o ad I1 R2 cm3 AL AI AR x2 _ h9) (vj_pf 3 [0, 2, 1] rfl rfl dp_0_2_1) (fun _ _ _ => (vj_pf 3 [0, 2, 1] rfl rfl dp_0_2_1).symm) 0 rfl rfl (cwV 1 C.1.2.2.2.2 gX2_find_X2_goOn rfl rfl rfl hyV_X2_goOn ⟨Nat.le_of_ble_eq_true rfl, Nat.le_of_ble_eq_true rfl⟩) rfl rfl (fun _ _ _ => rfl) (Nat.le_of_ble_eq_true rfl) dX2_find_8 ⟨Nat.le_of_ble_eq_true rfl, Nat.le_of_ble_eq_true rfl⟩ ⟨rfl, rfl⟩ (fun I4 R5 cm6 => ?_)
  exact VJ.vret C hret rfl rfl dX2_find_11

