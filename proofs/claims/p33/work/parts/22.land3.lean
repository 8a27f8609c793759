

set_option maxHeartbeats 4000000 in
set_option maxRecDepth 100000 in
def f_X2_uniteHouseholds_l44b (N : Nat) (I : OI) (cm : Option Nat) (k44 : RI → Int32 → Int32 → Int32 → Option RI) (R : RI) (x3 : Int32) (x4 : Int32) (x5 : Int32) : Option RI :=
  if 24 ≤ x5 then (some R) else (og x5 24 (if (R 9 x5.toNatClampNeg) = x4 then (og x5 24 (ol (va_up R 9 (upd (R 9) x5.toNatClampNeg x3)) (fun R4 => ol (x5 + Int32.ofInt 1) (fun v5 => k44 R4 x3 x4 v5)))) else (ol (x5 + Int32.ofInt 1) (fun v3 => k44 R x3 x4 v3))))
set_option maxHeartbeats 4000000 in
set_option maxRecDepth 100000 in
def f_X2_uniteHouseholds_l44 (N : Nat) (I : OI) (cm : Option Nat) : Nat → RI → Int32 → Int32 → Int32 → Option RI
  | 0 => fun _ _ _ _ => none
  | n9 + 1 => f_X2_uniteHouseholds_l44b N I cm (f_X2_uniteHouseholds_l44 N I cm n9)
def f_X2_uniteHouseholds (N : Nat) (I : OI) (cm : Option Nat) (R : RI) (x1 : Int32) (x2 : Int32) : Option RI :=
  ol (if (atv 24 (R 9) x2) < (atv 24 (R 9) x1) then (atv 24 (R 9) x2) else (atv 24 (R 9) x1)) (fun v1 => ol (if (atv 24 (R 9) x1) < (atv 24 (R 9) x2) then (atv 24 (R 9) x2) else (atv 24 (R 9) x1)) (fun v2 => f_X2_uniteHouseholds_l44 N I cm N R v1 v2 0))
abbrev rmX2_uniteHouseholds : Room := { frames := 1, cells := 0, slots := 0, locals := 21 }
theorem in_X2_uniteHouseholds_X2 : ∀ w ∈ u_ws RX2 TX2 13, w ∈ wsX2_uniteHouseholds := in_of 12 rfl
theorem hy_X2_uniteHouseholds : yX2_uniteHouseholds.cls ≠ "java/lang/invoke/MethodHandle" ∧ yX2_uniteHouseholds.cls ≠ "java/lang/invoke/VarHandle" ∧ (parseMethodDescriptor yX2_uniteHouseholds.desc).map (fun d => d.parameters.length) = some 2 := by decide +kernel
theorem hyV_X2_uniteHouseholds : yX2_uniteHouseholds.cls = RX2 ∧ yX2_uniteHouseholds.cls ≠ "java/lang/invoke/MethodHandle" ∧ yX2_uniteHouseholds.cls ≠ "java/lang/invoke/VarHandle" ∧ (parseMethodDescriptor yX2_uniteHouseholds.desc).map (fun d => d.parameters.length) = some 2 := ⟨rfl, hy_X2_uniteHouseholds⟩
set_option maxHeartbeats 8000000 in
set_option maxRecDepth 100000 in
theorem c_X2_uniteHouseholds (l : Launch) (G : va_G) (cI cZ cQ cU cJ : ClassId) (N : Nat) (o : Nat) (ad : Nat → Nat) (I : OI) (R : RI) (cm : Option Nat) (x1 : Int32) (x2 : Int32) (out : RI) (hf : f_X2_uniteHouseholds N I cm R x1 x2 = some out) : Con l yX2_uniteHouseholds wsX2_uniteHouseholds rmX2_uniteHouseholds G vwCl (tys cI cZ cQ cU cJ) nws [.ref o, .int x1, .int x2] (pf [lW cI cZ o ad I R cm]) (none) (pf [lW cI cZ o ad I out cm]) := by
  refine con_of (rv := fun out : RI => none) (Wd := fun out : RI => pf [lW cI cZ o ad I out cm]) (maxL := 6) (own := RX2) rfl (plainFor_of_name (by decide +kernel)) rfl (Nat.le_of_ble_eq_true rfl) ?_ hf
  intro p e s m args below meth c A C hret hname
  have j44 : ∀ (n9 : Nat) (R : RI) (x3 : Int32) (x4 : Int32) (x5 : Int32), VJ p l e rmX2_uniteHouseholds s m args below meth c 6 G vwCl A (QR below G vwCl A args s rmX2_uniteHouseholds.cells rmX2_uniteHouseholds.slots (fun out : RI => none) (fun out : RI => pf [lW cI cZ o ad I out cm])) 0 0 (f_X2_uniteHouseholds_l44 N I cm  n9 R x3 x4 x5) (pf [lW cI cZ o ad I R cm]) 44 [(0, .ref o), (3, .int x3), (4, .int x4), (5, .int x5)] [] := by
    intro  n9
    induction n9 with
    | zero => intro R x3 x4 x5; exact VJ.fnone rfl
    | succ n9 i44 =>
      intro R x3 x4 x5
      refine VJ.eqf (f' := f_X2_uniteHouseholds_l44b N I cm  (f_X2_uniteHouseholds_l44 N I cm  n9) R x3 x4 x5) rfl ?_
      generalize f_X2_uniteHouseholds_l44 N I cm  n9 = k44 at i44 ⊢
      unfold f_X2_uniteHouseholds_l44b
      refine VJ.iload C 3 dX2_uniteHouseholds_44 rfl ?_
      refine VJ.bipush (v := 24) C dX2_uniteHouseholds_46 (by decide) ?_
      refine VJ.icmp_ge C 77 dX2_uniteHouseholds_48 (by decide) (fun _ => ?_) (fun _ => ?_)
      · exact VJ.vret C hret rfl rfl dX2_uniteHouseholds_77
      · refine VJ.aload_n C 0 dX2_uniteHouseholds_51 rfl ?_
        refine VJ.get (C0 := RX2) (T := TX2) (N := 13) (ci := 2) C in_X2_uniteHouseholds_X2 0 rfl rfl 9 (Nat.le_of_ble_eq_true rfl) (C.1.2.2.2.2 _ (List.mem_of_getElem? (i := 1) rfl)) (fun _ h9 => h9) (v := .ref (ad 9)) rfl dX2_uniteHouseholds_52 ?_
        refine VJ.iload C 3 dX2_uniteHouseholds_55 rfl ?_
        refine VJ.iald C 10 0 rfl rfl dX2_uniteHouseholds_57 ?_
        refine VJ.iload C 2 dX2_uniteHouseholds_58 rfl ?_
        refine VJ.icmp_ne C 71 dX2_uniteHouseholds_60 (by decide) (fun _ => ?_) (fun _ => ?_)
        · refine VJ.iincN C 3 (fun v3 => [(5, .int v3), (0, .ref o), (3, .int x3), (4, .int x4)]) dX2_uniteHouseholds_71 rfl (Nat.le_of_ble_eq_true rfl) (fun _ => rfl) (fun v3 => ?_)
          refine VJ.goto C 44 dX2_uniteHouseholds_74 (by decide) ?_
          refine VJ.sub [1, 2, 3, 0] rfl ?_
          exact i44 R x3 x4 v3
        · refine VJ.aload_n C 0 dX2_uniteHouseholds_63 rfl ?_
          refine VJ.get (C0 := RX2) (T := TX2) (N := 13) (ci := 2) C in_X2_uniteHouseholds_X2 0 rfl rfl 9 (Nat.le_of_ble_eq_true rfl) (C.1.2.2.2.2 _ (List.mem_of_getElem? (i := 1) rfl)) (fun _ h9 => h9) (v := .ref (ad 9)) rfl dX2_uniteHouseholds_64 ?_
          refine VJ.iload C 3 dX2_uniteHouseholds_67 rfl ?_
          refine VJ.iload_n C 1 dX2_uniteHouseholds_69 rfl ?_
          refine VJ.iastR C 10 0 R 9 (fun R4 => pf [lW cI cZ o ad I R4 cm]) rfl rfl (fun _ => rfl) dX2_uniteHouseholds_70 (fun R4 => ?_)
          refine VJ.iincN C 3 (fun v5 => [(5, .int v5), (0, .ref o), (3, .int x3), (4, .int x4)]) dX2_uniteHouseholds_71 rfl (Nat.le_of_ble_eq_true rfl) (fun _ => rfl) (fun v5 => ?_)
          refine VJ.goto C 44 dX2_uniteHouseholds_74 (by decide) ?_
          refine VJ.sub [1, 2, 3, 0] rfl ?_
          exact i44 R4 x3 x4 v5
  unfold f_X2_uniteHouseholds
  refine VJ.aload_n C 0 dX2_uniteHouseholds_0 rfl ?_
  refine VJ.get (C0 := RX2) (T := TX2) (N := 13) (ci := 2) C in_X2_uniteHouseholds_X2 0 rfl rfl 9 (Nat.le_of_ble_eq_true rfl) (C.1.2.2.2.2 _ (List.mem_of_getElem? (i := 1) rfl)) (fun _ h9 => h9) (v := .ref (ad 9)) rfl dX2_uniteHouseholds_1 ?_
  refine VJ.iload_n C 1 dX2_uniteHouseholds_4 rfl ?_
  refine VJ.atSN (q0 := 10) C rfl (c_X5_att l G cI cZ cQ cU cJ (ad 9) 24 (Nat.le_of_ble_eq_true rfl) (R 9) x1) (⟨va_cnB 2 C.1.2.2.2.2 gX2_uniteHouseholds_X5_at_n116 rfl rfl rfl (C.nestM (List.mem_of_getElem? (i := 35) rfl)) (C.1.2.2.2.2 _ (List.mem_of_getElem? (i := 10) rfl)) hy_X5_at ⟨Nat.le_of_ble_eq_true rfl, Nat.le_of_ble_eq_true rfl⟩, (C.1.2.2.2.2 _ (List.mem_of_getElem? (i := 9) rfl)), trivial⟩) rfl (Nat.le_of_ble_eq_true rfl) dX2_uniteHouseholds_5 ⟨Nat.le_of_ble_eq_true rfl, Nat.le_of_ble_eq_true rfl⟩ ⟨rfl, rfl⟩ ?_
  refine VJ.aload_n C 0 dX2_uniteHouseholds_8 rfl ?_
  refine VJ.get (C0 := RX2) (T := TX2) (N := 13) (ci := 2) C in_X2_uniteHouseholds_X2 0 rfl rfl 9 (Nat.le_of_ble_eq_true rfl) (C.1.2.2.2.2 _ (List.mem_of_getElem? (i := 1) rfl)) (fun _ h9 => h9) (v := .ref (ad 9)) rfl dX2_uniteHouseholds_9 ?_
  refine VJ.iload_n C 2 dX2_uniteHouseholds_12 rfl ?_
  refine VJ.atSN (q0 := 10) C rfl (c_X5_att l G cI cZ cQ cU cJ (ad 9) 24 (Nat.le_of_ble_eq_true rfl) (R 9) x2) (⟨va_cnB 2 C.1.2.2.2.2 gX2_uniteHouseholds_X5_at_n116 rfl rfl rfl (C.nestM (List.mem_of_getElem? (i := 35) rfl)) (C.1.2.2.2.2 _ (List.mem_of_getElem? (i := 10) rfl)) hy_X5_at ⟨Nat.le_of_ble_eq_true rfl, Nat.le_of_ble_eq_true rfl⟩, (C.1.2.2.2.2 _ (List.mem_of_getElem? (i := 9) rfl)), trivial⟩) rfl (Nat.le_of_ble_eq_true rfl) dX2_uniteHouseholds_13 ⟨Nat.le_of_ble_eq_true rfl, Nat.le_of_ble_eq_true rfl⟩ ⟨rfl, rfl⟩ ?_
  refine VJ.mmin C (C.1.2.2.2.2 _ (List.mem_of_getElem? (i := 2) rfl)) (C.1.2.2.2.2 _ (List.mem_of_getElem? (i := 3) rfl)) (C.1.2.2.2.2 _ (List.mem_of_getElem? (i := 4) rfl)) (C.1.2.2.2.2 _ (List.mem_of_getElem? (i := 5) rfl)) (Nat.le_of_ble_eq_true rfl) (Nat.le_of_ble_eq_true rfl) (Nat.zero_le _) (Nat.zero_le _) dX2_uniteHouseholds_16 ?_
  refine VJ.topi C (fun v1 => ?_)
  refine VJ.istore_n C [(3, .int v1), (0, .ref o), (1, .int x1), (2, .int x2)] dX2_uniteHouseholds_19 (Nat.le_of_ble_eq_true rfl) rfl ?_
  refine VJ.aload_n C 1 dX2_uniteHouseholds_20 rfl ?_
  refine VJ.get (C0 := RX2) (T := TX2) (N := 13) (ci := 2) C in_X2_uniteHouseholds_X2 0 rfl rfl 9 (Nat.le_of_ble_eq_true rfl) (C.1.2.2.2.2 _ (List.mem_of_getElem? (i := 1) rfl)) (fun _ h9 => h9) (v := .ref (ad 9)) rfl dX2_uniteHouseholds_21 ?_
  refine VJ.iload_n C 2 dX2_uniteHouseholds_24 rfl ?_
  refine VJ.atSN (q0 := 10) C rfl (c_X5_att l G cI cZ cQ cU cJ (ad 9) 24 (Nat.le_of_ble_eq_true rfl) (R 9) x1) (⟨va_cnB 2 C.1.2.2.2.2 gX2_uniteHouseholds_X5_at_n116 rfl rfl rfl (C.nestM (List.mem_of_getElem? (i := 35) rfl)) (C.1.2.2.2.2 _ (List.mem_of_getElem? (i := 10) rfl)) hy_X5_at ⟨Nat.le_of_ble_eq_true rfl, Nat.le_of_ble_eq_true rfl⟩, (C.1.2.2.2.2 _ (List.mem_of_getElem? (i := 9) rfl)), trivial⟩) rfl (Nat.le_of_ble_eq_true rfl) dX2_uniteHouseholds_25 ⟨Nat.le_of_ble_eq_true rfl, Nat.le_of_ble_eq_true rfl⟩ ⟨rfl, rfl⟩ ?_
  refine VJ.aload_n C 1 dX2_uniteHouseholds_28 rfl ?_
  refine VJ.get (C0 := RX2) (T := TX2) (N := 13) (ci := 2) C in_X2_uniteHouseholds_X2 0 rfl rfl 9 (Nat.le_of_ble_eq_true rfl) (C.1.2.2.2.2 _ (List.mem_of_getElem? (i := 1) rfl)) (fun _ h9 => h9) (v := .ref (ad 9)) rfl dX2_uniteHouseholds_29 ?_
  refine VJ.iload_n C 3 dX2_uniteHouseholds_32 rfl ?_
  refine VJ.atSN (q0 := 10) C rfl (c_X5_att l G cI cZ cQ cU cJ (ad 9) 24 (Nat.le_of_ble_eq_true rfl) (R 9) x2) (⟨va_cnB 2 C.1.2.2.2.2 gX2_uniteHouseholds_X5_at_n116 rfl rfl rfl (C.nestM (List.mem_of_getElem? (i := 35) rfl)) (C.1.2.2.2.2 _ (List.mem_of_getElem? (i := 10) rfl)) hy_X5_at ⟨Nat.le_of_ble_eq_true rfl, Nat.le_of_ble_eq_true rfl⟩, (C.1.2.2.2.2 _ (List.mem_of_getElem? (i := 9) rfl)), trivial⟩) rfl (Nat.le_of_ble_eq_true rfl) dX2_uniteHouseholds_33 ⟨Nat.le_of_ble_eq_true rfl, Nat.le_of_ble_eq_true rfl⟩ ⟨rfl, rfl⟩ ?_
  refine VJ.mmax C (C.1.2.2.2.2 _ (List.mem_of_getElem? (i := 6) rfl)) (C.1.2.2.2.2 _ (List.mem_of_getElem? (i := 7) rfl)) (C.1.2.2.2.2 _ (List.mem_of_getElem? (i := 4) rfl)) (C.1.2.2.2.2 _ (List.mem_of_getElem? (i := 8) rfl)) (Nat.le_of_ble_eq_true rfl) (Nat.le_of_ble_eq_true rfl) (Nat.zero_le _) (Nat.zero_le _) dX2_uniteHouseholds_36 ?_
  refine VJ.topi C (fun v2 => ?_)
  refine VJ.istore C [(4, .int v2), (3, .int v1), (0, .ref o), (1, .int x1), (2, .int x2)] dX2_uniteHouseholds_39 (Nat.le_of_ble_eq_true rfl) rfl ?_
  refine VJ.iconst (v := 0) C dX2_uniteHouseholds_41 (by decide) ?_
  refine VJ.istore C [(5, .int 0), (4, .int v2), (3, .int v1), (0, .ref o), (1, .int x1), (2, .int x2)] dX2_uniteHouseholds_42 (Nat.le_of_ble_eq_true rfl) rfl ?_
  refine VJ.sub [3, 2, 1, 0] rfl ?_
  exact j44 N R v1 v2 0

def f_X2_isChildAtHome (I : OI) (R : RI) (cm : Option Nat) (x1 : Int32) : Option Int32 :=
  ob1 (f_X2_areInOneDwelling I R cm x1 (atv 24 (R 5) x1)) (fun r1 => if r1 = 0 then (some 0) else (if (atv 24 (R 4) x1) = (-1) then (ob1 (f_X2_ageOf I R cm x1) (fun r2 => if 18 ≤ r2 then (some 0) else (some 1))) else (some 0)))
abbrev rmX2_isChildAtHome : Room := { frames := 2, cells := 0, slots := 0, locals := 43 }
theorem in_X2_isChildAtHome_X2 : ∀ w ∈ u_ws RX2 TX2 13, w ∈ wsX2_isChildAtHome := in_of 27 rfl
theorem hy_X2_isChildAtHome : yX2_isChildAtHome.cls ≠ "java/lang/invoke/MethodHandle" ∧ yX2_isChildAtHome.cls ≠ "java/lang/invoke/VarHandle" ∧ (parseMethodDescriptor yX2_isChildAtHome.desc).map (fun d => d.parameters.length) = some 1 := by decide +kernel
theorem hyV_X2_isChildAtHome : yX2_isChildAtHome.cls = RX2 ∧ yX2_isChildAtHome.cls ≠ "java/lang/invoke/MethodHandle" ∧ yX2_isChildAtHome.cls ≠ "java/lang/invoke/VarHandle" ∧ (parseMethodDescriptor yX2_isChildAtHome.desc).map (fun d => d.parameters.length) = some 1 := ⟨rfl, hy_X2_isChildAtHome⟩
set_option maxHeartbeats 8000000 in
set_option maxRecDepth 100000 in
theorem c_X2_isChildAtHome (l : Launch) (G : va_G) (cI cZ cQ cU cJ : ClassId) (o : Nat) (ad : Nat → Nat) (I : OI) (R : RI) (cm : Option Nat) (x1 : Int32) (out : Int32) (hf : f_X2_isChildAtHome I R cm x1 = some out) : Con l yX2_isChildAtHome wsX2_isChildAtHome rmX2_isChildAtHome G vwCl (tys cI cZ cQ cU cJ) nws [.ref o, .int x1] (pf [lW cI cZ o ad I R cm]) (some (.int out)) (pf [lW cI cZ o ad I R cm]) := by
  refine con_of (rv := fun out : Int32 => some (.int out)) (Wd := fun out : Int32 => pf [lW cI cZ o ad I R cm]) (maxL := 2) (own := RX2) rfl (plainFor_of_name (by decide +kernel)) rfl (Nat.le_of_ble_eq_true rfl) ?_ hf
  intro p e s m args below meth c A C hret hname
  unfold f_X2_isChildAtHome
  refine VJ.aload_n C 0 dX2_isChildAtHome_0 rfl ?_
  refine VJ.iload_n C 1 dX2_isChildAtHome_1 rfl ?_
  refine VJ.aload_n C 0 dX2_isChildAtHome_2 rfl ?_
  refine VJ.get (C0 := RX2) (T := TX2) (N := 13) (ci := 2) C in_X2_isChildAtHome_X2 0 rfl rfl 5 (Nat.le_of_ble_eq_true rfl) (C.1.2.2.2.2 _ (List.mem_of_getElem? (i := 1) rfl)) (fun _ h9 => h9) (v := .ref (ad 5)) rfl dX2_isChildAtHome_3 ?_
  refine VJ.iload_n C 1 dX2_isChildAtHome_6 rfl ?_
  refine VJ.atSN (q0 := 6) C rfl (c_X5_att l G cI cZ cQ cU cJ (ad 5) 24 (Nat.le_of_ble_eq_true rfl) (R 5) x1) (⟨va_cnB 2 C.1.2.2.2.2 gX2_isChildAtHome_X5_at_n116 rfl rfl rfl (C.nestM (List.mem_of_getElem? (i := 35) rfl)) (C.1.2.2.2.2 _ (List.mem_of_getElem? (i := 4) rfl)) hy_X5_at ⟨Nat.le_of_ble_eq_true rfl, Nat.le_of_ble_eq_true rfl⟩, (C.1.2.2.2.2 _ (List.mem_of_getElem? (i := 3) rfl)), trivial⟩) rfl (Nat.le_of_ble_eq_true rfl) dX2_isChildAtHome_7 ⟨Nat.le_of_ble_eq_true rfl, Nat.le_of_ble_eq_true rfl⟩ ⟨rfl, rfl⟩ ?_
  refine VJ.callV1 C [.int x1, .int (atv 24 (R 5) x1)] (pf [lW cI cZ o ad I R cm]) ([]) (fun r1 => some (.int r1)) (fun r1 => pf [lW cI cZ o ad I R cm]) (fun r1 => pf [lW cI cZ o ad I R cm]) (fun r1 => [.int r1]) 0 0 (fun _ h9 => c_X2_areInOneDwelling l G cI cZ cQ cU cJ o ad I R cm x1 (atv 24 (R 5) x1) _ h9) (vj_p0 _) (fun _ => vj_p0' _) 0 rfl rfl (cwV 2 C.1.2.2.2.2 gX2_isChildAtHome_X2_areInOneDwelling rfl rfl rfl hyV_X2_areInOneDwelling ⟨Nat.le_of_ble_eq_true rfl, Nat.le_of_ble_eq_true rfl⟩) rfl rfl (fun _ => rfl) (Nat.le_of_ble_eq_true rfl) dX2_isChildAtHome_10 ⟨Nat.le_of_ble_eq_true rfl, Nat.le_of_ble_eq_true rfl⟩ ⟨rfl, rfl⟩ (fun r1 => ?_)
  refine VJ.if_eq C 42 dX2_isChildAtHome_13 (by decide) (fun _ => ?_) (fun _ => ?_)
  · refine VJ.iconst (v := 0) C dX2_isChildAtHome_42 (by decide) ?_
    exact VJ.zret C rfl hret rfl rfl dX2_isChildAtHome_43
  · refine VJ.aload_n C 0 dX2_isChildAtHome_16 rfl ?_
    refine VJ.get (C0 := RX2) (T := TX2) (N := 13) (ci := 2) C in_X2_isChildAtHome_X2 0 rfl rfl 4 (Nat.le_of_ble_eq_true rfl) (C.1.2.2.2.2 _ (List.mem_of_getElem? (i := 2) rfl)) (fun _ h9 => h9) (v := .ref (ad 4)) rfl dX2_isChildAtHome_17 ?_
    refine VJ.iload_n C 1 dX2_isChildAtHome_20 rfl ?_
    refine VJ.atSN (q0 := 5) C rfl (c_X5_att l G cI cZ cQ cU cJ (ad 4) 24 (Nat.le_of_ble_eq_true rfl) (R 4) x1) (⟨va_cnB 2 C.1.2.2.2.2 gX2_isChildAtHome_X5_at_n116 rfl rfl rfl (C.nestM (List.mem_of_getElem? (i := 35) rfl)) (C.1.2.2.2.2 _ (List.mem_of_getElem? (i := 4) rfl)) hy_X5_at ⟨Nat.le_of_ble_eq_true rfl, Nat.le_of_ble_eq_true rfl⟩, (C.1.2.2.2.2 _ (List.mem_of_getElem? (i := 3) rfl)), trivial⟩) rfl (Nat.le_of_ble_eq_true rfl) dX2_isChildAtHome_21 ⟨Nat.le_of_ble_eq_true rfl, Nat.le_of_ble_eq_true rfl⟩ ⟨rfl, rfl⟩ ?_
    refine VJ.iconst (v := (-1)) C dX2_isChildAtHome_24 (by decide) ?_
    refine VJ.icmp_ne C 42 dX2_isChildAtHome_25 (by decide) (fun _ => ?_) (fun _ => ?_)
    · refine VJ.iconst (v := 0) C dX2_isChildAtHome_42 (by decide) ?_
      exact VJ.zret C rfl hret rfl rfl dX2_isChildAtHome_43
    · refine VJ.aload_n C 0 dX2_isChildAtHome_28 rfl ?_
      refine VJ.iload_n C 1 dX2_isChildAtHome_29 rfl ?_
      refine VJ.callV1 C [.int x1] (pf [lW cI cZ o ad I R cm]) ([]) (fun r2 => some (.int r2)) (fun r2 => pf [lW cI cZ o ad I R cm]) (fun r2 => pf [lW cI cZ o ad I R cm]) (fun r2 => [.int r2]) 0 0 (fun _ h9 => c_X2_ageOf l G cI cZ cQ cU cJ o ad I R cm x1 _ h9) (vj_p0 _) (fun _ => vj_p0' _) 0 rfl rfl (cwV 1 C.1.2.2.2.2 gX2_isChildAtHome_X2_ageOf rfl rfl rfl hyV_X2_ageOf ⟨Nat.le_of_ble_eq_true rfl, Nat.le_of_ble_eq_true rfl⟩) rfl rfl (fun _ => rfl) (Nat.le_of_ble_eq_true rfl) dX2_isChildAtHome_30 ⟨Nat.le_of_ble_eq_true rfl, Nat.le_of_ble_eq_true rfl⟩ ⟨rfl, rfl⟩ (fun r2 => ?_)
      refine VJ.bipush (v := 18) C dX2_isChildAtHome_33 (by decide) ?_
      refine VJ.icmp_ge C 42 dX2_isChildAtHome_35 (by decide) (fun _ => ?_) (fun _ => ?_)
      · refine VJ.iconst (v := 0) C dX2_isChildAtHome_42 (by decide) ?_
        exact VJ.zret C rfl hret rfl rfl dX2_isChildAtHome_43
      · refine VJ.iconst (v := 1) C dX2_isChildAtHome_38 (by decide) ?_
        refine VJ.goto C 43 dX2_isChildAtHome_39 (by decide) ?_
        exact VJ.zret C rfl hret rfl rfl dX2_isChildAtHome_43

set_option maxHeartbeats 4000000 in
set_option maxRecDepth 100000 in
def f_X2_findHouseholds_j54 (N : Nat) (I : OI) (cm : Option Nat) (k23 : RI → Int32 → Option RI) (R : RI) (x1 : Int32) : Option RI :=
  ob1 (f_X2_isChildAtHome I R cm x1) (fun r2 => if r2 = 0 then (ol (x1 + Int32.ofInt 1) (fun v3 => k23 R v3)) else (og x1 24 (ob1 (f_X2_uniteHouseholds N I cm R x1 (R 5 x1.toNatClampNeg)) (fun R4 => ol (x1 + Int32.ofInt 1) (fun v5 => k23 R4 v5)))))
set_option maxHeartbeats 4000000 in
set_option maxRecDepth 100000 in
def f_X2_findHouseholds_l23b (N : Nat) (I : OI) (cm : Option Nat) (k23 : RI → Int32 → Option RI) (R : RI) (x1 : Int32) : Option RI :=
  if 24 ≤ x1 then (some R) else (og x1 24 (ob1 (f_X2_areInOneDwelling I R cm x1 (R 4 x1.toNatClampNeg)) (fun r1 => if r1 = 0 then (f_X2_findHouseholds_j54 N I cm k23 R x1) else (og x1 24 (ob1 (f_X2_uniteHouseholds N I cm R x1 (R 4 x1.toNatClampNeg)) (fun R6 => f_X2_findHouseholds_j54 N I cm k23 R6 x1))))))
set_option maxHeartbeats 4000000 in
set_option maxRecDepth 100000 in
def f_X2_findHouseholds_l23 (N : Nat) (I : OI) (cm : Option Nat) : Nat → RI → Int32 → Option RI
  | 0 => fun _ _ => none
  | n9 + 1 => f_X2_findHouseholds_l23b N I cm (f_X2_findHouseholds_l23 N I cm n9)
set_option maxHeartbeats 4000000 in
set_option maxRecDepth 100000 in
def f_X2_findHouseholds_l2b (N : Nat) (I : OI) (cm : Option Nat) (k2 : RI → Int32 → Option RI) (R : RI) (x1 : Int32) : Option RI :=
  if 24 ≤ x1 then (f_X2_findHouseholds_l23 N I cm N R 0) else (og x1 24 (ol (va_up R 9 (upd (R 9) x1.toNatClampNeg x1)) (fun R7 => ol (x1 + Int32.ofInt 1) (fun v8 => k2 R7 v8))))
set_option maxHeartbeats 4000000 in
set_option maxRecDepth 100000 in
def f_X2_findHouseholds_l2 (N : Nat) (I : OI) (cm : Option Nat) : Nat → RI → Int32 → Option RI
  | 0 => fun _ _ => none
  | n9 + 1 => f_X2_findHouseholds_l2b N I cm (f_X2_findHouseholds_l2 N I cm n9)
def f_X2_findHouseholds (N : Nat) (I : OI) (cm : Option Nat) (R : RI) : Option RI :=
  f_X2_findHouseholds_l2 N I cm N R 0
abbrev rmX2_findHouseholds : Room := { frames := 3, cells := 0, slots := 0, locals := 64 }
theorem in_X2_findHouseholds_X2 : ∀ w ∈ u_ws RX2 TX2 13, w ∈ wsX2_findHouseholds := in_of 43 rfl
theorem hy_X2_findHouseholds : yX2_findHouseholds.cls ≠ "java/lang/invoke/MethodHandle" ∧ yX2_findHouseholds.cls ≠ "java/lang/invoke/VarHandle" ∧ (parseMethodDescriptor yX2_findHouseholds.desc).map (fun d => d.parameters.length) = some 0 := by decide +kernel
theorem hyV_X2_findHouseholds : yX2_findHouseholds.cls = RX2 ∧ yX2_findHouseholds.cls ≠ "java/lang/invoke/MethodHandle" ∧ yX2_findHouseholds.cls ≠ "java/lang/invoke/VarHandle" ∧ (parseMethodDescriptor yX2_findHouseholds.desc).map (fun d => d.parameters.length) = some 0 := ⟨rfl, hy_X2_findHouseholds⟩
set_option maxHeartbeats 8000000 in
set_option maxRecDepth 100000 in
theorem c_X2_findHouseholds (l : Launch) (G : va_G) (cI cZ cQ cU cJ : ClassId) (N : Nat) (o : Nat) (ad : Nat → Nat) (I : OI) (R : RI) (cm : Option Nat) (out : RI) (hf : f_X2_findHouseholds N I cm R = some out) : Con l yX2_findHouseholds wsX2_findHouseholds rmX2_findHouseholds G vwCl (tys cI cZ cQ cU cJ) nws [.ref o] (pf [lW cI cZ o ad I R cm]) (none) (pf [lW cI cZ o ad I out cm]) := by
  refine con_of (rv := fun out : RI => none) (Wd := fun out : RI => pf [lW cI cZ o ad I out cm]) (maxL := 2) (own := RX2) rfl (plainFor_of_name (by decide +kernel)) rfl (Nat.le_of_ble_eq_true rfl) ?_ hf
  intro p e s m args below meth c A C hret hname
  have j54 : ∀ (k23 : RI → Int32 → Option RI) (i23 : ∀ (R : RI) (x1 : Int32), VJ p l e rmX2_findHouseholds s m args below meth c 2 G vwCl A (QR below G vwCl A args s rmX2_findHouseholds.cells rmX2_findHouseholds.slots (fun out : RI => none) (fun out : RI => pf [lW cI cZ o ad I out cm])) 0 0 (k23 R x1) (pf [lW cI cZ o ad I R cm]) 23 [(0, .ref o), (1, .int x1)] []) (R : RI) (x1 : Int32), VJ p l e rmX2_findHouseholds s m args below meth c 2 G vwCl A (QR below G vwCl A args s rmX2_findHouseholds.cells rmX2_findHouseholds.slots (fun out : RI => none) (fun out : RI => pf [lW cI cZ o ad I out cm])) 0 0 (f_X2_findHouseholds_j54 N I cm k23 R x1) (pf [lW cI cZ o ad I R cm]) 54 [(0, .ref o), (1, .int x1)] [] := by
    intro k23 i23 R x1
    unfold f_X2_findHouseholds_j54
    refine VJ.aload_n C 0 dX2_findHouseholds_54 rfl ?_
    refine VJ.iload_n C 1 dX2_findHouseholds_55 rfl ?_
    refine VJ.callV1 C [.int x1] (pf [lW cI cZ o ad I R cm]) ([]) (fun r2 => some (.int r2)) (fun r2 => pf [lW cI cZ o ad I R cm]) (fun r2 => pf [lW cI cZ o ad I R cm]) (fun r2 => [.int r2]) 0 0 (fun _ h9 => c_X2_isChildAtHome l G cI cZ cQ cU cJ o ad I R cm x1 _ h9) (vj_p0 _) (fun _ => vj_p0' _) 0 rfl rfl (cwV 1 C.1.2.2.2.2 gX2_findHouseholds_X2_isChildAtHome rfl rfl rfl hyV_X2_isChildAtHome ⟨Nat.le_of_ble_eq_true rfl, Nat.le_of_ble_eq_true rfl⟩) rfl rfl (fun _ => rfl) (Nat.le_of_ble_eq_true rfl) dX2_findHouseholds_56 ⟨Nat.le_of_ble_eq_true rfl, Nat.le_of_ble_eq_true rfl⟩ ⟨rfl, rfl⟩ (fun r2 => ?_)
    refine VJ.if_eq C 73 dX2_findHouseholds_59 (by decide) (fun _ => ?_) (fun _ => ?_)
    · refine VJ.iincN C 1 (fun v3 => [(1, .int v3), (0, .ref o)]) dX2_findHouseholds_73 rfl (Nat.le_of_ble_eq_true rfl) (fun _ => rfl) (fun v3 => ?_)
      refine VJ.goto C 23 dX2_findHouseholds_76 (by decide) ?_
      refine VJ.sub [1, 0] rfl ?_
      exact i23 R v3
    · refine VJ.aload_n C 0 dX2_findHouseholds_62 rfl ?_
      refine VJ.iload_n C 1 dX2_findHouseholds_63 rfl ?_
      refine VJ.aload_n C 0 dX2_findHouseholds_64 rfl ?_
      refine VJ.get (C0 := RX2) (T := TX2) (N := 13) (ci := 2) C in_X2_findHouseholds_X2 0 rfl rfl 5 (Nat.le_of_ble_eq_true rfl) (C.1.2.2.2.2 _ (List.mem_of_getElem? (i := 3) rfl)) (fun _ h9 => h9) (v := .ref (ad 5)) rfl dX2_findHouseholds_65 ?_
      refine VJ.iload_n C 1 dX2_findHouseholds_68 rfl ?_
      refine VJ.iald C 6 0 rfl rfl dX2_findHouseholds_69 ?_
      refine VJ.callV1 C [.int x1, .int (R 5 x1.toNatClampNeg)] (pf [lW cI cZ o ad I R cm]) ([]) (fun R4 => none) (fun R4 => pf [lW cI cZ o ad I R4 cm]) (fun R4 => pf [lW cI cZ o ad I R4 cm]) (fun R4 => []) 0 0 (fun _ h9 => c_X2_uniteHouseholds l G cI cZ cQ cU cJ N o ad I R cm x1 (R 5 x1.toNatClampNeg) _ h9) (vj_p0 _) (fun _ => vj_p0' _) 0 rfl rfl (cwV 2 C.1.2.2.2.2 gX2_findHouseholds_X2_uniteHouseholds rfl rfl rfl hyV_X2_uniteHouseholds ⟨Nat.le_of_ble_eq_true rfl, Nat.le_of_ble_eq_true rfl⟩) rfl rfl (fun _ => rfl) (Nat.le_of_ble_eq_true rfl) dX2_findHouseholds_70 ⟨Nat.le_of_ble_eq_true rfl, Nat.le_of_ble_eq_true rfl⟩ ⟨rfl, rfl⟩ (fun R4 => ?_)
      refine VJ.iincN C 1 (fun v5 => [(1, .int v5), (0, .ref o)]) dX2_findHouseholds_73 rfl (Nat.le_of_ble_eq_true rfl) (fun _ => rfl) (fun v5 => ?_)
      refine VJ.goto C 23 dX2_findHouseholds_76 (by decide) ?_
      refine VJ.sub [1, 0] rfl ?_
      exact i23 R4 v5
  have j23 : ∀ (n9 : Nat) (R : RI) (x1 : Int32), VJ p l e rmX2_findHouseholds s m args below meth c 2 G vwCl A (QR below G vwCl A args s rmX2_findHouseholds.cells rmX2_findHouseholds.slots (fun out : RI => none) (fun out : RI => pf [lW cI cZ o ad I out cm])) 0 0 (f_X2_findHouseholds_l23 N I cm  n9 R x1) (pf [lW cI cZ o ad I R cm]) 23 [(0, .ref o), (1, .int x1)] [] := by
    intro  n9
    induction n9 with
    | zero => intro R x1; exact VJ.fnone rfl
    | succ n9 i23 =>
      intro R x1
      refine VJ.eqf (f' := f_X2_findHouseholds_l23b N I cm  (f_X2_findHouseholds_l23 N I cm  n9) R x1) rfl ?_
      generalize f_X2_findHouseholds_l23 N I cm  n9 = k23 at i23 ⊢
      unfold f_X2_findHouseholds_l23b
      refine VJ.iload_n C 1 dX2_findHouseholds_23 rfl ?_
      refine VJ.bipush (v := 24) C dX2_findHouseholds_24 (by decide) ?_
      refine VJ.icmp_ge C 79 dX2_findHouseholds_26 (by decide) (fun _ => ?_) (fun _ => ?_)
      · exact VJ.vret C hret rfl rfl dX2_findHouseholds_79
      · refine VJ.aload_n C 0 dX2_findHouseholds_29 rfl ?_
        refine VJ.iload_n C 1 dX2_findHouseholds_30 rfl ?_
        refine VJ.aload_n C 0 dX2_findHouseholds_31 rfl ?_
        refine VJ.get (C0 := RX2) (T := TX2) (N := 13) (ci := 2) C in_X2_findHouseholds_X2 0 rfl rfl 4 (Nat.le_of_ble_eq_true rfl) (C.1.2.2.2.2 _ (List.mem_of_getElem? (i := 2) rfl)) (fun _ h9 => h9) (v := .ref (ad 4)) rfl dX2_findHouseholds_32 ?_
        refine VJ.iload_n C 1 dX2_findHouseholds_35 rfl ?_
        refine VJ.iald C 5 0 rfl rfl dX2_findHouseholds_36 ?_
        refine VJ.callV1 C [.int x1, .int (R 4 x1.toNatClampNeg)] (pf [lW cI cZ o ad I R cm]) ([]) (fun r1 => some (.int r1)) (fun r1 => pf [lW cI cZ o ad I R cm]) (fun r1 => pf [lW cI cZ o ad I R cm]) (fun r1 => [.int r1]) 0 0 (fun _ h9 => c_X2_areInOneDwelling l G cI cZ cQ cU cJ o ad I R cm x1 (R 4 x1.toNatClampNeg) _ h9) (vj_p0 _) (fun _ => vj_p0' _) 0 rfl rfl (cwV 2 C.1.2.2.2.2 gX2_findHouseholds_X2_areInOneDwelling rfl rfl rfl hyV_X2_areInOneDwelling ⟨Nat.le_of_ble_eq_true rfl, Nat.le_of_ble_eq_true rfl⟩) rfl rfl (fun _ => rfl) (Nat.le_of_ble_eq_true rfl) dX2_findHouseholds_37 ⟨Nat.le_of_ble_eq_true rfl, Nat.le_of_ble_eq_true rfl⟩ ⟨rfl, rfl⟩ (fun r1 => ?_)
        refine VJ.if_eq C 54 dX2_findHouseholds_40 (by decide) (fun _ => ?_) (fun _ => ?_)
        · exact j54 k23 i23 R x1
        · refine VJ.aload_n C 0 dX2_findHouseholds_43 rfl ?_
          refine VJ.iload_n C 1 dX2_findHouseholds_44 rfl ?_
          refine VJ.aload_n C 0 dX2_findHouseholds_45 rfl ?_
          refine VJ.get (C0 := RX2) (T := TX2) (N := 13) (ci := 2) C in_X2_findHouseholds_X2 0 rfl rfl 4 (Nat.le_of_ble_eq_true rfl) (C.1.2.2.2.2 _ (List.mem_of_getElem? (i := 2) rfl)) (fun _ h9 => h9) (v := .ref (ad 4)) rfl dX2_findHouseholds_46 ?_
          refine VJ.iload_n C 1 dX2_findHouseholds_49 rfl ?_
          refine VJ.iald C 5 0 rfl rfl dX2_findHouseholds_50 ?_
          refine VJ.callV1 C [.int x1, .int (R 4 x1.toNatClampNeg)] (pf [lW cI cZ o ad I R cm]) ([]) (fun R6 => none) (fun R6 => pf [lW cI cZ o ad I R6 cm]) (fun R6 => pf [lW cI cZ o ad I R6 cm]) (fun R6 => []) 0 0 (fun _ h9 => c_X2_uniteHouseholds l G cI cZ cQ cU cJ N o ad I R cm x1 (R 4 x1.toNatClampNeg) _ h9) (vj_p0 _) (fun _ => vj_p0' _) 0 rfl rfl (cwV 2 C.1.2.2.2.2 gX2_findHouseholds_X2_uniteHouseholds rfl rfl rfl hyV_X2_uniteHouseholds ⟨Nat.le_of_ble_eq_true rfl, Nat.le_of_ble_eq_true rfl⟩) rfl rfl (fun _ => rfl) (Nat.le_of_ble_eq_true rfl) dX2_findHouseholds_51 ⟨Nat.le_of_ble_eq_true rfl, Nat.le_of_ble_eq_true rfl⟩ ⟨rfl, rfl⟩ (fun R6 => ?_)
          exact j54 k23 i23 R6 x1
  have j2 : ∀ (n9 : Nat) (R : RI) (x1 : Int32), VJ p l e rmX2_findHouseholds s m args below meth c 2 G vwCl A (QR below G vwCl A args s rmX2_findHouseholds.cells rmX2_findHouseholds.slots (fun out : RI => none) (fun out : RI => pf [lW cI cZ o ad I out cm])) 0 0 (f_X2_findHouseholds_l2 N I cm  n9 R x1) (pf [lW cI cZ o ad I R cm]) 2 [(0, .ref o), (1, .int x1)] [] := by
    intro  n9
    induction n9 with
    | zero => intro R x1; exact VJ.fnone rfl
    | succ n9 i2 =>
      intro R x1
      refine VJ.eqf (f' := f_X2_findHouseholds_l2b N I cm  (f_X2_findHouseholds_l2 N I cm  n9) R x1) rfl ?_
      generalize f_X2_findHouseholds_l2 N I cm  n9 = k2 at i2 ⊢
      unfold f_X2_findHouseholds_l2b
      refine VJ.iload_n C 1 dX2_findHouseholds_2 rfl ?_
      refine VJ.bipush (v := 24) C dX2_findHouseholds_3 (by decide) ?_
      refine VJ.icmp_ge C 21 dX2_findHouseholds_5 (by decide) (fun _ => ?_) (fun _ => ?_)
      · refine VJ.iconst (v := 0) C dX2_findHouseholds_21 (by decide) ?_
        refine VJ.istore_n C [(1, .int 0), (0, .ref o)] dX2_findHouseholds_22 (Nat.le_of_ble_eq_true rfl) rfl ?_
        refine VJ.sub [1, 0] rfl ?_
        exact j23 N R 0
      · refine VJ.aload_n C 0 dX2_findHouseholds_8 rfl ?_
        refine VJ.get (C0 := RX2) (T := TX2) (N := 13) (ci := 2) C in_X2_findHouseholds_X2 0 rfl rfl 9 (Nat.le_of_ble_eq_true rfl) (C.1.2.2.2.2 _ (List.mem_of_getElem? (i := 1) rfl)) (fun _ h9 => h9) (v := .ref (ad 9)) rfl dX2_findHouseholds_9 ?_
        refine VJ.iload_n C 1 dX2_findHouseholds_12 rfl ?_
        refine VJ.iload_n C 1 dX2_findHouseholds_13 rfl ?_
        refine VJ.iastR C 10 0 R 9 (fun R7 => pf [lW cI cZ o ad I R7 cm]) rfl rfl (fun _ => rfl) dX2_findHouseholds_14 (fun R7 => ?_)
        refine VJ.iincN C 1 (fun v8 => [(1, .int v8), (0, .ref o)]) dX2_findHouseholds_15 rfl (Nat.le_of_ble_eq_true rfl) (fun _ => rfl) (fun v8 => ?_)
        refine VJ.goto C 2 dX2_findHouseholds_18 (by decide) ?_
        refine VJ.sub [1, 0] rfl ?_
        exact i2 R7 v8
  unfold f_X2_findHouseholds
  refine VJ.iconst (v := 0) C dX2_findHouseholds_0 (by decide) ?_
  refine VJ.istore_n C [(1, .int 0), (0, .ref o)] dX2_findHouseholds_1 (Nat.le_of_ble_eq_true rfl) rfl ?_
  refine VJ.sub [1, 0] rfl ?_
  exact j2 N R 0

def f_X2_lowestOfHousehold (N : Nat) (I : OI) (cm : Option Nat) (R : RI) (x1 : Int32) : Option (Int32 × RI) :=
  ob1 (f_X2_isLiving I R cm x1) (fun r1 => if r1 = 0 then (some ((-1), R)) else (ob1 (f_X2_findHouseholds N I cm R) (fun R2 => some (atv 24 (R2 9) x1, R2))))
abbrev rmX2_lowestOfHousehold : Room := { frames := 4, cells := 0, slots := 0, locals := 85 }
theorem in_X2_lowestOfHousehold_X2 : ∀ w ∈ u_ws RX2 TX2 13, w ∈ wsX2_lowestOfHousehold := in_of 47 rfl
theorem hy_X2_lowestOfHousehold : yX2_lowestOfHousehold.cls ≠ "java/lang/invoke/MethodHandle" ∧ yX2_lowestOfHousehold.cls ≠ "java/lang/invoke/VarHandle" ∧ (parseMethodDescriptor yX2_lowestOfHousehold.desc).map (fun d => d.parameters.length) = some 1 := by decide +kernel
theorem hyV_X2_lowestOfHousehold : yX2_lowestOfHousehold.cls = RX2 ∧ yX2_lowestOfHousehold.cls ≠ "java/lang/invoke/MethodHandle" ∧ yX2_lowestOfHousehold.cls ≠ "java/lang/invoke/VarHandle" ∧ (parseMethodDescriptor yX2_lowestOfHousehold.desc).map (fun d => d.parameters.length) = some 1 := ⟨rfl, hy_X2_lowestOfHousehold⟩
set_option maxHeartbeats 8000000 in
set_option maxRecDepth 100000 in
theorem c_X2_lowestOfHousehold (l : Launch) (G : va_G) (cI cZ cQ cU cJ : ClassId) (N : Nat) (o : Nat) (ad : Nat → Nat) (I : OI) (R : RI) (cm : Option Nat) (x1 : Int32) (out : Int32 × RI) (hf : f_X2_lowestOfHousehold N I cm R x1 = some out) : Con l yX2_lowestOfHousehold wsX2_lowestOfHousehold rmX2_lowestOfHousehold G vwCl (tys cI cZ cQ cU cJ) nws [.ref o, .int x1] (pf [lW cI cZ o ad I R cm]) (some (.int out.1)) (pf [lW cI cZ o ad I out.2 cm]) := by
  refine con_of (rv := fun out : Int32 × RI => some (.int out.1)) (Wd := fun out : Int32 × RI => pf [lW cI cZ o ad I out.2 cm]) (maxL := 2) (own := RX2) rfl (plainFor_of_name (by decide +kernel)) rfl (Nat.le_of_ble_eq_true rfl) ?_ hf
  intro p e s m args below meth c A C hret hname
  unfold f_X2_lowestOfHousehold
  refine VJ.aload_n C 0 dX2_lowestOfHousehold_0 rfl ?_
  refine VJ.iload_n C 1 dX2_lowestOfHousehold_1 rfl ?_
  refine VJ.callV1 C [.int x1] (pf [lW cI cZ o ad I R cm]) ([]) (fun r1 => some (.int r1)) (fun r1 => pf [lW cI cZ o ad I R cm]) (fun r1 => pf [lW cI cZ o ad I R cm]) (fun r1 => [.int r1]) 0 0 (fun _ h9 => c_X2_isLiving l G cI cZ cQ cU cJ o ad I R cm x1 _ h9) (vj_p0 _) (fun _ => vj_p0' _) 0 rfl rfl (cwV 1 C.1.2.2.2.2 gX2_lowestOfHousehold_X2_isLiving rfl rfl rfl hyV_X2_isLiving ⟨Nat.le_of_ble_eq_true rfl, Nat.le_of_ble_eq_true rfl⟩) rfl rfl (fun _ => rfl) (Nat.le_of_ble_eq_true rfl) dX2_lowestOfHousehold_2 ⟨Nat.le_of_ble_eq_true rfl, Nat.le_of_ble_eq_true rfl⟩ ⟨rfl, rfl⟩ (fun r1 => ?_)
  refine VJ.if_ne C 10 dX2_lowestOfHousehold_5 (by decide) (fun _ => ?_) (fun _ => ?_)
  · refine VJ.aload_n C 0 dX2_lowestOfHousehold_10 rfl ?_
    refine VJ.callV1 C [] (pf [lW cI cZ o ad I R cm]) ([]) (fun R2 => none) (fun R2 => pf [lW cI cZ o ad I R2 cm]) (fun R2 => pf [lW cI cZ o ad I R2 cm]) (fun R2 => []) 0 0 (fun _ h9 => c_X2_findHouseholds l G cI cZ cQ cU cJ N o ad I R cm _ h9) (vj_p0 _) (fun _ => vj_p0' _) 0 rfl rfl (cwV 0 C.1.2.2.2.2 gX2_lowestOfHousehold_X2_findHouseholds rfl rfl rfl hyV_X2_findHouseholds ⟨Nat.le_of_ble_eq_true rfl, Nat.le_of_ble_eq_true rfl⟩) rfl rfl (fun _ => rfl) (Nat.le_of_ble_eq_true rfl) dX2_lowestOfHousehold_11 ⟨Nat.le_of_ble_eq_true rfl, Nat.le_of_ble_eq_true rfl⟩ ⟨rfl, rfl⟩ (fun R2 => ?_)
    refine VJ.aload_n C 0 dX2_lowestOfHousehold_14 rfl ?_
    refine VJ.get (C0 := RX2) (T := TX2) (N := 13) (ci := 2) C in_X2_lowestOfHousehold_X2 0 rfl rfl 9 (Nat.le_of_ble_eq_true rfl) (C.1.2.2.2.2 _ (List.mem_of_getElem? (i := 1) rfl)) (fun _ h9 => h9) (v := .ref (ad 9)) rfl dX2_lowestOfHousehold_15 ?_
    refine VJ.iload_n C 1 dX2_lowestOfHousehold_18 rfl ?_
    refine VJ.atSN (q0 := 10) C rfl (c_X5_att l G cI cZ cQ cU cJ (ad 9) 24 (Nat.le_of_ble_eq_true rfl) (R2 9) x1) (⟨va_cnB 2 C.1.2.2.2.2 gX2_lowestOfHousehold_X5_at_n116 rfl rfl rfl (C.nestM (List.mem_of_getElem? (i := 35) rfl)) (C.1.2.2.2.2 _ (List.mem_of_getElem? (i := 20) rfl)) hy_X5_at ⟨Nat.le_of_ble_eq_true rfl, Nat.le_of_ble_eq_true rfl⟩, (C.1.2.2.2.2 _ (List.mem_of_getElem? (i := 19) rfl)), trivial⟩) rfl (Nat.le_of_ble_eq_true rfl) dX2_lowestOfHousehold_19 ⟨Nat.le_of_ble_eq_true rfl, Nat.le_of_ble_eq_true rfl⟩ ⟨rfl, rfl⟩ ?_
    exact VJ.iret C hret rfl rfl dX2_lowestOfHousehold_22
  · refine VJ.iconst (v := (-1)) C dX2_lowestOfHousehold_8 (by decide) ?_
    exact VJ.iret C hret rfl rfl dX2_lowestOfHousehold_9

set_option maxHeartbeats 4000000 in
set_option maxRecDepth 100000 in
def f_X2_countHouseholds_l8b (N : Nat) (I : OI) (cm : Option Nat) (k8 : RI → Int32 → Int32 → Int32 → Option (Int32 × RI)) (R : RI) (x1 : Int32) (x2 : Int32) (x3 : Int32) : Option (Int32 × RI) :=
  if 24 ≤ x3 then (some (x2, R)) else (ob1 (f_X2_isLiving I R cm x3) (fun r2 => if r2 = 0 then (ol (x3 + Int32.ofInt 1) (fun v3 => k8 R x1 x2 v3)) else (og x3 24 (if (R 2 x3.toNatClampNeg) = x1 then (og x3 24 (if (R 9 x3.toNatClampNeg) = x3 then (ol (x2 + Int32.ofInt 1) (fun v6 => ol (x3 + Int32.ofInt 1) (fun v7 => k8 R x1 v6 v7))) else (ol (x3 + Int32.ofInt 1) (fun v5 => k8 R x1 x2 v5)))) else (ol (x3 + Int32.ofInt 1) (fun v4 => k8 R x1 x2 v4))))))
set_option maxHeartbeats 4000000 in
set_option maxRecDepth 100000 in
def f_X2_countHouseholds_l8 (N : Nat) (I : OI) (cm : Option Nat) : Nat → RI → Int32 → Int32 → Int32 → Option (Int32 × RI)
  | 0 => fun _ _ _ _ => none
  | n9 + 1 => f_X2_countHouseholds_l8b N I cm (f_X2_countHouseholds_l8 N I cm n9)
def f_X2_countHouseholds (N : Nat) (I : OI) (cm : Option Nat) (R : RI) (x1 : Int32) : Option (Int32 × RI) :=
  ob1 (f_X2_findHouseholds N I cm R) (fun R1 => f_X2_countHouseholds_l8 N I cm N R1 x1 0 0)
abbrev rmX2_countHouseholds : Room := { frames := 4, cells := 0, slots := 0, locals := 85 }
theorem in_X2_countHouseholds_X2 : ∀ w ∈ u_ws RX2 TX2 13, w ∈ wsX2_countHouseholds := in_of 47 rfl
theorem hy_X2_countHouseholds : yX2_countHouseholds.cls ≠ "java/lang/invoke/MethodHandle" ∧ yX2_countHouseholds.cls ≠ "java/lang/invoke/VarHandle" ∧ (parseMethodDescriptor yX2_countHouseholds.desc).map (fun d => d.parameters.length) = some 1 := by decide +kernel
theorem hyV_X2_countHouseholds : yX2_countHouseholds.cls = RX2 ∧ yX2_countHouseholds.cls ≠ "java/lang/invoke/MethodHandle" ∧ yX2_countHouseholds.cls ≠ "java/lang/invoke/VarHandle" ∧ (parseMethodDescriptor yX2_countHouseholds.desc).map (fun d => d.parameters.length) = some 1 := ⟨rfl, hy_X2_countHouseholds⟩
set_option maxHeartbeats 8000000 in
set_option maxRecDepth 100000 in
theorem c_X2_countHouseholds (l : Launch) (G : va_G) (cI cZ cQ cU cJ : ClassId) (N : Nat) (o : Nat) (ad : Nat → Nat) (I : OI) (R : RI) (cm : Option Nat) (x1 : Int32) (out : Int32 × RI) (hf : f_X2_countHouseholds N I cm R x1 = some out) : Con l yX2_countHouseholds wsX2_countHouseholds rmX2_countHouseholds G vwCl (tys cI cZ cQ cU cJ) nws [.ref o, .int x1] (pf [lW cI cZ o ad I R cm]) (some (.int out.1)) (pf [lW cI cZ o ad I out.2 cm]) := by
  refine con_of (rv := fun out : Int32 × RI => some (.int out.1)) (Wd := fun out : Int32 × RI => pf [lW cI cZ o ad I out.2 cm]) (maxL := 4) (own := RX2) rfl (plainFor_of_name (by decide +kernel)) rfl (Nat.le_of_ble_eq_true rfl) ?_ hf
  intro p e s m args below meth c A C hret hname
  have j8 : ∀ (n9 : Nat) (R : RI) (x1 : Int32) (x2 : Int32) (x3 : Int32), VJ p l e rmX2_countHouseholds s m args below meth c 4 G vwCl A (QR below G vwCl A args s rmX2_countHouseholds.cells rmX2_countHouseholds.slots (fun out : Int32 × RI => some (.int out.1)) (fun out : Int32 × RI => pf [lW cI cZ o ad I out.2 cm])) 0 0 (f_X2_countHouseholds_l8 N I cm  n9 R x1 x2 x3) (pf [lW cI cZ o ad I R cm]) 8 [(0, .ref o), (1, .int x1), (2, .int x2), (3, .int x3)] [] := by
    intro  n9
    induction n9 with
    | zero => intro R x1 x2 x3; exact VJ.fnone rfl
    | succ n9 i8 =>
      intro R x1 x2 x3
      refine VJ.eqf (f' := f_X2_countHouseholds_l8b N I cm  (f_X2_countHouseholds_l8 N I cm  n9) R x1 x2 x3) rfl ?_
      generalize f_X2_countHouseholds_l8 N I cm  n9 = k8 at i8 ⊢
      unfold f_X2_countHouseholds_l8b
      refine VJ.iload_n C 3 dX2_countHouseholds_8 rfl ?_
      refine VJ.bipush (v := 24) C dX2_countHouseholds_9 (by decide) ?_
      refine VJ.icmp_ge C 51 dX2_countHouseholds_11 (by decide) (fun _ => ?_) (fun _ => ?_)
      · refine VJ.iload_n C 2 dX2_countHouseholds_51 rfl ?_
        exact VJ.iret C hret rfl rfl dX2_countHouseholds_52
      · refine VJ.aload_n C 0 dX2_countHouseholds_14 rfl ?_
        refine VJ.iload_n C 3 dX2_countHouseholds_15 rfl ?_
        refine VJ.callV1 C [.int x3] (pf [lW cI cZ o ad I R cm]) ([]) (fun r2 => some (.int r2)) (fun r2 => pf [lW cI cZ o ad I R cm]) (fun r2 => pf [lW cI cZ o ad I R cm]) (fun r2 => [.int r2]) 0 0 (fun _ h9 => c_X2_isLiving l G cI cZ cQ cU cJ o ad I R cm x3 _ h9) (vj_p0 _) (fun _ => vj_p0' _) 0 rfl rfl (cwV 1 C.1.2.2.2.2 gX2_countHouseholds_X2_isLiving rfl rfl rfl hyV_X2_isLiving ⟨Nat.le_of_ble_eq_true rfl, Nat.le_of_ble_eq_true rfl⟩) rfl rfl (fun _ => rfl) (Nat.le_of_ble_eq_true rfl) dX2_countHouseholds_16 ⟨Nat.le_of_ble_eq_true rfl, Nat.le_of_ble_eq_true rfl⟩ ⟨rfl, rfl⟩ (fun r2 => ?_)
        refine VJ.if_eq C 45 dX2_countHouseholds_19 (by decide) (fun _ => ?_) (fun _ => ?_)
        · refine VJ.iincN C 3 (fun v3 => [(3, .int v3), (0, .ref o), (1, .int x1), (2, .int x2)]) dX2_countHouseholds_45 rfl (Nat.le_of_ble_eq_true rfl) (fun _ => rfl) (fun v3 => ?_)
          refine VJ.goto C 8 dX2_countHouseholds_48 (by decide) ?_
          refine VJ.sub [1, 2, 3, 0] rfl ?_
          exact i8 R x1 x2 v3
        · refine VJ.aload_n C 0 dX2_countHouseholds_22 rfl ?_
          refine VJ.get (C0 := RX2) (T := TX2) (N := 13) (ci := 2) C in_X2_countHouseholds_X2 0 rfl rfl 2 (Nat.le_of_ble_eq_true rfl) (C.1.2.2.2.2 _ (List.mem_of_getElem? (i := 1) rfl)) (fun _ h9 => h9) (v := .ref (ad 2)) rfl dX2_countHouseholds_23 ?_
          refine VJ.iload_n C 3 dX2_countHouseholds_26 rfl ?_
          refine VJ.iald C 3 0 rfl rfl dX2_countHouseholds_27 ?_
          refine VJ.iload_n C 1 dX2_countHouseholds_28 rfl ?_
          refine VJ.icmp_ne C 45 dX2_countHouseholds_29 (by decide) (fun _ => ?_) (fun _ => ?_)
          · refine VJ.iincN C 3 (fun v4 => [(3, .int v4), (0, .ref o), (1, .int x1), (2, .int x2)]) dX2_countHouseholds_45 rfl (Nat.le_of_ble_eq_true rfl) (fun _ => rfl) (fun v4 => ?_)
            refine VJ.goto C 8 dX2_countHouseholds_48 (by decide) ?_
            refine VJ.sub [1, 2, 3, 0] rfl ?_
            exact i8 R x1 x2 v4
          · refine VJ.aload_n C 0 dX2_countHouseholds_32 rfl ?_
            refine VJ.get (C0 := RX2) (T := TX2) (N := 13) (ci := 2) C in_X2_countHouseholds_X2 0 rfl rfl 9 (Nat.le_of_ble_eq_true rfl) (C.1.2.2.2.2 _ (List.mem_of_getElem? (i := 2) rfl)) (fun _ h9 => h9) (v := .ref (ad 9)) rfl dX2_countHouseholds_33 ?_
            refine VJ.iload_n C 3 dX2_countHouseholds_36 rfl ?_
            refine VJ.iald C 10 0 rfl rfl dX2_countHouseholds_37 ?_
            refine VJ.iload_n C 3 dX2_countHouseholds_38 rfl ?_
            refine VJ.icmp_ne C 45 dX2_countHouseholds_39 (by decide) (fun _ => ?_) (fun _ => ?_)
            · refine VJ.iincN C 3 (fun v5 => [(3, .int v5), (0, .ref o), (1, .int x1), (2, .int x2)]) dX2_countHouseholds_45 rfl (Nat.le_of_ble_eq_true rfl) (fun _ => rfl) (fun v5 => ?_)
              refine VJ.goto C 8 dX2_countHouseholds_48 (by decide) ?_
              refine VJ.sub [1, 2, 3, 0] rfl ?_
              exact i8 R x1 x2 v5
            · refine VJ.iincN C 2 (fun v6 => [(2, .int v6), (0, .ref o), (1, .int x1), (3, .int x3)]) dX2_countHouseholds_42 rfl (Nat.le_of_ble_eq_true rfl) (fun _ => rfl) (fun v6 => ?_)
              refine VJ.iincN C 3 (fun v7 => [(3, .int v7), (2, .int v6), (0, .ref o), (1, .int x1)]) dX2_countHouseholds_45 rfl (Nat.le_of_ble_eq_true rfl) (fun _ => rfl) (fun v7 => ?_)
              refine VJ.goto C 8 dX2_countHouseholds_48 (by decide) ?_
              refine VJ.sub [2, 3, 1, 0] rfl ?_
              exact i8 R x1 v6 v7
  unfold f_X2_countHouseholds
  refine VJ.aload_n C 0 dX2_countHouseholds_0 rfl ?_
  refine VJ.callV1 C [] (pf [lW cI cZ o ad I R cm]) ([]) (fun R1 => none) (fun R1 => pf [lW cI cZ o ad I R1 cm]) (fun R1 => pf [lW cI cZ o ad I R1 cm]) (fun R1 => []) 0 0 (fun _ h9 => c_X2_findHouseholds l G cI cZ cQ cU cJ N o ad I R cm _ h9) (vj_p0 _) (fun _ => vj_p0' _) 0 rfl rfl (cwV 0 C.1.2.2.2.2 gX2_countHouseholds_X2_findHouseholds rfl rfl rfl hyV_X2_findHouseholds ⟨Nat.le_of_ble_eq_true rfl, Nat.le_of_ble_eq_true rfl⟩) rfl rfl (fun _ => rfl) (Nat.le_of_ble_eq_true rfl) dX2_countHouseholds_1 ⟨Nat.le_of_ble_eq_true rfl, Nat.le_of_ble_eq_true rfl⟩ ⟨rfl, rfl⟩ (fun R1 => ?_)
  refine VJ.iconst (v := 0) C dX2_countHouseholds_4 (by decide) ?_
  refine VJ.istore_n C [(2, .int 0), (0, .ref o), (1, .int x1)] dX2_countHouseholds_5 (Nat.le_of_ble_eq_true rfl) rfl ?_
  refine VJ.iconst (v := 0) C dX2_countHouseholds_6 (by decide) ?_
  refine VJ.istore_n C [(3, .int 0), (2, .int 0), (0, .ref o), (1, .int x1)] dX2_countHouseholds_7 (Nat.le_of_ble_eq_true rfl) rfl ?_
  refine VJ.sub [2, 3, 1, 0] rfl ?_
  exact j8 N R1 x1 0 0

def f_X2_tellOf (N : Nat) (I : OI) (cm : Option Nat) (R : RI) (x1 : Int32) (x2 : Int32) : Option (Int32 × RI) :=
  if x2 = 0 then (some (atv 24 (R 1) x1, R)) else (if x2 = 1 then (some (atv 24 (R 2) x1, R)) else (if x2 = 2 then (some (atv 24 (R 3) x1, R)) else (if x2 = 3 then (some (atv 24 (R 4) x1, R)) else (if x2 = 4 then (some (atv 24 (R 5) x1, R)) else (if x2 = 5 then (ob1 (f_X2_ageOf I R cm x1) (fun r1 => some (r1, R))) else (ob2 (f_X2_lowestOfHousehold N I cm R x1) (fun r2 R3 => some (r2, R3))))))))
abbrev rmX2_tellOf : Room := { frames := 5, cells := 0, slots := 0, locals := 106 }
theorem in_X2_tellOf_X2 : ∀ w ∈ u_ws RX2 TX2 13, w ∈ wsX2_tellOf := in_of 52 rfl
theorem hy_X2_tellOf : yX2_tellOf.cls ≠ "java/lang/invoke/MethodHandle" ∧ yX2_tellOf.cls ≠ "java/lang/invoke/VarHandle" ∧ (parseMethodDescriptor yX2_tellOf.desc).map (fun d => d.parameters.length) = some 2 := by decide +kernel
theorem hyV_X2_tellOf : yX2_tellOf.cls = RX2 ∧ yX2_tellOf.cls ≠ "java/lang/invoke/MethodHandle" ∧ yX2_tellOf.cls ≠ "java/lang/invoke/VarHandle" ∧ (parseMethodDescriptor yX2_tellOf.desc).map (fun d => d.parameters.length) = some 2 := ⟨rfl, hy_X2_tellOf⟩
set_option maxHeartbeats 8000000 in
set_option maxRecDepth 100000 in
theorem c_X2_tellOf (l : Launch) (G : va_G) (cI cZ cQ cU cJ : ClassId) (N : Nat) (o : Nat) (ad : Nat → Nat) (I : OI) (R : RI) (cm : Option Nat) (x1 : Int32) (x2 : Int32) (out : Int32 × RI) (hf : f_X2_tellOf N I cm R x1 x2 = some out) : Con l yX2_tellOf wsX2_tellOf rmX2_tellOf G vwCl (tys cI cZ cQ cU cJ) nws [.ref o, .int x1, .int x2] (pf [lW cI cZ o ad I R cm]) (some (.int out.1)) (pf [lW cI cZ o ad I out.2 cm]) := by
  refine con_of (rv := fun out : Int32 × RI => some (.int out.1)) (Wd := fun out : Int32 × RI => pf [lW cI cZ o ad I out.2 cm]) (maxL := 3) (own := RX2) rfl (plainFor_of_name (by decide +kernel)) rfl (Nat.le_of_ble_eq_true rfl) ?_ hf
  intro p e s m args below meth c A C hret hname
  unfold f_X2_tellOf
  refine VJ.iload_n C 2 dX2_tellOf_0 rfl ?_
  refine VJ.case 0 (fun e9 => ?_) (fun n0 => ?_)
  · refine VJ.tabin C 40 dX2_tellOf_1 e9 (by decide) (by decide) rfl (by decide) ?_
    refine VJ.aload_n C 0 dX2_tellOf_40 rfl ?_
    refine VJ.get (C0 := RX2) (T := TX2) (N := 13) (ci := 2) C in_X2_tellOf_X2 0 rfl rfl 1 (Nat.le_of_ble_eq_true rfl) (C.1.2.2.2.2 _ (List.mem_of_getElem? (i := 1) rfl)) (fun _ h9 => h9) (v := .ref (ad 1)) rfl dX2_tellOf_41 ?_
    refine VJ.iload_n C 1 dX2_tellOf_44 rfl ?_
    refine VJ.atSN (q0 := 2) C rfl (c_X5_att l G cI cZ cQ cU cJ (ad 1) 24 (Nat.le_of_ble_eq_true rfl) (R 1) x1) (⟨va_cnB 2 C.1.2.2.2.2 gX2_tellOf_X5_at_n116 rfl rfl rfl (C.nestM (List.mem_of_getElem? (i := 35) rfl)) (C.1.2.2.2.2 _ (List.mem_of_getElem? (i := 7) rfl)) hy_X5_at ⟨Nat.le_of_ble_eq_true rfl, Nat.le_of_ble_eq_true rfl⟩, (C.1.2.2.2.2 _ (List.mem_of_getElem? (i := 6) rfl)), trivial⟩) rfl (Nat.le_of_ble_eq_true rfl) dX2_tellOf_45 ⟨Nat.le_of_ble_eq_true rfl, Nat.le_of_ble_eq_true rfl⟩ ⟨rfl, rfl⟩ ?_
    exact VJ.iret C hret rfl rfl dX2_tellOf_48
  refine VJ.case 1 (fun e9 => ?_) (fun n1 => ?_)
  · refine VJ.tabin C 49 dX2_tellOf_1 e9 (by decide) (by decide) rfl (by decide) ?_
    refine VJ.aload_n C 0 dX2_tellOf_49 rfl ?_
    refine VJ.get (C0 := RX2) (T := TX2) (N := 13) (ci := 2) C in_X2_tellOf_X2 0 rfl rfl 2 (Nat.le_of_ble_eq_true rfl) (C.1.2.2.2.2 _ (List.mem_of_getElem? (i := 2) rfl)) (fun _ h9 => h9) (v := .ref (ad 2)) rfl dX2_tellOf_50 ?_
    refine VJ.iload_n C 1 dX2_tellOf_53 rfl ?_
    refine VJ.atSN (q0 := 3) C rfl (c_X5_att l G cI cZ cQ cU cJ (ad 2) 24 (Nat.le_of_ble_eq_true rfl) (R 2) x1) (⟨va_cnB 2 C.1.2.2.2.2 gX2_tellOf_X5_at_n116 rfl rfl rfl (C.nestM (List.mem_of_getElem? (i := 35) rfl)) (C.1.2.2.2.2 _ (List.mem_of_getElem? (i := 7) rfl)) hy_X5_at ⟨Nat.le_of_ble_eq_true rfl, Nat.le_of_ble_eq_true rfl⟩, (C.1.2.2.2.2 _ (List.mem_of_getElem? (i := 6) rfl)), trivial⟩) rfl (Nat.le_of_ble_eq_true rfl) dX2_tellOf_54 ⟨Nat.le_of_ble_eq_true rfl, Nat.le_of_ble_eq_true rfl⟩ ⟨rfl, rfl⟩ ?_
    exact VJ.iret C hret rfl rfl dX2_tellOf_57
  refine VJ.case 2 (fun e9 => ?_) (fun n2 => ?_)
  · refine VJ.tabin C 58 dX2_tellOf_1 e9 (by decide) (by decide) rfl (by decide) ?_
    refine VJ.aload_n C 0 dX2_tellOf_58 rfl ?_
    refine VJ.get (C0 := RX2) (T := TX2) (N := 13) (ci := 2) C in_X2_tellOf_X2 0 rfl rfl 3 (Nat.le_of_ble_eq_true rfl) (C.1.2.2.2.2 _ (List.mem_of_getElem? (i := 3) rfl)) (fun _ h9 => h9) (v := .ref (ad 3)) rfl dX2_tellOf_59 ?_
    refine VJ.iload_n C 1 dX2_tellOf_62 rfl ?_
    refine VJ.atSN (q0 := 4) C rfl (c_X5_att l G cI cZ cQ cU cJ (ad 3) 24 (Nat.le_of_ble_eq_true rfl) (R 3) x1) (⟨va_cnB 2 C.1.2.2.2.2 gX2_tellOf_X5_at_n116 rfl rfl rfl (C.nestM (List.mem_of_getElem? (i := 35) rfl)) (C.1.2.2.2.2 _ (List.mem_of_getElem? (i := 7) rfl)) hy_X5_at ⟨Nat.le_of_ble_eq_true rfl, Nat.le_of_ble_eq_true rfl⟩, (C.1.2.2.2.2 _ (List.mem_of_getElem? (i := 6) rfl)), trivial⟩) rfl (Nat.le_of_ble_eq_true rfl) dX2_tellOf_63 ⟨Nat.le_of_ble_eq_true rfl, Nat.le_of_ble_eq_true rfl⟩ ⟨rfl, rfl⟩ ?_
    exact VJ.iret C hret rfl rfl dX2_tellOf_66
  refine VJ.case 3 (fun e9 => ?_) (fun n3 => ?_)
  · refine VJ.tabin C 67 dX2_tellOf_1 e9 (by decide) (by decide) rfl (by decide) ?_
    refine VJ.aload_n C 0 dX2_tellOf_67 rfl ?_
    refine VJ.get (C0 := RX2) (T := TX2) (N := 13) (ci := 2) C in_X2_tellOf_X2 0 rfl rfl 4 (Nat.le_of_ble_eq_true rfl) (C.1.2.2.2.2 _ (List.mem_of_getElem? (i := 4) rfl)) (fun _ h9 => h9) (v := .ref (ad 4)) rfl dX2_tellOf_68 ?_
    refine VJ.iload_n C 1 dX2_tellOf_71 rfl ?_
    refine VJ.atSN (q0 := 5) C rfl (c_X5_att l G cI cZ cQ cU cJ (ad 4) 24 (Nat.le_of_ble_eq_true rfl) (R 4) x1) (⟨va_cnB 2 C.1.2.2.2.2 gX2_tellOf_X5_at_n116 rfl rfl rfl (C.nestM (List.mem_of_getElem? (i := 35) rfl)) (C.1.2.2.2.2 _ (List.mem_of_getElem? (i := 7) rfl)) hy_X5_at ⟨Nat.le_of_ble_eq_true rfl, Nat.le_of_ble_eq_true rfl⟩, (C.1.2.2.2.2 _ (List.mem_of_getElem? (i := 6) rfl)), trivial⟩) rfl (Nat.le_of_ble_eq_true rfl) dX2_tellOf_72 ⟨Nat.le_of_ble_eq_true rfl, Nat.le_of_ble_eq_true rfl⟩ ⟨rfl, rfl⟩ ?_
    exact VJ.iret C hret rfl rfl dX2_tellOf_75
  refine VJ.case 4 (fun e9 => ?_) (fun n4 => ?_)
  · refine VJ.tabin C 76 dX2_tellOf_1 e9 (by decide) (by decide) rfl (by decide) ?_
    refine VJ.aload_n C 0 dX2_tellOf_76 rfl ?_
    refine VJ.get (C0 := RX2) (T := TX2) (N := 13) (ci := 2) C in_X2_tellOf_X2 0 rfl rfl 5 (Nat.le_of_ble_eq_true rfl) (C.1.2.2.2.2 _ (List.mem_of_getElem? (i := 5) rfl)) (fun _ h9 => h9) (v := .ref (ad 5)) rfl dX2_tellOf_77 ?_
    refine VJ.iload_n C 1 dX2_tellOf_80 rfl ?_
    refine VJ.atSN (q0 := 6) C rfl (c_X5_att l G cI cZ cQ cU cJ (ad 5) 24 (Nat.le_of_ble_eq_true rfl) (R 5) x1) (⟨va_cnB 2 C.1.2.2.2.2 gX2_tellOf_X5_at_n116 rfl rfl rfl (C.nestM (List.mem_of_getElem? (i := 35) rfl)) (C.1.2.2.2.2 _ (List.mem_of_getElem? (i := 7) rfl)) hy_X5_at ⟨Nat.le_of_ble_eq_true rfl, Nat.le_of_ble_eq_true rfl⟩, (C.1.2.2.2.2 _ (List.mem_of_getElem? (i := 6) rfl)), trivial⟩) rfl (Nat.le_of_ble_eq_true rfl) dX2_tellOf_81 ⟨Nat.le_of_ble_eq_true rfl, Nat.le_of_ble_eq_true rfl⟩ ⟨rfl, rfl⟩ ?_
    exact VJ.iret C hret rfl rfl dX2_tellOf_84
  refine VJ.case 5 (fun e9 => ?_) (fun n5 => ?_)
  · refine VJ.tabin C 85 dX2_tellOf_1 e9 (by decide) (by decide) rfl (by decide) ?_
    refine VJ.aload_n C 0 dX2_tellOf_85 rfl ?_
    refine VJ.iload_n C 1 dX2_tellOf_86 rfl ?_
    refine VJ.callV1 C [.int x1] (pf [lW cI cZ o ad I R cm]) ([]) (fun r1 => some (.int r1)) (fun r1 => pf [lW cI cZ o ad I R cm]) (fun r1 => pf [lW cI cZ o ad I R cm]) (fun r1 => [.int r1]) 0 0 (fun _ h9 => c_X2_ageOf l G cI cZ cQ cU cJ o ad I R cm x1 _ h9) (vj_p0 _) (fun _ => vj_p0' _) 0 rfl rfl (cwV 1 C.1.2.2.2.2 gX2_tellOf_X2_ageOf rfl rfl rfl hyV_X2_ageOf ⟨Nat.le_of_ble_eq_true rfl, Nat.le_of_ble_eq_true rfl⟩) rfl rfl (fun _ => rfl) (Nat.le_of_ble_eq_true rfl) dX2_tellOf_87 ⟨Nat.le_of_ble_eq_true rfl, Nat.le_of_ble_eq_true rfl⟩ ⟨rfl, rfl⟩ (fun r1 => ?_)
    exact VJ.iret C hret rfl rfl dX2_tellOf_90
  refine VJ.tabout C 91 dX2_tellOf_1 (vj_out0_6 n0 n1 n2 n3 n4 n5) (by decide) ?_
  refine VJ.aload_n C 0 dX2_tellOf_91 rfl ?_
  refine VJ.iload_n C 1 dX2_tellOf_92 rfl ?_
  refine VJ.callV2 C [.int x1] (pf [lW cI cZ o ad I R cm]) ([]) (fun r2 R3 => some (.int r2)) (fun r2 R3 => pf [lW cI cZ o ad I R3 cm]) (fun r2 R3 => pf [lW cI cZ o ad I R3 cm]) (fun r2 R3 => [.int r2]) 0 0 (fun _ h9 => c_X2_lowestOfHousehold l G cI cZ cQ cU cJ N o ad I R cm x1 _ h9) (vj_p0 _) (fun _ _ => vj_p0' _) 0 rfl rfl (cwV 1 C.1.2.2.2.2 gX2_tellOf_X2_lowestOfHousehold rfl rfl rfl hyV_X2_lowestOfHousehold ⟨Nat.le_of_ble_eq_true rfl, Nat.le_of_ble_eq_true rfl⟩) rfl rfl (fun _ _ => rfl) (Nat.le_of_ble_eq_true rfl) dX2_tellOf_93 ⟨Nat.le_of_ble_eq_true rfl, Nat.le_of_ble_eq_true rfl⟩ ⟨rfl, rfl⟩ (fun r2 R3 => ?_)
  exact VJ.iret C hret rfl rfl dX2_tellOf_96

set_option maxHeartbeats 4000000 in
set_option maxRecDepth 100000 in
def f_X2_countLivingUnder_l4b (N : Nat) (I : OI) (R : RI) (cm : Option Nat) (k4 : Int32 → Int32 → Int32 → Option Int32) (x1 : Int32) (x2 : Int32) (x3 : Int32) : Option Int32 :=
  if 24 ≤ x3 then (some x2) else (ob1 (f_X2_isLiving I R cm x3) (fun r1 => if r1 = 0 then (ol (x3 + Int32.ofInt 1) (fun v2 => k4 x1 x2 v2)) else (og x3 24 (ob1 (f_X5_officeOf (R 2 x3.toNatClampNeg)) (fun r3 => if r3 = x1 then (ol (x2 + Int32.ofInt 1) (fun v5 => ol (x3 + Int32.ofInt 1) (fun v6 => k4 x1 v5 v6))) else (ol (x3 + Int32.ofInt 1) (fun v4 => k4 x1 x2 v4)))))))
set_option maxHeartbeats 4000000 in
set_option maxRecDepth 100000 in
def f_X2_countLivingUnder_l4 (N : Nat) (I : OI) (R : RI) (cm : Option Nat) : Nat → Int32 → Int32 → Int32 → Option Int32
  | 0 => fun _ _ _ => none
  | n9 + 1 => f_X2_countLivingUnder_l4b N I R cm (f_X2_countLivingUnder_l4 N I R cm n9)
def f_X2_countLivingUnder (N : Nat) (I : OI) (R : RI) (cm : Option Nat) (x1 : Int32) : Option Int32 :=
  f_X2_countLivingUnder_l4 N I R cm N x1 0 0
abbrev rmX2_countLivingUnder : Room := { frames := 2, cells := 0, slots := 0, locals := 42 }
theorem in_X2_countLivingUnder_X2 : ∀ w ∈ u_ws RX2 TX2 13, w ∈ wsX2_countLivingUnder := in_of 15 rfl
theorem hy_X2_countLivingUnder : yX2_countLivingUnder.cls ≠ "java/lang/invoke/MethodHandle" ∧ yX2_countLivingUnder.cls ≠ "java/lang/invoke/VarHandle" ∧ (parseMethodDescriptor yX2_countLivingUnder.desc).map (fun d => d.parameters.length) = some 1 := by decide +kernel
theorem hyV_X2_countLivingUnder : yX2_countLivingUnder.cls = RX2 ∧ yX2_countLivingUnder.cls ≠ "java/lang/invoke/MethodHandle" ∧ yX2_countLivingUnder.cls ≠ "java/lang/invoke/VarHandle" ∧ (parseMethodDescriptor yX2_countLivingUnder.desc).map (fun d => d.parameters.length) = some 1 := ⟨rfl, hy_X2_countLivingUnder⟩
set_option maxHeartbeats 8000000 in
set_option maxRecDepth 100000 in
theorem c_X2_countLivingUnder (l : Launch) (G : va_G) (cI cZ cQ cU cJ : ClassId) (N : Nat) (o : Nat) (ad : Nat → Nat) (I : OI) (R : RI) (cm : Option Nat) (x1 : Int32) (out : Int32) (hf : f_X2_countLivingUnder N I R cm x1 = some out) : Con l yX2_countLivingUnder wsX2_countLivingUnder rmX2_countLivingUnder G vwCl (tys cI cZ cQ cU cJ) nws [.ref o, .int x1] (pf [lW cI cZ o ad I R cm]) (some (.int out)) (pf [lW cI cZ o ad I R cm]) := by
  refine con_of (rv := fun out : Int32 => some (.int out)) (Wd := fun out : Int32 => pf [lW cI cZ o ad I R cm]) (maxL := 4) (own := RX2) rfl (plainFor_of_name (by decide +kernel)) rfl (Nat.le_of_ble_eq_true rfl) ?_ hf
  intro p e s m args below meth c A C hret hname
  have j4 : ∀ (n9 : Nat) (x1 : Int32) (x2 : Int32) (x3 : Int32), VJ p l e rmX2_countLivingUnder s m args below meth c 4 G vwCl A (QR below G vwCl A args s rmX2_countLivingUnder.cells rmX2_countLivingUnder.slots (fun out : Int32 => some (.int out)) (fun out : Int32 => pf [lW cI cZ o ad I R cm])) 0 0 (f_X2_countLivingUnder_l4 N I R cm  n9 x1 x2 x3) (pf [lW cI cZ o ad I R cm]) 4 [(0, .ref o), (1, .int x1), (2, .int x2), (3, .int x3)] [] := by
    intro  n9
    induction n9 with
    | zero => intro x1 x2 x3; exact VJ.fnone rfl
    | succ n9 i4 =>
      intro x1 x2 x3
      refine VJ.eqf (f' := f_X2_countLivingUnder_l4b N I R cm  (f_X2_countLivingUnder_l4 N I R cm  n9) x1 x2 x3) rfl ?_
      generalize f_X2_countLivingUnder_l4 N I R cm  n9 = k4 at i4 ⊢
      unfold f_X2_countLivingUnder_l4b
      refine VJ.iload_n C 3 dX2_countLivingUnder_4 rfl ?_
      refine VJ.bipush (v := 24) C dX2_countLivingUnder_5 (by decide) ?_
      refine VJ.icmp_ge C 40 dX2_countLivingUnder_7 (by decide) (fun _ => ?_) (fun _ => ?_)
      · refine VJ.iload_n C 2 dX2_countLivingUnder_40 rfl ?_
        exact VJ.iret C hret rfl rfl dX2_countLivingUnder_41
      · refine VJ.aload_n C 0 dX2_countLivingUnder_10 rfl ?_
        refine VJ.iload_n C 3 dX2_countLivingUnder_11 rfl ?_
        refine VJ.callV1 C [.int x3] (pf [lW cI cZ o ad I R cm]) ([]) (fun r1 => some (.int r1)) (fun r1 => pf [lW cI cZ o ad I R cm]) (fun r1 => pf [lW cI cZ o ad I R cm]) (fun r1 => [.int r1]) 0 0 (fun _ h9 => c_X2_isLiving l G cI cZ cQ cU cJ o ad I R cm x3 _ h9) (vj_p0 _) (fun _ => vj_p0' _) 0 rfl rfl (cwV 1 C.1.2.2.2.2 gX2_countLivingUnder_X2_isLiving rfl rfl rfl hyV_X2_isLiving ⟨Nat.le_of_ble_eq_true rfl, Nat.le_of_ble_eq_true rfl⟩) rfl rfl (fun _ => rfl) (Nat.le_of_ble_eq_true rfl) dX2_countLivingUnder_12 ⟨Nat.le_of_ble_eq_true rfl, Nat.le_of_ble_eq_true rfl⟩ ⟨rfl, rfl⟩ (fun r1 => ?_)
        refine VJ.if_eq C 34 dX2_countLivingUnder_15 (by decide) (fun _ => ?_) (fun _ => ?_)
        · refine VJ.iincN C 3 (fun v2 => [(3, .int v2), (0, .ref o), (1, .int x1), (2, .int x2)]) dX2_countLivingUnder_34 rfl (Nat.le_of_ble_eq_true rfl) (fun _ => rfl) (fun v2 => ?_)
          refine VJ.goto C 4 dX2_countLivingUnder_37 (by decide) ?_
          refine VJ.sub [1, 2, 3, 0] rfl ?_
          exact i4 x1 x2 v2
        · refine VJ.aload_n C 0 dX2_countLivingUnder_18 rfl ?_
          refine VJ.get (C0 := RX2) (T := TX2) (N := 13) (ci := 2) C in_X2_countLivingUnder_X2 0 rfl rfl 2 (Nat.le_of_ble_eq_true rfl) (C.1.2.2.2.2 _ (List.mem_of_getElem? (i := 1) rfl)) (fun _ h9 => h9) (v := .ref (ad 2)) rfl dX2_countLivingUnder_19 ?_
          refine VJ.iload_n C 3 dX2_countLivingUnder_22 rfl ?_
          refine VJ.iald C 3 0 rfl rfl dX2_countLivingUnder_23 ?_
          refine VJ.callSN1 C [.int (R 2 x3.toNatClampNeg)] (pf []) (pf [lW cI cZ o ad I R cm]) (fun r3 => some (.int r3)) (fun r3 => pf []) (fun r3 => pf [lW cI cZ o ad I R cm]) (fun r3 => [.int r3]) 0 0 (fun _ h9 => c_X5_officeOf l G cI cZ cQ cU cJ (R 2 x3.toNatClampNeg) _ h9) (vj_pn _) (fun _ => vj_pn' _) (⟨va_cnB 1 C.1.2.2.2.2 gX2_countLivingUnder_X5_officeOf_n185 rfl rfl rfl (C.nestM (List.mem_of_getElem? (i := 48) rfl)) (C.1.2.2.2.2 _ (List.mem_of_getElem? (i := 9) rfl)) hy_X5_officeOf ⟨Nat.le_of_ble_eq_true rfl, Nat.le_of_ble_eq_true rfl⟩, (C.1.2.2.2.2 _ (List.mem_of_getElem? (i := 8) rfl)), trivial⟩) rfl rfl (fun _ => rfl) (Nat.le_of_ble_eq_true rfl) dX2_countLivingUnder_24 ⟨Nat.le_of_ble_eq_true rfl, Nat.le_of_ble_eq_true rfl⟩ ⟨rfl, rfl⟩ (fun r3 => ?_)
          refine VJ.iload_n C 1 dX2_countLivingUnder_27 rfl ?_
          refine VJ.icmp_ne C 34 dX2_countLivingUnder_28 (by decide) (fun _ => ?_) (fun _ => ?_)
          · refine VJ.iincN C 3 (fun v4 => [(3, .int v4), (0, .ref o), (1, .int x1), (2, .int x2)]) dX2_countLivingUnder_34 rfl (Nat.le_of_ble_eq_true rfl) (fun _ => rfl) (fun v4 => ?_)
            refine VJ.goto C 4 dX2_countLivingUnder_37 (by decide) ?_
            refine VJ.sub [1, 2, 3, 0] rfl ?_
            exact i4 x1 x2 v4
          · refine VJ.iincN C 2 (fun v5 => [(2, .int v5), (0, .ref o), (1, .int x1), (3, .int x3)]) dX2_countLivingUnder_31 rfl (Nat.le_of_ble_eq_true rfl) (fun _ => rfl) (fun v5 => ?_)
            refine VJ.iincN C 3 (fun v6 => [(3, .int v6), (2, .int v5), (0, .ref o), (1, .int x1)]) dX2_countLivingUnder_34 rfl (Nat.le_of_ble_eq_true rfl) (fun _ => rfl) (fun v6 => ?_)
            refine VJ.goto C 4 dX2_countLivingUnder_37 (by decide) ?_
            refine VJ.sub [2, 3, 1, 0] rfl ?_
            exact i4 x1 v5 v6
  unfold f_X2_countLivingUnder
  refine VJ.iconst (v := 0) C dX2_countLivingUnder_0 (by decide) ?_
  refine VJ.istore_n C [(2, .int 0), (0, .ref o), (1, .int x1)] dX2_countLivingUnder_1 (Nat.le_of_ble_eq_true rfl) rfl ?_
  refine VJ.iconst (v := 0) C dX2_countLivingUnder_2 (by decide) ?_
  refine VJ.istore_n C [(3, .int 0), (2, .int 0), (0, .ref o), (1, .int x1)] dX2_countLivingUnder_3 (Nat.le_of_ble_eq_true rfl) rfl ?_
  refine VJ.sub [2, 3, 1, 0] rfl ?_
  exact j4 N x1 0 0

def f_X2_isSameIn (I : OI) (R : RI) (cm : Option Nat) (Ib : OI) (Rb : RI) (cmb : Option Nat) (x2 : Int32) : Option Int32 :=
  if (atv 24 (R 1) x2) = (atv 24 (Rb 1) x2) then (if (atv 24 (R 2) x2) = (atv 24 (Rb 2) x2) then (if (atv 24 (R 3) x2) = (atv 24 (Rb 3) x2) then (if (atv 24 (R 4) x2) = (atv 24 (Rb 4) x2) then (if (atv 24 (R 5) x2) = (atv 24 (Rb 5) x2) then (some 1) else (some 0)) else (some 0)) else (some 0)) else (some 0)) else (some 0)
abbrev rmX2_isSameIn : Room := { frames := 1, cells := 0, slots := 0, locals := 21 }
theorem in_X2_isSameIn_X2 : ∀ w ∈ u_ws RX2 TX2 13, w ∈ wsX2_isSameIn := in_of 9 rfl
theorem hy_X2_isSameIn : yX2_isSameIn.cls ≠ "java/lang/invoke/MethodHandle" ∧ yX2_isSameIn.cls ≠ "java/lang/invoke/VarHandle" ∧ (parseMethodDescriptor yX2_isSameIn.desc).map (fun d => d.parameters.length) = some 2 := by decide +kernel
theorem hyV_X2_isSameIn : yX2_isSameIn.cls = RX2 ∧ yX2_isSameIn.cls ≠ "java/lang/invoke/MethodHandle" ∧ yX2_isSameIn.cls ≠ "java/lang/invoke/VarHandle" ∧ (parseMethodDescriptor yX2_isSameIn.desc).map (fun d => d.parameters.length) = some 2 := ⟨rfl, hy_X2_isSameIn⟩
set_option maxHeartbeats 8000000 in
set_option maxRecDepth 100000 in
theorem c_X2_isSameIn (l : Launch) (G : va_G) (cI cZ cQ cU cJ : ClassId) (o : Nat) (ad : Nat → Nat) (I : OI) (R : RI) (cm : Option Nat) (ob : Nat) (adb : Nat → Nat) (Ib : OI) (Rb : RI) (cmb : Option Nat) (x2 : Int32) (out : Int32) (hf : f_X2_isSameIn I R cm Ib Rb cmb x2 = some out) : Con l yX2_isSameIn wsX2_isSameIn rmX2_isSameIn G vwCl (tys cI cZ cQ cU cJ) nws [.ref o, .ref ob, .int x2] (pf [lW cI cZ o ad I R cm, lW cI cZ ob adb Ib Rb cmb]) (some (.int out)) (pf [lW cI cZ o ad I R cm, lW cI cZ ob adb Ib Rb cmb]) := by
  refine con_of (rv := fun out : Int32 => some (.int out)) (Wd := fun out : Int32 => pf [lW cI cZ o ad I R cm, lW cI cZ ob adb Ib Rb cmb]) (maxL := 3) (own := RX2) rfl (plainFor_of_name (by decide +kernel)) rfl (Nat.le_of_ble_eq_true rfl) ?_ hf
  intro p e s m args below meth c A C hret hname
  unfold f_X2_isSameIn
  refine VJ.aload_n C 0 dX2_isSameIn_0 rfl ?_
  refine VJ.get (C0 := RX2) (T := TX2) (N := 13) (ci := 2) C in_X2_isSameIn_X2 0 rfl rfl 1 (Nat.le_of_ble_eq_true rfl) (C.1.2.2.2.2 _ (List.mem_of_getElem? (i := 1) rfl)) (fun _ h9 => h9) (v := .ref (ad 1)) rfl dX2_isSameIn_1 ?_
  refine VJ.iload_n C 2 dX2_isSameIn_4 rfl ?_
  refine VJ.atSN (q0 := 2) C rfl (c_X5_att l G cI cZ cQ cU cJ (ad 1) 24 (Nat.le_of_ble_eq_true rfl) (R 1) x2) (⟨va_cnB 2 C.1.2.2.2.2 gX2_isSameIn_X5_at_n116 rfl rfl rfl (C.nestM (List.mem_of_getElem? (i := 35) rfl)) (C.1.2.2.2.2 _ (List.mem_of_getElem? (i := 7) rfl)) hy_X5_at ⟨Nat.le_of_ble_eq_true rfl, Nat.le_of_ble_eq_true rfl⟩, (C.1.2.2.2.2 _ (List.mem_of_getElem? (i := 6) rfl)), trivial⟩) rfl (Nat.le_of_ble_eq_true rfl) dX2_isSameIn_5 ⟨Nat.le_of_ble_eq_true rfl, Nat.le_of_ble_eq_true rfl⟩ ⟨rfl, rfl⟩ ?_
  refine VJ.aload_n C 1 dX2_isSameIn_8 rfl ?_
  refine VJ.get (C0 := RX2) (T := TX2) (N := 13) (ci := 2) C in_X2_isSameIn_X2 11 rfl rfl 1 (Nat.le_of_ble_eq_true rfl) (C.1.2.2.2.2 _ (List.mem_of_getElem? (i := 1) rfl)) (fun _ h9 => h9) (v := .ref (adb 1)) rfl dX2_isSameIn_9 ?_
  refine VJ.iload_n C 2 dX2_isSameIn_12 rfl ?_
  refine VJ.atSN (q0 := 13) C rfl (c_X5_att l G cI cZ cQ cU cJ (adb 1) 24 (Nat.le_of_ble_eq_true rfl) (Rb 1) x2) (⟨va_cnB 2 C.1.2.2.2.2 gX2_isSameIn_X5_at_n116 rfl rfl rfl (C.nestM (List.mem_of_getElem? (i := 35) rfl)) (C.1.2.2.2.2 _ (List.mem_of_getElem? (i := 7) rfl)) hy_X5_at ⟨Nat.le_of_ble_eq_true rfl, Nat.le_of_ble_eq_true rfl⟩, (C.1.2.2.2.2 _ (List.mem_of_getElem? (i := 6) rfl)), trivial⟩) rfl (Nat.le_of_ble_eq_true rfl) dX2_isSameIn_13 ⟨Nat.le_of_ble_eq_true rfl, Nat.le_of_ble_eq_true rfl⟩ ⟨rfl, rfl⟩ ?_
  refine VJ.icmp_ne C 99 dX2_isSameIn_16 (by decide) (fun _ => ?_) (fun _ => ?_)
  · refine VJ.iconst (v := 0) C dX2_isSameIn_99 (by decide) ?_
    exact VJ.zret C rfl hret rfl rfl dX2_isSameIn_100
  · refine VJ.aload_n C 0 dX2_isSameIn_19 rfl ?_
    refine VJ.get (C0 := RX2) (T := TX2) (N := 13) (ci := 2) C in_X2_isSameIn_X2 0 rfl rfl 2 (Nat.le_of_ble_eq_true rfl) (C.1.2.2.2.2 _ (List.mem_of_getElem? (i := 2) rfl)) (fun _ h9 => h9) (v := .ref (ad 2)) rfl dX2_isSameIn_20 ?_
    refine VJ.iload_n C 2 dX2_isSameIn_23 rfl ?_
    refine VJ.atSN (q0 := 3) C rfl (c_X5_att l G cI cZ cQ cU cJ (ad 2) 24 (Nat.le_of_ble_eq_true rfl) (R 2) x2) (⟨va_cnB 2 C.1.2.2.2.2 gX2_isSameIn_X5_at_n116 rfl rfl rfl (C.nestM (List.mem_of_getElem? (i := 35) rfl)) (C.1.2.2.2.2 _ (List.mem_of_getElem? (i := 7) rfl)) hy_X5_at ⟨Nat.le_of_ble_eq_true rfl, Nat.le_of_ble_eq_true rfl⟩, (C.1.2.2.2.2 _ (List.mem_of_getElem? (i := 6) rfl)), trivial⟩) rfl (Nat.le_of_ble_eq_true rfl) dX2_isSameIn_24 ⟨Nat.le_of_ble_eq_true rfl, Nat.le_of_ble_eq_true rfl⟩ ⟨rfl, rfl⟩ ?_
    refine VJ.aload_n C 1 dX2_isSameIn_27 rfl ?_
    refine VJ.get (C0 := RX2) (T := TX2) (N := 13) (ci := 2) C in_X2_isSameIn_X2 11 rfl rfl 2 (Nat.le_of_ble_eq_true rfl) (C.1.2.2.2.2 _ (List.mem_of_getElem? (i := 2) rfl)) (fun _ h9 => h9) (v := .ref (adb 2)) rfl dX2_isSameIn_28 ?_
    refine VJ.iload_n C 2 dX2_isSameIn_31 rfl ?_
    refine VJ.atSN (q0 := 14) C rfl (c_X5_att l G cI cZ cQ cU cJ (adb 2) 24 (Nat.le_of_ble_eq_true rfl) (Rb 2) x2) (⟨va_cnB 2 C.1.2.2.2.2 gX2_isSameIn_X5_at_n116 rfl rfl rfl (C.nestM (List.mem_of_getElem? (i := 35) rfl)) (C.1.2.2.2.2 _ (List.mem_of_getElem? (i := 7) rfl)) hy_X5_at ⟨Nat.le_of_ble_eq_true rfl, Nat.le_of_ble_eq_true rfl⟩, (C.1.2.2.2.2 _ (List.mem_of_getElem? (i := 6) rfl)), trivial⟩) rfl (Nat.le_of_ble_eq_true rfl) dX2_isSameIn_32 ⟨Nat.le_of_ble_eq_true rfl, Nat.le_of_ble_eq_true rfl⟩ ⟨rfl, rfl⟩ ?_
    refine VJ.icmp_ne C 99 dX2_isSameIn_35 (by decide) (fun _ => ?_) (fun _ => ?_)
    · refine VJ.iconst (v := 0) C dX2_isSameIn_99 (by decide) ?_
      exact VJ.zret C rfl hret rfl rfl dX2_isSameIn_100
    · refine VJ.aload_n C 0 dX2_isSameIn_38 rfl ?_
      refine VJ.get (C0 := RX2) (T := TX2) (N := 13) (ci := 2) C in_X2_isSameIn_X2 0 rfl rfl 3 (Nat.le_of_ble_eq_true rfl) (C.1.2.2.2.2 _ (List.mem_of_getElem? (i := 3) rfl)) (fun _ h9 => h9) (v := .ref (ad 3)) rfl dX2_isSameIn_39 ?_
      refine VJ.iload_n C 2 dX2_isSameIn_42 rfl ?_
      refine VJ.atSN (q0 := 4) C rfl (c_X5_att l G cI cZ cQ cU cJ (ad 3) 24 (Nat.le_of_ble_eq_true rfl) (R 3) x2) (⟨va_cnB 2 C.1.2.2.2.2 gX2_isSameIn_X5_at_n116 rfl rfl rfl (C.nestM (List.mem_of_getElem? (i := 35) rfl)) (C.1.2.2.2.2 _ (List.mem_of_getElem? (i := 7) rfl)) hy_X5_at ⟨Nat.le_of_ble_eq_true rfl, Nat.le_of_ble_eq_true rfl⟩, (C.1.2.2.2.2 _ (List.mem_of_getElem? (i := 6) rfl)), trivial⟩) rfl (Nat.le_of_ble_eq_true rfl) dX2_isSameIn_43 ⟨Nat.le_of_ble_eq_true rfl, Nat.le_of_ble_eq_true rfl⟩ ⟨rfl, rfl⟩ ?_
      refine VJ.aload_n C 1 dX2_isSameIn_46 rfl ?_
      refine VJ.get (C0 := RX2) (T := TX2) (N := 13) (ci := 2) C in_X2_isSameIn_X2 11 rfl rfl 3 (Nat.le_of_ble_eq_true rfl) (C.1.2.2.2.2 _ (List.mem_of_getElem? (i := 3) rfl)) (fun _ h9 => h9) (v := .ref (adb 3)) rfl dX2_isSameIn_47 ?_
      refine VJ.iload_n C 2 dX2_isSameIn_50 rfl ?_
      refine VJ.atSN (q0 := 15) C rfl (c_X5_att l G cI cZ cQ cU cJ (adb 3) 24 (Nat.le_of_ble_eq_true rfl) (Rb 3) x2) (⟨va_cnB 2 C.1.2.2.2.2 gX2_isSameIn_X5_at_n116 rfl rfl rfl (C.nestM (List.mem_of_getElem? (i := 35) rfl)) (C.1.2.2.2.2 _ (List.mem_of_getElem? (i := 7) rfl)) hy_X5_at ⟨Nat.le_of_ble_eq_true rfl, Nat.le_of_ble_eq_true rfl⟩, (C.1.2.2.2.2 _ (List.mem_of_getElem? (i := 6) rfl)), trivial⟩) rfl (Nat.le_of_ble_eq_true rfl) dX2_isSameIn_51 ⟨Nat.le_of_ble_eq_true rfl, Nat.le_of_ble_eq_true rfl⟩ ⟨rfl, rfl⟩ ?_
      refine VJ.icmp_ne C 99 dX2_isSameIn_54 (by decide) (fun _ => ?_) (fun _ => ?_)
      · refine VJ.iconst (v := 0) C dX2_isSameIn_99 (by decide) ?_
        exact VJ.zret C rfl hret rfl rfl dX2_isSameIn_100
      · refine VJ.aload_n C 0 dX2_isSameIn_57 rfl ?_
        refine VJ.get (C0 := RX2) (T := TX2) (N := 13) (ci := 2) C in_X2_isSameIn_X2 0 rfl rfl 4 (Nat.le_of_ble_eq_true rfl) (C.1.2.2.2.2 _ (List.mem_of_getElem? (i := 4) rfl)) (fun _ h9 => h9) (v := .ref (ad 4)) rfl dX2_isSameIn_58 ?_
        refine VJ.iload_n C 2 dX2_isSameIn_61 rfl ?_
        refine VJ.atSN (q0 := 5) C rfl (c_X5_att l G cI cZ cQ cU cJ (ad 4) 24 (Nat.le_of_ble_eq_true rfl) (R 4) x2) (⟨va_cnB 2 C.1.2.2.2.2 gX2_isSameIn_X5_at_n116 rfl rfl rfl (C.nestM (List.mem_of_getElem? (i := 35) rfl)) (C.1.2.2.2.2 _ (List.mem_of_getElem? (i := 7) rfl)) hy_X5_at ⟨Nat.le_of_ble_eq_true rfl, Nat.le_of_ble_eq_true rfl⟩, (C.1.2.2.2.2 _ (List.mem_of_getElem? (i := 6) rfl)), trivial⟩) rfl (Nat.le_of_ble_eq_true rfl) dX2_isSameIn_62 ⟨Nat.le_of_ble_eq_true rfl, Nat.le_of_ble_eq_true rfl⟩ ⟨rfl, rfl⟩ ?_
        refine VJ.aload_n C 1 dX2_isSameIn_65 rfl ?_
        refine VJ.get (C0 := RX2) (T := TX2) (N := 13) (ci := 2) C in_X2_isSameIn_X2 11 rfl rfl 4 (Nat.le_of_ble_eq_true rfl) (C.1.2.2.2.2 _ (List.mem_of_getElem? (i := 4) rfl)) (fun _ h9 => h9) (v := .ref (adb 4)) rfl dX2_isSameIn_66 ?_
        refine VJ.iload_n C 2 dX2_isSameIn_69 rfl ?_
        refine VJ.atSN (q0 := 16) C rfl (c_X5_att l G cI cZ cQ cU cJ (adb 4) 24 (Nat.le_of_ble_eq_true rfl) (Rb 4) x2) (⟨va_cnB 2 C.1.2.2.2.2 gX2_isSameIn_X5_at_n116 rfl rfl rfl (C.nestM (List.mem_of_getElem? (i := 35) rfl)) (C.1.2.2.2.2 _ (List.mem_of_getElem? (i := 7) rfl)) hy_X5_at ⟨Nat.le_of_ble_eq_true rfl, Nat.le_of_ble_eq_true rfl⟩, (C.1.2.2.2.2 _ (List.mem_of_getElem? (i := 6) rfl)), trivial⟩) rfl (Nat.le_of_ble_eq_true rfl) dX2_isSameIn_70 ⟨Nat.le_of_ble_eq_true rfl, Nat.le_of_ble_eq_true rfl⟩ ⟨rfl, rfl⟩ ?_
        refine VJ.icmp_ne C 99 dX2_isSameIn_73 (by decide) (fun _ => ?_) (fun _ => ?_)
        · refine VJ.iconst (v := 0) C dX2_isSameIn_99 (by decide) ?_
          exact VJ.zret C rfl hret rfl rfl dX2_isSameIn_100
        · refine VJ.aload_n C 0 dX2_isSameIn_76 rfl ?_
          refine VJ.get (C0 := RX2) (T := TX2) (N := 13) (ci := 2) C in_X2_isSameIn_X2 0 rfl rfl 5 (Nat.le_of_ble_eq_true rfl) (C.1.2.2.2.2 _ (List.mem_of_getElem? (i := 5) rfl)) (fun _ h9 => h9) (v := .ref (ad 5)) rfl dX2_isSameIn_77 ?_
          refine VJ.iload_n C 2 dX2_isSameIn_80 rfl ?_
          refine VJ.atSN (q0 := 6) C rfl (c_X5_att l G cI cZ cQ cU cJ (ad 5) 24 (Nat.le_of_ble_eq_true rfl) (R 5) x2) (⟨va_cnB 2 C.1.2.2.2.2 gX2_isSameIn_X5_at_n116 rfl rfl rfl (C.nestM (List.mem_of_getElem? (i := 35) rfl)) (C.1.2.2.2.2 _ (List.mem_of_getElem? (i := 7) rfl)) hy_X5_at ⟨Nat.le_of_ble_eq_true rfl, Nat.le_of_ble_eq_true rfl⟩, (C.1.2.2.2.2 _ (List.mem_of_getElem? (i := 6) rfl)), trivial⟩) rfl (Nat.le_of_ble_eq_true rfl) dX2_isSameIn_81 ⟨Nat.le_of_ble_eq_true rfl, Nat.le_of_ble_eq_true rfl⟩ ⟨rfl, rfl⟩ ?_
          refine VJ.aload_n C 1 dX2_isSameIn_84 rfl ?_
          refine VJ.get (C0 := RX2) (T := TX2) (N := 13) (ci := 2) C in_X2_isSameIn_X2 11 rfl rfl 5 (Nat.le_of_ble_eq_true rfl) (C.1.2.2.2.2 _ (List.mem_of_getElem? (i := 5) rfl)) (fun _ h9 => h9) (v := .ref (adb 5)) rfl dX2_isSameIn_85 ?_
          refine VJ.iload_n C 2 dX2_isSameIn_88 rfl ?_
          refine VJ.atSN (q0 := 17) C rfl (c_X5_att l G cI cZ cQ cU cJ (adb 5) 24 (Nat.le_of_ble_eq_true rfl) (Rb 5) x2) (⟨va_cnB 2 C.1.2.2.2.2 gX2_isSameIn_X5_at_n116 rfl rfl rfl (C.nestM (List.mem_of_getElem? (i := 35) rfl)) (C.1.2.2.2.2 _ (List.mem_of_getElem? (i := 7) rfl)) hy_X5_at ⟨Nat.le_of_ble_eq_true rfl, Nat.le_of_ble_eq_true rfl⟩, (C.1.2.2.2.2 _ (List.mem_of_getElem? (i := 6) rfl)), trivial⟩) rfl (Nat.le_of_ble_eq_true rfl) dX2_isSameIn_89 ⟨Nat.le_of_ble_eq_true rfl, Nat.le_of_ble_eq_true rfl⟩ ⟨rfl, rfl⟩ ?_
          refine VJ.icmp_ne C 99 dX2_isSameIn_92 (by decide) (fun _ => ?_) (fun _ => ?_)
          · refine VJ.iconst (v := 0) C dX2_isSameIn_99 (by decide) ?_
            exact VJ.zret C rfl hret rfl rfl dX2_isSameIn_100
          · refine VJ.iconst (v := 1) C dX2_isSameIn_95 (by decide) ?_
            refine VJ.goto C 100 dX2_isSameIn_96 (by decide) ?_
            exact VJ.zret C rfl hret rfl rfl dX2_isSameIn_100

set_option maxHeartbeats 4000000 in
set_option maxRecDepth 100000 in
def f_X2_originFor_j40 (I : OI) (R : RI) (cm : Option Nat) (x1 : Int32) : Option Int32 :=
  some (atv 24 (R 6) x1)
def f_X2_originFor (I : OI) (R : RI) (cm : Option Nat) (x1 : Int32) (x2 : Int32) : Option Int32 :=
  ol (atv 24 (R 0) x2) (fun v1 => if (isv 24 (R 8) x1) = 0 then (f_X2_originFor_j40 I R cm x1) else (if v1 = x1 then (f_X2_originFor_j40 I R cm x1) else (if v1 = (atv 24 (R 5) x1) then (f_X2_originFor_j40 I R cm x1) else (some (-2)))))
abbrev rmX2_originFor : Room := { frames := 1, cells := 0, slots := 0, locals := 21 }
theorem in_X2_originFor_X2 : ∀ w ∈ u_ws RX2 TX2 13, w ∈ wsX2_originFor := in_of 10 rfl
theorem hy_X2_originFor : yX2_originFor.cls ≠ "java/lang/invoke/MethodHandle" ∧ yX2_originFor.cls ≠ "java/lang/invoke/VarHandle" ∧ (parseMethodDescriptor yX2_originFor.desc).map (fun d => d.parameters.length) = some 2 := by decide +kernel
theorem hyV_X2_originFor : yX2_originFor.cls = RX2 ∧ yX2_originFor.cls ≠ "java/lang/invoke/MethodHandle" ∧ yX2_originFor.cls ≠ "java/lang/invoke/VarHandle" ∧ (parseMethodDescriptor yX2_originFor.desc).map (fun d => d.parameters.length) = some 2 := ⟨rfl, hy_X2_originFor⟩
set_option maxHeartbeats 8000000 in
set_option maxRecDepth 100000 in
theorem c_X2_originFor (l : Launch) (G : va_G) (cI cZ cQ cU cJ : ClassId) (o : Nat) (ad : Nat → Nat) (I : OI) (R : RI) (cm : Option Nat) (x1 : Int32) (x2 : Int32) (out : Int32) (hf : f_X2_originFor I R cm x1 x2 = some out) : Con l yX2_originFor wsX2_originFor rmX2_originFor G vwCl (tys cI cZ cQ cU cJ) nws [.ref o, .int x1, .int x2] (pf [lW cI cZ o ad I R cm]) (some (.int out)) (pf [lW cI cZ o ad I R cm]) := by
  refine con_of (rv := fun out : Int32 => some (.int out)) (Wd := fun out : Int32 => pf [lW cI cZ o ad I R cm]) (maxL := 4) (own := RX2) rfl (plainFor_of_name (by decide +kernel)) rfl (Nat.le_of_ble_eq_true rfl) ?_ hf
  intro p e s m args below meth c A C hret hname
  have j40 : ∀ (x1 : Int32), VJ p l e rmX2_originFor s m args below meth c 4 G vwCl A (QR below G vwCl A args s rmX2_originFor.cells rmX2_originFor.slots (fun out : Int32 => some (.int out)) (fun out : Int32 => pf [lW cI cZ o ad I R cm])) 0 0 (f_X2_originFor_j40 I R cm  x1) (pf [lW cI cZ o ad I R cm]) 40 [(0, .ref o), (1, .int x1)] [] := by
    intro  x1
    unfold f_X2_originFor_j40
    refine VJ.aload_n C 0 dX2_originFor_40 rfl ?_
    refine VJ.get (C0 := RX2) (T := TX2) (N := 13) (ci := 2) C in_X2_originFor_X2 0 rfl rfl 6 (Nat.le_of_ble_eq_true rfl) (C.1.2.2.2.2 _ (List.mem_of_getElem? (i := 4) rfl)) (fun _ h9 => h9) (v := .ref (ad 6)) rfl dX2_originFor_41 ?_
    refine VJ.iload_n C 1 dX2_originFor_44 rfl ?_
    refine VJ.atSN (q0 := 7) C rfl (c_X5_att l G cI cZ cQ cU cJ (ad 6) 24 (Nat.le_of_ble_eq_true rfl) (R 6) x1) (⟨va_cnB 2 C.1.2.2.2.2 gX2_originFor_X5_at_n116 rfl rfl rfl (C.nestM (List.mem_of_getElem? (i := 35) rfl)) (C.1.2.2.2.2 _ (List.mem_of_getElem? (i := 6) rfl)) hy_X5_at ⟨Nat.le_of_ble_eq_true rfl, Nat.le_of_ble_eq_true rfl⟩, (C.1.2.2.2.2 _ (List.mem_of_getElem? (i := 5) rfl)), trivial⟩) rfl (Nat.le_of_ble_eq_true rfl) dX2_originFor_45 ⟨Nat.le_of_ble_eq_true rfl, Nat.le_of_ble_eq_true rfl⟩ ⟨rfl, rfl⟩ ?_
    exact VJ.iret C hret rfl rfl dX2_originFor_48
  unfold f_X2_originFor
  refine VJ.aload_n C 0 dX2_originFor_0 rfl ?_
  refine VJ.get (C0 := RX2) (T := TX2) (N := 13) (ci := 2) C in_X2_originFor_X2 0 rfl rfl 0 (Nat.le_of_ble_eq_true rfl) (C.1.2.2.2.2 _ (List.mem_of_getElem? (i := 1) rfl)) (fun _ h9 => h9) (v := .ref (ad 0)) rfl dX2_originFor_1 ?_
  refine VJ.iload_n C 2 dX2_originFor_4 rfl ?_
  refine VJ.atSN (q0 := 1) C rfl (c_X5_att l G cI cZ cQ cU cJ (ad 0) 24 (Nat.le_of_ble_eq_true rfl) (R 0) x2) (⟨va_cnB 2 C.1.2.2.2.2 gX2_originFor_X5_at_n116 rfl rfl rfl (C.nestM (List.mem_of_getElem? (i := 35) rfl)) (C.1.2.2.2.2 _ (List.mem_of_getElem? (i := 6) rfl)) hy_X5_at ⟨Nat.le_of_ble_eq_true rfl, Nat.le_of_ble_eq_true rfl⟩, (C.1.2.2.2.2 _ (List.mem_of_getElem? (i := 5) rfl)), trivial⟩) rfl (Nat.le_of_ble_eq_true rfl) dX2_originFor_5 ⟨Nat.le_of_ble_eq_true rfl, Nat.le_of_ble_eq_true rfl⟩ ⟨rfl, rfl⟩ ?_
  refine VJ.topi C (fun v1 => ?_)
  refine VJ.istore_n C [(3, .int v1), (0, .ref o), (1, .int x1), (2, .int x2)] dX2_originFor_8 (Nat.le_of_ble_eq_true rfl) rfl ?_
  refine VJ.aload_n C 1 dX2_originFor_9 rfl ?_
  refine VJ.get (C0 := RX2) (T := TX2) (N := 13) (ci := 2) C in_X2_originFor_X2 0 rfl rfl 8 (Nat.le_of_ble_eq_true rfl) (C.1.2.2.2.2 _ (List.mem_of_getElem? (i := 2) rfl)) (fun _ h9 => h9) (v := .ref (ad 8)) rfl dX2_originFor_10 ?_
  refine VJ.iload_n C 2 dX2_originFor_13 rfl ?_
  refine VJ.atSN (q0 := 9) C rfl (c_X5_isSett l G cI cZ cQ cU cJ (ad 8) 24 (Nat.le_of_ble_eq_true rfl) (R 8) x1) (⟨va_cnB 2 C.1.2.2.2.2 gX2_originFor_X5_isSet_n188 rfl rfl rfl (C.nestM (List.mem_of_getElem? (i := 51) rfl)) (C.1.2.2.2.2 _ (List.mem_of_getElem? (i := 6) rfl)) hy_X5_isSet ⟨Nat.le_of_ble_eq_true rfl, Nat.le_of_ble_eq_true rfl⟩, (C.1.2.2.2.2 _ (List.mem_of_getElem? (i := 8) rfl)), trivial⟩) rfl (Nat.le_of_ble_eq_true rfl) dX2_originFor_14 ⟨Nat.le_of_ble_eq_true rfl, Nat.le_of_ble_eq_true rfl⟩ ⟨rfl, rfl⟩ ?_
  refine VJ.if_eq C 40 dX2_originFor_17 (by decide) (fun _ => ?_) (fun _ => ?_)
  · refine VJ.sub [1, 2] rfl ?_
    exact j40 x1
  · refine VJ.iload_n C 0 dX2_originFor_20 rfl ?_
    refine VJ.iload_n C 2 dX2_originFor_21 rfl ?_
    refine VJ.icmp_eq C 40 dX2_originFor_22 (by decide) (fun _ => ?_) (fun _ => ?_)
    · refine VJ.sub [1, 2] rfl ?_
      exact j40 x1
    · refine VJ.iload_n C 0 dX2_originFor_25 rfl ?_
      refine VJ.aload_n C 1 dX2_originFor_26 rfl ?_
      refine VJ.get (C0 := RX2) (T := TX2) (N := 13) (ci := 2) C in_X2_originFor_X2 0 rfl rfl 5 (Nat.le_of_ble_eq_true rfl) (C.1.2.2.2.2 _ (List.mem_of_getElem? (i := 3) rfl)) (fun _ h9 => h9) (v := .ref (ad 5)) rfl dX2_originFor_27 ?_
      refine VJ.iload_n C 2 dX2_originFor_30 rfl ?_
      refine VJ.atSN (q0 := 6) C rfl (c_X5_att l G cI cZ cQ cU cJ (ad 5) 24 (Nat.le_of_ble_eq_true rfl) (R 5) x1) (⟨va_cnB 2 C.1.2.2.2.2 gX2_originFor_X5_at_n116 rfl rfl rfl (C.nestM (List.mem_of_getElem? (i := 35) rfl)) (C.1.2.2.2.2 _ (List.mem_of_getElem? (i := 6) rfl)) hy_X5_at ⟨Nat.le_of_ble_eq_true rfl, Nat.le_of_ble_eq_true rfl⟩, (C.1.2.2.2.2 _ (List.mem_of_getElem? (i := 5) rfl)), trivial⟩) rfl (Nat.le_of_ble_eq_true rfl) dX2_originFor_31 ⟨Nat.le_of_ble_eq_true rfl, Nat.le_of_ble_eq_true rfl⟩ ⟨rfl, rfl⟩ ?_
      refine VJ.icmp_eq C 40 dX2_originFor_34 (by decide) (fun _ => ?_) (fun _ => ?_)
      · refine VJ.sub [1, 2] rfl ?_
        exact j40 x1
      · refine VJ.bipush (v := (-2)) C dX2_originFor_37 (by decide) ?_
        exact VJ.iret C hret rfl rfl dX2_originFor_39

set_option maxHeartbeats 4000000 in
set_option maxRecDepth 100000 in
def f_X2_countLikeness_j85 (I : OI) (R : RI) (cm : Option Nat) (x1 : Int32) (x2 : Int32) (x3 : Int32) : Option Int32 :=
  ob1 (f_X2_areInOneDwelling I R cm x1 x2) (fun r4 => if r4 = 0 then (some x3) else (ol (x3 + Int32.ofInt 2) (fun v5 => some v5)))
set_option maxHeartbeats 4000000 in
set_option maxRecDepth 100000 in
def f_X2_countLikeness_j63 (I : OI) (R : RI) (cm : Option Nat) (x1 : Int32) (x2 : Int32) (x3 : Int32) : Option Int32 :=
  if (atv 24 (R 3) x1) = (atv 24 (R 3) x2) then (ol (x3 + Int32.ofInt 3) (fun v6 => f_X2_countLikeness_j85 I R cm x1 x2 v6)) else (f_X2_countLikeness_j85 I R cm x1 x2 x3)
def f_X2_countLikeness (I : OI) (R : RI) (cm : Option Nat) (x1 : Int32) (x2 : Int32) : Option Int32 :=
  ob1 (f_X2_isBorn I R cm x1) (fun r1 => if r1 = 0 then (some 0) else (ob1 (f_X2_isBorn I R cm x2) (fun r2 => if r2 = 0 then (some 0) else (ol (if 0 ≤ ((atv 24 (R 7) x1) - (atv 24 (R 7) x2)) then ((atv 24 (R 7) x1) - (atv 24 (R 7) x2)) else 0 - ((atv 24 (R 7) x1) - (atv 24 (R 7) x2))) (fun v3 => if v3 = 0 then (ol (0 + Int32.ofInt 5) (fun v8 => f_X2_countLikeness_j63 I R cm x1 x2 v8)) else (if 31 < v3 then (f_X2_countLikeness_j63 I R cm x1 x2 0) else (ol (0 + Int32.ofInt 2) (fun v7 => f_X2_countLikeness_j63 I R cm x1 x2 v7))))))))
abbrev rmX2_countLikeness : Room := { frames := 2, cells := 0, slots := 0, locals := 43 }
theorem in_X2_countLikeness_X2 : ∀ w ∈ u_ws RX2 TX2 13, w ∈ wsX2_countLikeness := in_of 25 rfl
theorem hy_X2_countLikeness : yX2_countLikeness.cls ≠ "java/lang/invoke/MethodHandle" ∧ yX2_countLikeness.cls ≠ "java/lang/invoke/VarHandle" ∧ (parseMethodDescriptor yX2_countLikeness.desc).map (fun d => d.parameters.length) = some 2 := by decide +kernel
theorem hyV_X2_countLikeness : yX2_countLikeness.cls = RX2 ∧ yX2_countLikeness.cls ≠ "java/lang/invoke/MethodHandle" ∧ yX2_countLikeness.cls ≠ "java/lang/invoke/VarHandle" ∧ (parseMethodDescriptor yX2_countLikeness.desc).map (fun d => d.parameters.length) = some 2 := ⟨rfl, hy_X2_countLikeness⟩
set_option maxHeartbeats 8000000 in
set_option maxRecDepth 100000 in
theorem c_X2_countLikeness (l : Launch) (G : va_G) (cI cZ cQ cU cJ : ClassId) (o : Nat) (ad : Nat → Nat) (I : OI) (R : RI) (cm : Option Nat) (x1 : Int32) (x2 : Int32) (out : Int32) (hf : f_X2_countLikeness I R cm x1 x2 = some out) : Con l yX2_countLikeness wsX2_countLikeness rmX2_countLikeness G vwCl (tys cI cZ cQ cU cJ) nws [.ref o, .int x1, .int x2] (pf [lW cI cZ o ad I R cm]) (some (.int out)) (pf [lW cI cZ o ad I R cm]) := by
  refine con_of (rv := fun out : Int32 => some (.int out)) (Wd := fun out : Int32 => pf [lW cI cZ o ad I R cm]) (maxL := 5) (own := RX2) rfl (plainFor_of_name (by decide +kernel)) rfl (Nat.le_of_ble_eq_true rfl) ?_ hf
  intro p e s m args below meth c A C hret hname
  have j85 : ∀ (x1 : Int32) (x2 : Int32) (x3 : Int32), VJ p l e rmX2_countLikeness s m args below meth c 5 G vwCl A (QR below G vwCl A args s rmX2_countLikeness.cells rmX2_countLikeness.slots (fun out : Int32 => some (.int out)) (fun out : Int32 => pf [lW cI cZ o ad I R cm])) 0 0 (f_X2_countLikeness_j85 I R cm  x1 x2 x3) (pf [lW cI cZ o ad I R cm]) 85 [(0, .ref o), (1, .int x1), (2, .int x2), (3, .int x3)] [] := by
    intro  x1 x2 x3
    unfold f_X2_countLikeness_j85
    refine VJ.aload_n C 0 dX2_countLikeness_85 rfl ?_
    refine VJ.iload_n C 1 dX2_countLikeness_86 rfl ?_
    refine VJ.iload_n C 2 dX2_countLikeness_87 rfl ?_
    refine VJ.callV1 C [.int x1, .int x2] (pf [lW cI cZ o ad I R cm]) ([]) (fun r4 => some (.int r4)) (fun r4 => pf [lW cI cZ o ad I R cm]) (fun r4 => pf [lW cI cZ o ad I R cm]) (fun r4 => [.int r4]) 0 0 (fun _ h9 => c_X2_areInOneDwelling l G cI cZ cQ cU cJ o ad I R cm x1 x2 _ h9) (vj_p0 _) (fun _ => vj_p0' _) 0 rfl rfl (cwV 2 C.1.2.2.2.2 gX2_countLikeness_X2_areInOneDwelling rfl rfl rfl hyV_X2_areInOneDwelling ⟨Nat.le_of_ble_eq_true rfl, Nat.le_of_ble_eq_true rfl⟩) rfl rfl (fun _ => rfl) (Nat.le_of_ble_eq_true rfl) dX2_countLikeness_88 ⟨Nat.le_of_ble_eq_true rfl, Nat.le_of_ble_eq_true rfl⟩ ⟨rfl, rfl⟩ (fun r4 => ?_)
    refine VJ.if_eq C 97 dX2_countLikeness_91 (by decide) (fun _ => ?_) (fun _ => ?_)
    · refine VJ.iload_n C 3 dX2_countLikeness_97 rfl ?_
      exact VJ.iret C hret rfl rfl dX2_countLikeness_98
    · refine VJ.iincN C 3 (fun v5 => [(3, .int v5), (0, .ref o), (1, .int x1), (2, .int x2)]) dX2_countLikeness_94 rfl (Nat.le_of_ble_eq_true rfl) (fun _ => rfl) (fun v5 => ?_)
      refine VJ.iload_n C 0 dX2_countLikeness_97 rfl ?_
      exact VJ.iret C hret rfl rfl dX2_countLikeness_98
  have j63 : ∀ (x1 : Int32) (x2 : Int32) (x3 : Int32), VJ p l e rmX2_countLikeness s m args below meth c 5 G vwCl A (QR below G vwCl A args s rmX2_countLikeness.cells rmX2_countLikeness.slots (fun out : Int32 => some (.int out)) (fun out : Int32 => pf [lW cI cZ o ad I R cm])) 0 0 (f_X2_countLikeness_j63 I R cm  x1 x2 x3) (pf [lW cI cZ o ad I R cm]) 63 [(0, .ref o), (1, .int x1), (2, .int x2), (3, .int x3)] [] := by
    intro  x1 x2 x3
    unfold f_X2_countLikeness_j63
    refine VJ.aload_n C 0 dX2_countLikeness_63 rfl ?_
    refine VJ.get (C0 := RX2) (T := TX2) (N := 13) (ci := 2) C in_X2_countLikeness_X2 0 rfl rfl 3 (Nat.le_of_ble_eq_true rfl) (C.1.2.2.2.2 _ (List.mem_of_getElem? (i := 6) rfl)) (fun _ h9 => h9) (v := .ref (ad 3)) rfl dX2_countLikeness_64 ?_
    refine VJ.iload_n C 1 dX2_countLikeness_67 rfl ?_
    refine VJ.atSN (q0 := 4) C rfl (c_X5_att l G cI cZ cQ cU cJ (ad 3) 24 (Nat.le_of_ble_eq_true rfl) (R 3) x1) (⟨va_cnB 2 C.1.2.2.2.2 gX2_countLikeness_X5_at_n116 rfl rfl rfl (C.nestM (List.mem_of_getElem? (i := 35) rfl)) (C.1.2.2.2.2 _ (List.mem_of_getElem? (i := 14) rfl)) hy_X5_at ⟨Nat.le_of_ble_eq_true rfl, Nat.le_of_ble_eq_true rfl⟩, (C.1.2.2.2.2 _ (List.mem_of_getElem? (i := 13) rfl)), trivial⟩) rfl (Nat.le_of_ble_eq_true rfl) dX2_countLikeness_68 ⟨Nat.le_of_ble_eq_true rfl, Nat.le_of_ble_eq_true rfl⟩ ⟨rfl, rfl⟩ ?_
    refine VJ.aload_n C 0 dX2_countLikeness_71 rfl ?_
    refine VJ.get (C0 := RX2) (T := TX2) (N := 13) (ci := 2) C in_X2_countLikeness_X2 0 rfl rfl 3 (Nat.le_of_ble_eq_true rfl) (C.1.2.2.2.2 _ (List.mem_of_getElem? (i := 6) rfl)) (fun _ h9 => h9) (v := .ref (ad 3)) rfl dX2_countLikeness_72 ?_
    refine VJ.iload_n C 2 dX2_countLikeness_75 rfl ?_
    refine VJ.atSN (q0 := 4) C rfl (c_X5_att l G cI cZ cQ cU cJ (ad 3) 24 (Nat.le_of_ble_eq_true rfl) (R 3) x2) (⟨va_cnB 2 C.1.2.2.2.2 gX2_countLikeness_X5_at_n116 rfl rfl rfl (C.nestM (List.mem_of_getElem? (i := 35) rfl)) (C.1.2.2.2.2 _ (List.mem_of_getElem? (i := 14) rfl)) hy_X5_at ⟨Nat.le_of_ble_eq_true rfl, Nat.le_of_ble_eq_true rfl⟩, (C.1.2.2.2.2 _ (List.mem_of_getElem? (i := 13) rfl)), trivial⟩) rfl (Nat.le_of_ble_eq_true rfl) dX2_countLikeness_76 ⟨Nat.le_of_ble_eq_true rfl, Nat.le_of_ble_eq_true rfl⟩ ⟨rfl, rfl⟩ ?_
    refine VJ.icmp_ne C 85 dX2_countLikeness_79 (by decide) (fun _ => ?_) (fun _ => ?_)
    · exact j85 x1 x2 x3
    · refine VJ.iincN C 3 (fun v6 => [(3, .int v6), (0, .ref o), (1, .int x1), (2, .int x2)]) dX2_countLikeness_82 rfl (Nat.le_of_ble_eq_true rfl) (fun _ => rfl) (fun v6 => ?_)
      refine VJ.sub [1, 2, 3, 0] rfl ?_
      exact j85 x1 x2 v6
  unfold f_X2_countLikeness
  refine VJ.aload_n C 0 dX2_countLikeness_0 rfl ?_
  refine VJ.iload_n C 1 dX2_countLikeness_1 rfl ?_
  refine VJ.callV1 C [.int x1] (pf [lW cI cZ o ad I R cm]) ([]) (fun r1 => some (.int r1)) (fun r1 => pf [lW cI cZ o ad I R cm]) (fun r1 => pf [lW cI cZ o ad I R cm]) (fun r1 => [.int r1]) 0 0 (fun _ h9 => c_X2_isBorn l G cI cZ cQ cU cJ o ad I R cm x1 _ h9) (vj_p0 _) (fun _ => vj_p0' _) 0 rfl rfl (cwV 1 C.1.2.2.2.2 gX2_countLikeness_X2_isBorn rfl rfl rfl hyV_X2_isBorn ⟨Nat.le_of_ble_eq_true rfl, Nat.le_of_ble_eq_true rfl⟩) rfl rfl (fun _ => rfl) (Nat.le_of_ble_eq_true rfl) dX2_countLikeness_2 ⟨Nat.le_of_ble_eq_true rfl, Nat.le_of_ble_eq_true rfl⟩ ⟨rfl, rfl⟩ (fun r1 => ?_)
  refine VJ.if_eq C 16 dX2_countLikeness_5 (by decide) (fun _ => ?_) (fun _ => ?_)
  · refine VJ.iconst (v := 0) C dX2_countLikeness_16 (by decide) ?_
    exact VJ.iret C hret rfl rfl dX2_countLikeness_17
  · refine VJ.aload_n C 0 dX2_countLikeness_8 rfl ?_
    refine VJ.iload_n C 2 dX2_countLikeness_9 rfl ?_
    refine VJ.callV1 C [.int x2] (pf [lW cI cZ o ad I R cm]) ([]) (fun r2 => some (.int r2)) (fun r2 => pf [lW cI cZ o ad I R cm]) (fun r2 => pf [lW cI cZ o ad I R cm]) (fun r2 => [.int r2]) 0 0 (fun _ h9 => c_X2_isBorn l G cI cZ cQ cU cJ o ad I R cm x2 _ h9) (vj_p0 _) (fun _ => vj_p0' _) 0 rfl rfl (cwV 1 C.1.2.2.2.2 gX2_countLikeness_X2_isBorn rfl rfl rfl hyV_X2_isBorn ⟨Nat.le_of_ble_eq_true rfl, Nat.le_of_ble_eq_true rfl⟩) rfl rfl (fun _ => rfl) (Nat.le_of_ble_eq_true rfl) dX2_countLikeness_10 ⟨Nat.le_of_ble_eq_true rfl, Nat.le_of_ble_eq_true rfl⟩ ⟨rfl, rfl⟩ (fun r2 => ?_)
    refine VJ.if_ne C 18 dX2_countLikeness_13 (by decide) (fun _ => ?_) (fun _ => ?_)
    · refine VJ.iconst (v := 0) C dX2_countLikeness_18 (by decide) ?_
      refine VJ.istore_n C [(3, .int 0), (0, .ref o), (1, .int x1), (2, .int x2)] dX2_countLikeness_19 (Nat.le_of_ble_eq_true rfl) rfl ?_
      refine VJ.aload_n C 1 dX2_countLikeness_20 rfl ?_
      refine VJ.get (C0 := RX2) (T := TX2) (N := 13) (ci := 2) C in_X2_countLikeness_X2 0 rfl rfl 7 (Nat.le_of_ble_eq_true rfl) (C.1.2.2.2.2 _ (List.mem_of_getElem? (i := 1) rfl)) (fun _ h9 => h9) (v := .ref (ad 7)) rfl dX2_countLikeness_21 ?_
      refine VJ.iload_n C 2 dX2_countLikeness_24 rfl ?_
      refine VJ.atSN (q0 := 8) C rfl (c_X5_att l G cI cZ cQ cU cJ (ad 7) 24 (Nat.le_of_ble_eq_true rfl) (R 7) x1) (⟨va_cnB 2 C.1.2.2.2.2 gX2_countLikeness_X5_at_n116 rfl rfl rfl (C.nestM (List.mem_of_getElem? (i := 35) rfl)) (C.1.2.2.2.2 _ (List.mem_of_getElem? (i := 14) rfl)) hy_X5_at ⟨Nat.le_of_ble_eq_true rfl, Nat.le_of_ble_eq_true rfl⟩, (C.1.2.2.2.2 _ (List.mem_of_getElem? (i := 13) rfl)), trivial⟩) rfl (Nat.le_of_ble_eq_true rfl) dX2_countLikeness_25 ⟨Nat.le_of_ble_eq_true rfl, Nat.le_of_ble_eq_true rfl⟩ ⟨rfl, rfl⟩ ?_
      refine VJ.aload_n C 1 dX2_countLikeness_28 rfl ?_
      refine VJ.get (C0 := RX2) (T := TX2) (N := 13) (ci := 2) C in_X2_countLikeness_X2 0 rfl rfl 7 (Nat.le_of_ble_eq_true rfl) (C.1.2.2.2.2 _ (List.mem_of_getElem? (i := 1) rfl)) (fun _ h9 => h9) (v := .ref (ad 7)) rfl dX2_countLikeness_29 ?_
      refine VJ.iload_n C 3 dX2_countLikeness_32 rfl ?_
      refine VJ.atSN (q0 := 8) C rfl (c_X5_att l G cI cZ cQ cU cJ (ad 7) 24 (Nat.le_of_ble_eq_true rfl) (R 7) x2) (⟨va_cnB 2 C.1.2.2.2.2 gX2_countLikeness_X5_at_n116 rfl rfl rfl (C.nestM (List.mem_of_getElem? (i := 35) rfl)) (C.1.2.2.2.2 _ (List.mem_of_getElem? (i := 14) rfl)) hy_X5_at ⟨Nat.le_of_ble_eq_true rfl, Nat.le_of_ble_eq_true rfl⟩, (C.1.2.2.2.2 _ (List.mem_of_getElem? (i := 13) rfl)), trivial⟩) rfl (Nat.le_of_ble_eq_true rfl) dX2_countLikeness_33 ⟨Nat.le_of_ble_eq_true rfl, Nat.le_of_ble_eq_true rfl⟩ ⟨rfl, rfl⟩ ?_
      refine VJ.isub C dX2_countLikeness_36 ?_
      refine VJ.mabs C (C.1.2.2.2.2 _ (List.mem_of_getElem? (i := 2) rfl)) (C.1.2.2.2.2 _ (List.mem_of_getElem? (i := 3) rfl)) (C.1.2.2.2.2 _ (List.mem_of_getElem? (i := 4) rfl)) (C.1.2.2.2.2 _ (List.mem_of_getElem? (i := 5) rfl)) (Nat.le_of_ble_eq_true rfl) (Nat.le_of_ble_eq_true rfl) (Nat.zero_le _) (Nat.zero_le _) dX2_countLikeness_37 ?_
      refine VJ.topi C (fun v3 => ?_)
      refine VJ.istore C [(4, .int v3), (3, .int 0), (0, .ref o), (1, .int x1), (2, .int x2)] dX2_countLikeness_40 (Nat.le_of_ble_eq_true rfl) rfl ?_
      refine VJ.iload C 0 dX2_countLikeness_42 rfl ?_
      refine VJ.if_ne C 53 dX2_countLikeness_44 (by decide) (fun _ => ?_) (fun _ => ?_)
      · refine VJ.iload C 0 dX2_countLikeness_53 rfl ?_
        refine VJ.bipush (v := 31) C dX2_countLikeness_55 (by decide) ?_
        refine VJ.icmp_gt C 63 dX2_countLikeness_57 (by decide) (fun _ => ?_) (fun _ => ?_)
        · refine VJ.sub [2, 3, 4, 1] rfl ?_
          exact j63 x1 x2 0
        · refine VJ.iincN C 1 (fun v7 => [(3, .int v7), (4, .int v3), (0, .ref o), (1, .int x1), (2, .int x2)]) dX2_countLikeness_60 rfl (Nat.le_of_ble_eq_true rfl) (fun _ => rfl) (fun v7 => ?_)
          refine VJ.sub [2, 3, 4, 0] rfl ?_
          exact j63 x1 x2 v7
      · refine VJ.iincN C 1 (fun v8 => [(3, .int v8), (4, .int v3), (0, .ref o), (1, .int x1), (2, .int x2)]) dX2_countLikeness_47 rfl (Nat.le_of_ble_eq_true rfl) (fun _ => rfl) (fun v8 => ?_)
        refine VJ.goto C 63 dX2_countLikeness_50 (by decide) ?_
        refine VJ.sub [2, 3, 4, 0] rfl ?_
        exact j63 x1 x2 v8
    · refine VJ.iconst (v := 0) C dX2_countLikeness_16 (by decide) ?_
      exact VJ.iret C hret rfl rfl dX2_countLikeness_17

