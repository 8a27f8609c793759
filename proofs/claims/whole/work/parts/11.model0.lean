

def f_X6_thrown (I : OI) (R : RI) : Option Int32 :=
  some (I 0)
abbrev rmX6_thrown : Room := { frames := 0, cells := 0, slots := 0, locals := 0 }
theorem in_X6_thrown_X6 : ∀ w ∈ u_ws RX6 TX6 38, w ∈ wsX6_thrown := in_of 2 rfl
theorem hy_X6_thrown : yX6_thrown.cls ≠ "java/lang/invoke/MethodHandle" ∧ yX6_thrown.cls ≠ "java/lang/invoke/VarHandle" ∧ (parseMethodDescriptor yX6_thrown.desc).map (fun d => d.parameters.length) = some 0 := by decide +kernel
theorem hyV_X6_thrown : yX6_thrown.cls = RX6 ∧ yX6_thrown.cls ≠ "java/lang/invoke/MethodHandle" ∧ yX6_thrown.cls ≠ "java/lang/invoke/VarHandle" ∧ (parseMethodDescriptor yX6_thrown.desc).map (fun d => d.parameters.length) = some 0 := ⟨rfl, hy_X6_thrown⟩
set_option maxHeartbeats 8000000 in
set_option maxRecDepth 100000 in
theorem c_X6_thrown (l : Launch) (G : va_G) (cI cZ cQ cU cJ : ClassId) (o : Nat) (ad : Nat → Nat) (I : OI) (R : RI) (out : Int32) (hf : f_X6_thrown I R = some out) : Con l yX6_thrown wsX6_thrown rmX6_thrown G vwCl (tys cI cZ cQ cU cJ) nws [.ref o] (pf [mW cI cZ o ad I R]) (some (.int out)) (pf [mW cI cZ o ad I R]) := by
  refine con_of (rv := fun out : Int32 => some (.int out)) (Wd := fun out : Int32 => pf [mW cI cZ o ad I R]) (maxL := 1) (own := RX6) rfl (plainFor_of_name (by decide +kernel)) rfl (Nat.le_of_ble_eq_true rfl) ?_ hf
  intro p e s m args below meth c A C hret hname
  unfold f_X6_thrown
  refine VJ.aload_n C 0 dX6_thrown_0 rfl ?_
  refine VJ.get (C0 := RX6) (T := TX6) (N := 38) (ci := 6) C in_X6_thrown_X6 0 rfl rfl 0 (Nat.le_of_ble_eq_true rfl) (C.1.2.2.2.2 _ (List.mem_of_getElem? (i := 1) rfl)) (fun _ h9 => h9) (v := .int (I 0)) rfl dX6_thrown_1 ?_
  exact VJ.iret C hret rfl rfl dX6_thrown_4

def f_X6_refused (R : RI) (I : OI) (x1 : Int32) : Option (Int32 × OI) :=
  ol (va_up I 0 x1) (fun I1 => if x1 = 0 then (some (0, I1)) else (some (1, I1)))
abbrev rmX6_refused : Room := { frames := 0, cells := 0, slots := 0, locals := 0 }
theorem in_X6_refused_X6 : ∀ w ∈ u_ws RX6 TX6 38, w ∈ wsX6_refused := in_of 2 rfl
theorem hy_X6_refused : yX6_refused.cls ≠ "java/lang/invoke/MethodHandle" ∧ yX6_refused.cls ≠ "java/lang/invoke/VarHandle" ∧ (parseMethodDescriptor yX6_refused.desc).map (fun d => d.parameters.length) = some 1 := by decide +kernel
theorem hyV_X6_refused : yX6_refused.cls = RX6 ∧ yX6_refused.cls ≠ "java/lang/invoke/MethodHandle" ∧ yX6_refused.cls ≠ "java/lang/invoke/VarHandle" ∧ (parseMethodDescriptor yX6_refused.desc).map (fun d => d.parameters.length) = some 1 := ⟨rfl, hy_X6_refused⟩
set_option maxHeartbeats 8000000 in
set_option maxRecDepth 100000 in
theorem c_X6_refused (l : Launch) (G : va_G) (cI cZ cQ cU cJ : ClassId) (o : Nat) (ad : Nat → Nat) (I : OI) (R : RI) (x1 : Int32) (out : Int32 × OI) (hf : f_X6_refused R I x1 = some out) : Con l yX6_refused wsX6_refused rmX6_refused G vwCl (tys cI cZ cQ cU cJ) nws [.ref o, .int x1] (pf [mW cI cZ o ad I R]) (some (.int out.1)) (pf [mW cI cZ o ad out.2 R]) := by
  refine con_of (rv := fun out : Int32 × OI => some (.int out.1)) (Wd := fun out : Int32 × OI => pf [mW cI cZ o ad out.2 R]) (maxL := 2) (own := RX6) rfl (plainFor_of_name (by decide +kernel)) rfl (Nat.le_of_ble_eq_true rfl) ?_ hf
  intro p e s m args below meth c A C hret hname
  unfold f_X6_refused
  refine VJ.aload_n C 0 dX6_refused_0 rfl ?_
  refine VJ.iload_n C 1 dX6_refused_1 rfl ?_
  refine VJ.putI (C0 := RX6) (T := TX6) (N := 38) (ci := 6) C in_X6_refused_X6 0 rfl rfl 0 (Nat.le_of_ble_eq_true rfl) (C.1.2.2.2.2 _ (List.mem_of_getElem? (i := 1) rfl)) (fun _ h9 => h9) (Ii := I) (jj := 0) (fun I1 => pf [mW cI cZ o ad I1 R]) tyX6 tyX6_ok nmX6 rfl rfl (Nat.le_of_ble_eq_true rfl) (fun _ => rfl) dX6_refused_2 (fun I1 => ?_)
  refine VJ.iload_n C 1 dX6_refused_5 rfl ?_
  refine VJ.if_eq C 13 dX6_refused_6 (by decide) (fun _ => ?_) (fun _ => ?_)
  · refine VJ.iconst (v := 0) C dX6_refused_13 (by decide) ?_
    exact VJ.zret C rfl hret rfl rfl dX6_refused_14
  · refine VJ.iconst (v := 1) C dX6_refused_9 (by decide) ?_
    refine VJ.goto C 14 dX6_refused_10 (by decide) ?_
    exact VJ.zret C rfl hret rfl rfl dX6_refused_14

def f_X6_within (x0 : Int32) (x1 : Int32) (x2 : Int32) : Option Int32 :=
  if x0 < x1 then (some 0) else (if x2 < x0 then (some 0) else (some 1))
abbrev rmX6_within : Room := { frames := 0, cells := 0, slots := 0, locals := 0 }
theorem hy_X6_within : yX6_within.cls ≠ "java/lang/invoke/MethodHandle" ∧ yX6_within.cls ≠ "java/lang/invoke/VarHandle" ∧ (parseMethodDescriptor yX6_within.desc).map (fun d => d.parameters.length) = some 3 := by decide +kernel
theorem hyV_X6_within : yX6_within.cls = RX6 ∧ yX6_within.cls ≠ "java/lang/invoke/MethodHandle" ∧ yX6_within.cls ≠ "java/lang/invoke/VarHandle" ∧ (parseMethodDescriptor yX6_within.desc).map (fun d => d.parameters.length) = some 3 := ⟨rfl, hy_X6_within⟩
set_option maxHeartbeats 8000000 in
set_option maxRecDepth 100000 in
theorem c_X6_within (l : Launch) (G : va_G) (cI cZ cQ cU cJ : ClassId) (x0 : Int32) (x1 : Int32) (x2 : Int32) (out : Int32) (hf : f_X6_within x0 x1 x2 = some out) : Con l yX6_within wsX6_within rmX6_within G vwCl (tys cI cZ cQ cU cJ) nws [.int x0, .int x1, .int x2] (pf []) (some (.int out)) (pf []) := by
  refine con_of (rv := fun out : Int32 => some (.int out)) (Wd := fun out : Int32 => pf []) (maxL := 3) (own := RX6) rfl (plainFor_of_name (by decide +kernel)) rfl (Nat.le_of_ble_eq_true rfl) ?_ hf
  intro p e s m args below meth c A C hret hname
  unfold f_X6_within
  refine VJ.iload_n C 0 dX6_within_0 rfl ?_
  refine VJ.iload_n C 1 dX6_within_1 rfl ?_
  refine VJ.icmp_lt C 14 dX6_within_2 (by decide) (fun _ => ?_) (fun _ => ?_)
  · refine VJ.iconst (v := 0) C dX6_within_14 (by decide) ?_
    exact VJ.zret C rfl hret rfl rfl dX6_within_15
  · refine VJ.iload_n C 0 dX6_within_5 rfl ?_
    refine VJ.iload_n C 2 dX6_within_6 rfl ?_
    refine VJ.icmp_gt C 14 dX6_within_7 (by decide) (fun _ => ?_) (fun _ => ?_)
    · refine VJ.iconst (v := 0) C dX6_within_14 (by decide) ?_
      exact VJ.zret C rfl hret rfl rfl dX6_within_15
    · refine VJ.iconst (v := 1) C dX6_within_10 (by decide) ?_
      refine VJ.goto C 15 dX6_within_11 (by decide) ?_
      exact VJ.zret C rfl hret rfl rfl dX6_within_15

def f_X6_isPerson (I : OI) (R : RI) (x1 : Int32) : Option Int32 :=
  ob1 (f_X6_within x1 0 ((I 4) - 1)) (fun r1 => oz r1 (some r1))
abbrev rmX6_isPerson : Room := { frames := 1, cells := 0, slots := 0, locals := 22 }
theorem in_X6_isPerson_X6 : ∀ w ∈ u_ws RX6 TX6 38, w ∈ wsX6_isPerson := in_of 6 rfl
theorem hy_X6_isPerson : yX6_isPerson.cls ≠ "java/lang/invoke/MethodHandle" ∧ yX6_isPerson.cls ≠ "java/lang/invoke/VarHandle" ∧ (parseMethodDescriptor yX6_isPerson.desc).map (fun d => d.parameters.length) = some 1 := by decide +kernel
theorem hyV_X6_isPerson : yX6_isPerson.cls = RX6 ∧ yX6_isPerson.cls ≠ "java/lang/invoke/MethodHandle" ∧ yX6_isPerson.cls ≠ "java/lang/invoke/VarHandle" ∧ (parseMethodDescriptor yX6_isPerson.desc).map (fun d => d.parameters.length) = some 1 := ⟨rfl, hy_X6_isPerson⟩
set_option maxHeartbeats 8000000 in
set_option maxRecDepth 100000 in
theorem c_X6_isPerson (l : Launch) (G : va_G) (cI cZ cQ cU cJ : ClassId) (o : Nat) (ad : Nat → Nat) (I : OI) (R : RI) (x1 : Int32) (out : Int32) (hf : f_X6_isPerson I R x1 = some out) : Con l yX6_isPerson wsX6_isPerson rmX6_isPerson G vwCl (tys cI cZ cQ cU cJ) nws [.ref o, .int x1] (pf [mW cI cZ o ad I R]) (some (.int out)) (pf [mW cI cZ o ad I R]) := by
  refine con_of (rv := fun out : Int32 => some (.int out)) (Wd := fun out : Int32 => pf [mW cI cZ o ad I R]) (maxL := 2) (own := RX6) rfl (plainFor_of_name (by decide +kernel)) rfl (Nat.le_of_ble_eq_true rfl) ?_ hf
  intro p e s m args below meth c A C hret hname
  unfold f_X6_isPerson
  refine VJ.iload_n C 1 dX6_isPerson_0 rfl ?_
  refine VJ.iconst (v := 0) C dX6_isPerson_1 (by decide) ?_
  refine VJ.aload_n C 0 dX6_isPerson_2 rfl ?_
  refine VJ.get (C0 := RX6) (T := TX6) (N := 38) (ci := 6) C in_X6_isPerson_X6 0 rfl rfl 13 (Nat.le_of_ble_eq_true rfl) (C.1.2.2.2.2 _ (List.mem_of_getElem? (i := 1) rfl)) (fun _ h9 => h9) (v := .int (I 4)) rfl dX6_isPerson_3 ?_
  refine VJ.iconst (v := 1) C dX6_isPerson_6 (by decide) ?_
  refine VJ.isub C dX6_isPerson_7 ?_
  refine VJ.callS1 C [.int x1, .int 0, .int ((I 4) - 1)] (pf []) (pf [mW cI cZ o ad I R]) (fun r1 => some (.int r1)) (fun r1 => pf []) (fun r1 => pf [mW cI cZ o ad I R]) (fun r1 => [.int r1]) 0 0 (fun _ h9 => c_X6_within l G cI cZ cQ cU cJ x1 0 ((I 4) - 1) _ h9) (vj_pn _) (fun _ => vj_pn' _) (va_cwS 3 C.1.2.2.2.2 gX6_isPerson_X6_within rfl rfl rfl hy_X6_within ⟨Nat.le_of_ble_eq_true rfl, Nat.le_of_ble_eq_true rfl⟩) rfl rfl (fun _ => rfl) (Nat.le_of_ble_eq_true rfl) dX6_isPerson_8 ⟨Nat.le_of_ble_eq_true rfl, Nat.le_of_ble_eq_true rfl⟩ ⟨rfl, rfl⟩ (fun r1 => ?_)
  refine VJ.roz (fun h9 => ?_)
  exact VJ.zret C (vj_nz h9) hret rfl rfl dX6_isPerson_11

def f_X6_isDay (I : OI) (R : RI) (x1 : Int32) : Option Int32 :=
  ob1 (f_X6_within x1 0 (I 1)) (fun r1 => oz r1 (some r1))
abbrev rmX6_isDay : Room := { frames := 1, cells := 0, slots := 0, locals := 22 }
theorem in_X6_isDay_X6 : ∀ w ∈ u_ws RX6 TX6 38, w ∈ wsX6_isDay := in_of 6 rfl
theorem hy_X6_isDay : yX6_isDay.cls ≠ "java/lang/invoke/MethodHandle" ∧ yX6_isDay.cls ≠ "java/lang/invoke/VarHandle" ∧ (parseMethodDescriptor yX6_isDay.desc).map (fun d => d.parameters.length) = some 1 := by decide +kernel
theorem hyV_X6_isDay : yX6_isDay.cls = RX6 ∧ yX6_isDay.cls ≠ "java/lang/invoke/MethodHandle" ∧ yX6_isDay.cls ≠ "java/lang/invoke/VarHandle" ∧ (parseMethodDescriptor yX6_isDay.desc).map (fun d => d.parameters.length) = some 1 := ⟨rfl, hy_X6_isDay⟩
set_option maxHeartbeats 8000000 in
set_option maxRecDepth 100000 in
theorem c_X6_isDay (l : Launch) (G : va_G) (cI cZ cQ cU cJ : ClassId) (o : Nat) (ad : Nat → Nat) (I : OI) (R : RI) (x1 : Int32) (out : Int32) (hf : f_X6_isDay I R x1 = some out) : Con l yX6_isDay wsX6_isDay rmX6_isDay G vwCl (tys cI cZ cQ cU cJ) nws [.ref o, .int x1] (pf [mW cI cZ o ad I R]) (some (.int out)) (pf [mW cI cZ o ad I R]) := by
  refine con_of (rv := fun out : Int32 => some (.int out)) (Wd := fun out : Int32 => pf [mW cI cZ o ad I R]) (maxL := 2) (own := RX6) rfl (plainFor_of_name (by decide +kernel)) rfl (Nat.le_of_ble_eq_true rfl) ?_ hf
  intro p e s m args below meth c A C hret hname
  unfold f_X6_isDay
  refine VJ.iload_n C 1 dX6_isDay_0 rfl ?_
  refine VJ.iconst (v := 0) C dX6_isDay_1 (by decide) ?_
  refine VJ.aload_n C 0 dX6_isDay_2 rfl ?_
  refine VJ.get (C0 := RX6) (T := TX6) (N := 38) (ci := 6) C in_X6_isDay_X6 0 rfl rfl 1 (Nat.le_of_ble_eq_true rfl) (C.1.2.2.2.2 _ (List.mem_of_getElem? (i := 1) rfl)) (fun _ h9 => h9) (v := .int (I 1)) rfl dX6_isDay_3 ?_
  refine VJ.callS1 C [.int x1, .int 0, .int (I 1)] (pf []) (pf [mW cI cZ o ad I R]) (fun r1 => some (.int r1)) (fun r1 => pf []) (fun r1 => pf [mW cI cZ o ad I R]) (fun r1 => [.int r1]) 0 0 (fun _ h9 => c_X6_within l G cI cZ cQ cU cJ x1 0 (I 1) _ h9) (vj_pn _) (fun _ => vj_pn' _) (va_cwS 3 C.1.2.2.2.2 gX6_isDay_X6_within rfl rfl rfl hy_X6_within ⟨Nat.le_of_ble_eq_true rfl, Nat.le_of_ble_eq_true rfl⟩) rfl rfl (fun _ => rfl) (Nat.le_of_ble_eq_true rfl) dX6_isDay_6 ⟨Nat.le_of_ble_eq_true rfl, Nat.le_of_ble_eq_true rfl⟩ ⟨rfl, rfl⟩ (fun r1 => ?_)
  refine VJ.roz (fun h9 => ?_)
  exact VJ.zret C (vj_nz h9) hret rfl rfl dX6_isDay_9

set_option maxHeartbeats 4000000 in
set_option maxRecDepth 100000 in
def f_X6_pass_j33 (R : RI) (I : OI) (x1 : Int32) (y0 : Int32) : Option (Int32 × OI) :=
  ob2 (f_X6_refused R I y0) (fun r2 I3 => if r2 = 0 then (ol (va_up I3 1 ((I3 1) + x1)) (fun I4 => some (I4 1, I4))) else (some (0, I3)))
def f_X6_pass (R : RI) (I : OI) (x1 : Int32) : Option (Int32 × OI) :=
  ob1 (f_X6_within x1 1 5000) (fun r1 => if r1 = 0 then (f_X6_pass_j33 R I x1 1) else (if ((I 1) + x1) ≤ 30000 then (f_X6_pass_j33 R I x1 0) else (f_X6_pass_j33 R I x1 2)))
abbrev rmX6_pass : Room := { frames := 1, cells := 0, slots := 0, locals := 22 }
theorem in_X6_pass_X6 : ∀ w ∈ u_ws RX6 TX6 38, w ∈ wsX6_pass := in_of 11 rfl
theorem hy_X6_pass : yX6_pass.cls ≠ "java/lang/invoke/MethodHandle" ∧ yX6_pass.cls ≠ "java/lang/invoke/VarHandle" ∧ (parseMethodDescriptor yX6_pass.desc).map (fun d => d.parameters.length) = some 1 := by decide +kernel
theorem hyV_X6_pass : yX6_pass.cls = RX6 ∧ yX6_pass.cls ≠ "java/lang/invoke/MethodHandle" ∧ yX6_pass.cls ≠ "java/lang/invoke/VarHandle" ∧ (parseMethodDescriptor yX6_pass.desc).map (fun d => d.parameters.length) = some 1 := ⟨rfl, hy_X6_pass⟩
set_option maxHeartbeats 8000000 in
set_option maxRecDepth 100000 in
theorem c_X6_pass (l : Launch) (G : va_G) (cI cZ cQ cU cJ : ClassId) (o : Nat) (ad : Nat → Nat) (I : OI) (R : RI) (x1 : Int32) (out : Int32 × OI) (hf : f_X6_pass R I x1 = some out) : Con l yX6_pass wsX6_pass rmX6_pass G vwCl (tys cI cZ cQ cU cJ) nws [.ref o, .int x1] (pf [mW cI cZ o ad I R]) (some (.int out.1)) (pf [mW cI cZ o ad out.2 R]) := by
  refine con_of (rv := fun out : Int32 × OI => some (.int out.1)) (Wd := fun out : Int32 × OI => pf [mW cI cZ o ad out.2 R]) (maxL := 2) (own := RX6) rfl (plainFor_of_name (by decide +kernel)) rfl (Nat.le_of_ble_eq_true rfl) ?_ hf
  intro p e s m args below meth c A C hret hname
  have j33 : ∀ (I : OI) (x1 : Int32) (y0 : Int32), VJ p l e rmX6_pass s m args below meth c 2 G vwCl A (QR below G vwCl A args s rmX6_pass.cells rmX6_pass.slots (fun out : Int32 × OI => some (.int out.1)) (fun out : Int32 × OI => pf [mW cI cZ o ad out.2 R])) 0 0 (f_X6_pass_j33 R  I x1 y0) (pf [mW cI cZ o ad I R]) 33 [(0, .ref o), (1, .int x1)] [.int y0, .ref o] := by
    intro  I x1 y0
    unfold f_X6_pass_j33
    refine VJ.callV2 C [.int y0] (pf [mW cI cZ o ad I R]) ([]) (fun r2 I3 => some (.int r2)) (fun r2 I3 => pf [mW cI cZ o ad I3 R]) (fun r2 I3 => pf [mW cI cZ o ad I3 R]) (fun r2 I3 => [.int r2]) 0 0 (fun _ h9 => c_X6_refused l G cI cZ cQ cU cJ o ad I R y0 _ h9) (vj_p0 _) (fun _ _ => vj_p0' _) 0 rfl rfl (cwV 1 C.1.2.2.2.2 gX6_pass_X6_refused rfl rfl rfl hyV_X6_refused ⟨Nat.le_of_ble_eq_true rfl, Nat.le_of_ble_eq_true rfl⟩) rfl rfl (fun _ _ => rfl) (Nat.le_of_ble_eq_true rfl) dX6_pass_33 ⟨Nat.le_of_ble_eq_true rfl, Nat.le_of_ble_eq_true rfl⟩ ⟨rfl, rfl⟩ (fun r2 I3 => ?_)
    refine VJ.if_eq C 41 dX6_pass_36 (by decide) (fun _ => ?_) (fun _ => ?_)
    · refine VJ.aload_n C 0 dX6_pass_41 rfl ?_
      refine VJ.dup C dX6_pass_42 rfl ?_
      refine VJ.get (C0 := RX6) (T := TX6) (N := 38) (ci := 6) C in_X6_pass_X6 0 rfl rfl 1 (Nat.le_of_ble_eq_true rfl) (C.1.2.2.2.2 _ (List.mem_of_getElem? (i := 1) rfl)) (fun _ h9 => h9) (v := .int (I3 1)) rfl dX6_pass_43 ?_
      refine VJ.iload_n C 1 dX6_pass_46 rfl ?_
      refine VJ.iadd C dX6_pass_47 ?_
      refine VJ.putI (C0 := RX6) (T := TX6) (N := 38) (ci := 6) C in_X6_pass_X6 0 rfl rfl 1 (Nat.le_of_ble_eq_true rfl) (C.1.2.2.2.2 _ (List.mem_of_getElem? (i := 1) rfl)) (fun _ h9 => h9) (Ii := I3) (jj := 1) (fun I4 => pf [mW cI cZ o ad I4 R]) tyX6 tyX6_ok nmX6 rfl rfl (Nat.le_of_ble_eq_true rfl) (fun _ => rfl) dX6_pass_48 (fun I4 => ?_)
      refine VJ.aload_n C 0 dX6_pass_51 rfl ?_
      refine VJ.get (C0 := RX6) (T := TX6) (N := 38) (ci := 6) C in_X6_pass_X6 0 rfl rfl 1 (Nat.le_of_ble_eq_true rfl) (C.1.2.2.2.2 _ (List.mem_of_getElem? (i := 1) rfl)) (fun _ h9 => h9) (v := .int (I4 1)) rfl dX6_pass_52 ?_
      exact VJ.iret C hret rfl rfl dX6_pass_55
    · refine VJ.iconst (v := 0) C dX6_pass_39 (by decide) ?_
      exact VJ.iret C hret rfl rfl dX6_pass_40
  unfold f_X6_pass
  refine VJ.aload_n C 0 dX6_pass_0 rfl ?_
  refine VJ.iload_n C 1 dX6_pass_1 rfl ?_
  refine VJ.iconst (v := 1) C dX6_pass_2 (by decide) ?_
  refine VJ.sipush (v := 5000) C dX6_pass_3 (by decide) ?_
  refine VJ.callS1 C [.int x1, .int 1, .int 5000] (pf []) (pf [mW cI cZ o ad I R]) (fun r1 => some (.int r1)) (fun r1 => pf []) (fun r1 => pf [mW cI cZ o ad I R]) (fun r1 => [.int r1, .ref o]) 0 0 (fun _ h9 => c_X6_within l G cI cZ cQ cU cJ x1 1 5000 _ h9) (vj_pn _) (fun _ => vj_pn' _) (va_cwS 3 C.1.2.2.2.2 gX6_pass_X6_within rfl rfl rfl hy_X6_within ⟨Nat.le_of_ble_eq_true rfl, Nat.le_of_ble_eq_true rfl⟩) rfl rfl (fun _ => rfl) (Nat.le_of_ble_eq_true rfl) dX6_pass_6 ⟨Nat.le_of_ble_eq_true rfl, Nat.le_of_ble_eq_true rfl⟩ ⟨rfl, rfl⟩ (fun r1 => ?_)
  refine VJ.if_ne C 16 dX6_pass_9 (by decide) (fun _ => ?_) (fun _ => ?_)
  · refine VJ.aload_n C 0 dX6_pass_16 rfl ?_
    refine VJ.get (C0 := RX6) (T := TX6) (N := 38) (ci := 6) C in_X6_pass_X6 0 rfl rfl 1 (Nat.le_of_ble_eq_true rfl) (C.1.2.2.2.2 _ (List.mem_of_getElem? (i := 1) rfl)) (fun _ h9 => h9) (v := .int (I 1)) rfl dX6_pass_17 ?_
    refine VJ.iload_n C 1 dX6_pass_20 rfl ?_
    refine VJ.iadd C dX6_pass_21 ?_
    refine VJ.sipush (v := 30000) C dX6_pass_22 (by decide) ?_
    refine VJ.icmp_le C 32 dX6_pass_25 (by decide) (fun _ => ?_) (fun _ => ?_)
    · refine VJ.iconst (v := 0) C dX6_pass_32 (by decide) ?_
      exact j33 I x1 0
    · refine VJ.iconst (v := 2) C dX6_pass_28 (by decide) ?_
      refine VJ.goto C 33 dX6_pass_29 (by decide) ?_
      exact j33 I x1 2
  · refine VJ.iconst (v := 1) C dX6_pass_12 (by decide) ?_
    refine VJ.goto C 33 dX6_pass_13 (by decide) ?_
    exact j33 I x1 1

set_option maxHeartbeats 4000000 in
set_option maxRecDepth 100000 in
def f_X6_tell_j164 (N : Nat) (I : OI) (R : RI) : Option (Int32 × OI × RI) :=
  ol (va_up I 2 ((I 2) + 1)) (fun I9 => some ((I9 2) - 1, I9, R))
set_option maxHeartbeats 4000000 in
set_option maxRecDepth 100000 in
def f_X6_tell_j143 (N : Nat) (I : OI) (R : RI) (x7 : Int32) : Option (Int32 × OI × RI) :=
  og x7 150 (ol (va_up R 8 (upd (R 8) x7.toNatClampNeg (I 2))) (fun R11 => ol (va_up I 3 ((I 3) + 1)) (fun I12 => f_X6_tell_j164 N I12 R11)))
set_option maxHeartbeats 4000000 in
set_option maxRecDepth 100000 in
def f_X6_tell_l98b (N : Nat) (k98 : OI → RI → Int32 → Int32 → Option (Int32 × OI × RI)) (I : OI) (R : RI) (x2 : Int32) (x7 : Int32) : Option (Int32 × OI × RI) :=
  if x7 ≤ 0 then (f_X6_tell_j143 N I R x7) else (og (x7 - 1) 150 (og (R 8 (x7 - 1).toNatClampNeg) 150 (if (R 2 (R 8 (x7 - 1).toNatClampNeg).toNatClampNeg) ≤ x2 then (f_X6_tell_j143 N I R x7) else (og (x7 - 1) 150 (og x7 150 (ol (va_up R 8 (upd (R 8) x7.toNatClampNeg (R 8 (x7 - 1).toNatClampNeg))) (fun R13 => ol (x7 + Int32.ofInt (-1)) (fun v14 => k98 I R13 x2 v14))))))))
set_option maxHeartbeats 4000000 in
set_option maxRecDepth 100000 in
def f_X6_tell_l98 (N : Nat) : Nat → OI → RI → Int32 → Int32 → Option (Int32 × OI × RI)
  | 0 => fun _ _ _ _ => none
  | n9 + 1 => f_X6_tell_l98b N (f_X6_tell_l98 N n9)
def f_X6_tell (N : Nat) (I : OI) (R : RI) (x1 : Int32) (x2 : Int32) (x3 : Int32) (x4 : Int32) (x5 : Int32) (x6 : Int32) : Option (Int32 × OI × RI) :=
  og (I 2) 150 (ol (va_up R 0 (upd (R 0) (I 2).toNatClampNeg x1)) (fun R1 => og (I 2) 150 (ol (va_up R1 1 (upd (R1 1) (I 2).toNatClampNeg (I 1))) (fun R2 => og (I 2) 150 (ol (va_up R2 2 (upd (R2 2) (I 2).toNatClampNeg x2)) (fun R3 => og (I 2) 150 (ol (va_up R3 3 (upd (R3 3) (I 2).toNatClampNeg x3)) (fun R4 => og (I 2) 150 (ol (va_up R4 4 (upd (R4 4) (I 2).toNatClampNeg x4)) (fun R5 => og (I 2) 150 (ol (va_up R5 5 (upd (R5 5) (I 2).toNatClampNeg x5)) (fun R6 => og (I 2) 150 (ol (va_up R6 6 (upd (R6 6) (I 2).toNatClampNeg x6)) (fun R7 => og (I 2) 150 (ol (va_up R7 7 (upd (R7 7) (I 2).toNatClampNeg (-1))) (fun R8 => if 7 ≤ x1 then (f_X6_tell_j164 N I R8) else (ol (I 3) (fun v10 => f_X6_tell_l98 N N I R8 x2 v10))))))))))))))))))
abbrev rmX6_tell : Room := { frames := 0, cells := 0, slots := 0, locals := 0 }
theorem in_X6_tell_X6 : ∀ w ∈ u_ws RX6 TX6 38, w ∈ wsX6_tell := in_of 13 rfl
theorem hy_X6_tell : yX6_tell.cls ≠ "java/lang/invoke/MethodHandle" ∧ yX6_tell.cls ≠ "java/lang/invoke/VarHandle" ∧ (parseMethodDescriptor yX6_tell.desc).map (fun d => d.parameters.length) = some 6 := by decide +kernel
theorem hyV_X6_tell : yX6_tell.cls = RX6 ∧ yX6_tell.cls ≠ "java/lang/invoke/MethodHandle" ∧ yX6_tell.cls ≠ "java/lang/invoke/VarHandle" ∧ (parseMethodDescriptor yX6_tell.desc).map (fun d => d.parameters.length) = some 6 := ⟨rfl, hy_X6_tell⟩
set_option maxHeartbeats 8000000 in
set_option maxRecDepth 100000 in
theorem c_X6_tell (l : Launch) (G : va_G) (cI cZ cQ cU cJ : ClassId) (N : Nat) (o : Nat) (ad : Nat → Nat) (I : OI) (R : RI) (x1 : Int32) (x2 : Int32) (x3 : Int32) (x4 : Int32) (x5 : Int32) (x6 : Int32) (out : Int32 × OI × RI) (hf : f_X6_tell N I R x1 x2 x3 x4 x5 x6 = some out) : Con l yX6_tell wsX6_tell rmX6_tell G vwCl (tys cI cZ cQ cU cJ) nws [.ref o, .int x1, .int x2, .int x3, .int x4, .int x5, .int x6] (pf [mW cI cZ o ad I R]) (some (.int out.1)) (pf [mW cI cZ o ad out.2.1 out.2.2]) := by
  refine con_of (rv := fun out : Int32 × OI × RI => some (.int out.1)) (Wd := fun out : Int32 × OI × RI => pf [mW cI cZ o ad out.2.1 out.2.2]) (maxL := 8) (own := RX6) rfl (plainFor_of_name (by decide +kernel)) rfl (Nat.le_of_ble_eq_true rfl) ?_ hf
  intro p e s m args below meth c A C hret hname
  have j164 : ∀ (I : OI) (R : RI), VJ p l e rmX6_tell s m args below meth c 8 G vwCl A (QR below G vwCl A args s rmX6_tell.cells rmX6_tell.slots (fun out : Int32 × OI × RI => some (.int out.1)) (fun out : Int32 × OI × RI => pf [mW cI cZ o ad out.2.1 out.2.2])) 0 0 (f_X6_tell_j164 N  I R) (pf [mW cI cZ o ad I R]) 164 [(0, .ref o)] [] := by
    intro  I R
    unfold f_X6_tell_j164
    refine VJ.aload_n C 0 dX6_tell_164 rfl ?_
    refine VJ.dup C dX6_tell_165 rfl ?_
    refine VJ.get (C0 := RX6) (T := TX6) (N := 38) (ci := 6) C in_X6_tell_X6 0 rfl rfl 2 (Nat.le_of_ble_eq_true rfl) (C.1.2.2.2.2 _ (List.mem_of_getElem? (i := 2) rfl)) (fun _ h9 => h9) (v := .int (I 2)) rfl dX6_tell_166 ?_
    refine VJ.iconst (v := 1) C dX6_tell_169 (by decide) ?_
    refine VJ.iadd C dX6_tell_170 ?_
    refine VJ.putI (C0 := RX6) (T := TX6) (N := 38) (ci := 6) C in_X6_tell_X6 0 rfl rfl 2 (Nat.le_of_ble_eq_true rfl) (C.1.2.2.2.2 _ (List.mem_of_getElem? (i := 2) rfl)) (fun _ h9 => h9) (Ii := I) (jj := 2) (fun I9 => pf [mW cI cZ o ad I9 R]) tyX6 tyX6_ok nmX6 rfl rfl (Nat.le_of_ble_eq_true rfl) (fun _ => rfl) dX6_tell_171 (fun I9 => ?_)
    refine VJ.aload_n C 0 dX6_tell_174 rfl ?_
    refine VJ.get (C0 := RX6) (T := TX6) (N := 38) (ci := 6) C in_X6_tell_X6 0 rfl rfl 2 (Nat.le_of_ble_eq_true rfl) (C.1.2.2.2.2 _ (List.mem_of_getElem? (i := 2) rfl)) (fun _ h9 => h9) (v := .int (I9 2)) rfl dX6_tell_175 ?_
    refine VJ.iconst (v := 1) C dX6_tell_178 (by decide) ?_
    refine VJ.isub C dX6_tell_179 ?_
    exact VJ.iret C hret rfl rfl dX6_tell_180
  have j143 : ∀ (I : OI) (R : RI) (x7 : Int32), VJ p l e rmX6_tell s m args below meth c 8 G vwCl A (QR below G vwCl A args s rmX6_tell.cells rmX6_tell.slots (fun out : Int32 × OI × RI => some (.int out.1)) (fun out : Int32 × OI × RI => pf [mW cI cZ o ad out.2.1 out.2.2])) 0 0 (f_X6_tell_j143 N  I R x7) (pf [mW cI cZ o ad I R]) 143 [(0, .ref o), (7, .int x7)] [] := by
    intro  I R x7
    unfold f_X6_tell_j143
    refine VJ.aload_n C 0 dX6_tell_143 rfl ?_
    refine VJ.get (C0 := RX6) (T := TX6) (N := 38) (ci := 6) C in_X6_tell_X6 0 rfl rfl 12 (Nat.le_of_ble_eq_true rfl) (C.1.2.2.2.2 _ (List.mem_of_getElem? (i := 12) rfl)) (fun _ h9 => h9) (v := .ref (ad 8)) rfl dX6_tell_144 ?_
    refine VJ.iload C 1 dX6_tell_147 rfl ?_
    refine VJ.aload_n C 0 dX6_tell_149 rfl ?_
    refine VJ.get (C0 := RX6) (T := TX6) (N := 38) (ci := 6) C in_X6_tell_X6 0 rfl rfl 2 (Nat.le_of_ble_eq_true rfl) (C.1.2.2.2.2 _ (List.mem_of_getElem? (i := 2) rfl)) (fun _ h9 => h9) (v := .int (I 2)) rfl dX6_tell_150 ?_
    refine VJ.iastR C 9 0 R 8 (fun R11 => pf [mW cI cZ o ad I R11]) rfl rfl (fun _ => rfl) dX6_tell_153 (fun R11 => ?_)
    refine VJ.aload_n C 0 dX6_tell_154 rfl ?_
    refine VJ.dup C dX6_tell_155 rfl ?_
    refine VJ.get (C0 := RX6) (T := TX6) (N := 38) (ci := 6) C in_X6_tell_X6 0 rfl rfl 11 (Nat.le_of_ble_eq_true rfl) (C.1.2.2.2.2 _ (List.mem_of_getElem? (i := 11) rfl)) (fun _ h9 => h9) (v := .int (I 3)) rfl dX6_tell_156 ?_
    refine VJ.iconst (v := 1) C dX6_tell_159 (by decide) ?_
    refine VJ.iadd C dX6_tell_160 ?_
    refine VJ.putI (C0 := RX6) (T := TX6) (N := 38) (ci := 6) C in_X6_tell_X6 0 rfl rfl 11 (Nat.le_of_ble_eq_true rfl) (C.1.2.2.2.2 _ (List.mem_of_getElem? (i := 11) rfl)) (fun _ h9 => h9) (Ii := I) (jj := 3) (fun I12 => pf [mW cI cZ o ad I12 R11]) tyX6 tyX6_ok nmX6 rfl rfl (Nat.le_of_ble_eq_true rfl) (fun _ => rfl) dX6_tell_161 (fun I12 => ?_)
    refine VJ.sub [0] rfl ?_
    exact j164 I12 R11
  have j98 : ∀ (n9 : Nat) (I : OI) (R : RI) (x2 : Int32) (x7 : Int32), VJ p l e rmX6_tell s m args below meth c 8 G vwCl A (QR below G vwCl A args s rmX6_tell.cells rmX6_tell.slots (fun out : Int32 × OI × RI => some (.int out.1)) (fun out : Int32 × OI × RI => pf [mW cI cZ o ad out.2.1 out.2.2])) 0 0 (f_X6_tell_l98 N  n9 I R x2 x7) (pf [mW cI cZ o ad I R]) 98 [(0, .ref o), (2, .int x2), (7, .int x7)] [] := by
    intro  n9
    induction n9 with
    | zero => intro I R x2 x7; exact VJ.fnone rfl
    | succ n9 i98 =>
      intro I R x2 x7
      refine VJ.eqf (f' := f_X6_tell_l98b N  (f_X6_tell_l98 N  n9) I R x2 x7) rfl ?_
      generalize f_X6_tell_l98 N  n9 = k98 at i98 ⊢
      unfold f_X6_tell_l98b
      refine VJ.iload C 2 dX6_tell_98 rfl ?_
      refine VJ.if_le C 143 dX6_tell_100 (by decide) (fun _ => ?_) (fun _ => ?_)
      · refine VJ.sub [0, 2] rfl ?_
        exact j143 I R x7
      · refine VJ.aload_n C 0 dX6_tell_103 rfl ?_
        refine VJ.get (C0 := RX6) (T := TX6) (N := 38) (ci := 6) C in_X6_tell_X6 0 rfl rfl 5 (Nat.le_of_ble_eq_true rfl) (C.1.2.2.2.2 _ (List.mem_of_getElem? (i := 5) rfl)) (fun _ h9 => h9) (v := .ref (ad 2)) rfl dX6_tell_104 ?_
        refine VJ.aload_n C 0 dX6_tell_107 rfl ?_
        refine VJ.get (C0 := RX6) (T := TX6) (N := 38) (ci := 6) C in_X6_tell_X6 0 rfl rfl 12 (Nat.le_of_ble_eq_true rfl) (C.1.2.2.2.2 _ (List.mem_of_getElem? (i := 12) rfl)) (fun _ h9 => h9) (v := .ref (ad 8)) rfl dX6_tell_108 ?_
        refine VJ.iload C 2 dX6_tell_111 rfl ?_
        refine VJ.iconst (v := 1) C dX6_tell_113 (by decide) ?_
        refine VJ.isub C dX6_tell_114 ?_
        refine VJ.iald C 9 0 rfl rfl dX6_tell_115 ?_
        refine VJ.iald C 3 0 rfl rfl dX6_tell_116 ?_
        refine VJ.iload_n C 1 dX6_tell_117 rfl ?_
        refine VJ.icmp_le C 143 dX6_tell_118 (by decide) (fun _ => ?_) (fun _ => ?_)
        · refine VJ.sub [0, 2] rfl ?_
          exact j143 I R x7
        · refine VJ.aload_n C 0 dX6_tell_121 rfl ?_
          refine VJ.get (C0 := RX6) (T := TX6) (N := 38) (ci := 6) C in_X6_tell_X6 0 rfl rfl 12 (Nat.le_of_ble_eq_true rfl) (C.1.2.2.2.2 _ (List.mem_of_getElem? (i := 12) rfl)) (fun _ h9 => h9) (v := .ref (ad 8)) rfl dX6_tell_122 ?_
          refine VJ.iload C 2 dX6_tell_125 rfl ?_
          refine VJ.aload_n C 0 dX6_tell_127 rfl ?_
          refine VJ.get (C0 := RX6) (T := TX6) (N := 38) (ci := 6) C in_X6_tell_X6 0 rfl rfl 12 (Nat.le_of_ble_eq_true rfl) (C.1.2.2.2.2 _ (List.mem_of_getElem? (i := 12) rfl)) (fun _ h9 => h9) (v := .ref (ad 8)) rfl dX6_tell_128 ?_
          refine VJ.iload C 2 dX6_tell_131 rfl ?_
          refine VJ.iconst (v := 1) C dX6_tell_133 (by decide) ?_
          refine VJ.isub C dX6_tell_134 ?_
          refine VJ.iald C 9 0 rfl rfl dX6_tell_135 ?_
          refine VJ.iastR C 9 0 R 8 (fun R13 => pf [mW cI cZ o ad I R13]) rfl rfl (fun _ => rfl) dX6_tell_136 (fun R13 => ?_)
          refine VJ.iincN C 2 (fun v14 => [(7, .int v14), (0, .ref o), (2, .int x2)]) dX6_tell_137 rfl (Nat.le_of_ble_eq_true rfl) (fun _ => rfl) (fun v14 => ?_)
          refine VJ.goto C 98 dX6_tell_140 (by decide) ?_
          refine VJ.sub [1, 2, 0] rfl ?_
          exact i98 I R13 x2 v14
  unfold f_X6_tell
  refine VJ.aload_n C 0 dX6_tell_0 rfl ?_
  refine VJ.get (C0 := RX6) (T := TX6) (N := 38) (ci := 6) C in_X6_tell_X6 0 rfl rfl 3 (Nat.le_of_ble_eq_true rfl) (C.1.2.2.2.2 _ (List.mem_of_getElem? (i := 1) rfl)) (fun _ h9 => h9) (v := .ref (ad 0)) rfl dX6_tell_1 ?_
  refine VJ.aload_n C 0 dX6_tell_4 rfl ?_
  refine VJ.get (C0 := RX6) (T := TX6) (N := 38) (ci := 6) C in_X6_tell_X6 0 rfl rfl 2 (Nat.le_of_ble_eq_true rfl) (C.1.2.2.2.2 _ (List.mem_of_getElem? (i := 2) rfl)) (fun _ h9 => h9) (v := .int (I 2)) rfl dX6_tell_5 ?_
  refine VJ.iload_n C 1 dX6_tell_8 rfl ?_
  refine VJ.iastR C 1 0 R 0 (fun R1 => pf [mW cI cZ o ad I R1]) rfl rfl (fun _ => rfl) dX6_tell_9 (fun R1 => ?_)
  refine VJ.aload_n C 0 dX6_tell_10 rfl ?_
  refine VJ.get (C0 := RX6) (T := TX6) (N := 38) (ci := 6) C in_X6_tell_X6 0 rfl rfl 4 (Nat.le_of_ble_eq_true rfl) (C.1.2.2.2.2 _ (List.mem_of_getElem? (i := 3) rfl)) (fun _ h9 => h9) (v := .ref (ad 1)) rfl dX6_tell_11 ?_
  refine VJ.aload_n C 0 dX6_tell_14 rfl ?_
  refine VJ.get (C0 := RX6) (T := TX6) (N := 38) (ci := 6) C in_X6_tell_X6 0 rfl rfl 2 (Nat.le_of_ble_eq_true rfl) (C.1.2.2.2.2 _ (List.mem_of_getElem? (i := 2) rfl)) (fun _ h9 => h9) (v := .int (I 2)) rfl dX6_tell_15 ?_
  refine VJ.aload_n C 0 dX6_tell_18 rfl ?_
  refine VJ.get (C0 := RX6) (T := TX6) (N := 38) (ci := 6) C in_X6_tell_X6 0 rfl rfl 1 (Nat.le_of_ble_eq_true rfl) (C.1.2.2.2.2 _ (List.mem_of_getElem? (i := 4) rfl)) (fun _ h9 => h9) (v := .int (I 1)) rfl dX6_tell_19 ?_
  refine VJ.iastR C 2 0 R1 1 (fun R2 => pf [mW cI cZ o ad I R2]) rfl rfl (fun _ => rfl) dX6_tell_22 (fun R2 => ?_)
  refine VJ.aload_n C 0 dX6_tell_23 rfl ?_
  refine VJ.get (C0 := RX6) (T := TX6) (N := 38) (ci := 6) C in_X6_tell_X6 0 rfl rfl 5 (Nat.le_of_ble_eq_true rfl) (C.1.2.2.2.2 _ (List.mem_of_getElem? (i := 5) rfl)) (fun _ h9 => h9) (v := .ref (ad 2)) rfl dX6_tell_24 ?_
  refine VJ.aload_n C 0 dX6_tell_27 rfl ?_
  refine VJ.get (C0 := RX6) (T := TX6) (N := 38) (ci := 6) C in_X6_tell_X6 0 rfl rfl 2 (Nat.le_of_ble_eq_true rfl) (C.1.2.2.2.2 _ (List.mem_of_getElem? (i := 2) rfl)) (fun _ h9 => h9) (v := .int (I 2)) rfl dX6_tell_28 ?_
  refine VJ.iload_n C 2 dX6_tell_31 rfl ?_
  refine VJ.iastR C 3 0 R2 2 (fun R3 => pf [mW cI cZ o ad I R3]) rfl rfl (fun _ => rfl) dX6_tell_32 (fun R3 => ?_)
  refine VJ.aload_n C 0 dX6_tell_33 rfl ?_
  refine VJ.get (C0 := RX6) (T := TX6) (N := 38) (ci := 6) C in_X6_tell_X6 0 rfl rfl 6 (Nat.le_of_ble_eq_true rfl) (C.1.2.2.2.2 _ (List.mem_of_getElem? (i := 6) rfl)) (fun _ h9 => h9) (v := .ref (ad 3)) rfl dX6_tell_34 ?_
  refine VJ.aload_n C 0 dX6_tell_37 rfl ?_
  refine VJ.get (C0 := RX6) (T := TX6) (N := 38) (ci := 6) C in_X6_tell_X6 0 rfl rfl 2 (Nat.le_of_ble_eq_true rfl) (C.1.2.2.2.2 _ (List.mem_of_getElem? (i := 2) rfl)) (fun _ h9 => h9) (v := .int (I 2)) rfl dX6_tell_38 ?_
  refine VJ.iload_n C 3 dX6_tell_41 rfl ?_
  refine VJ.iastR C 4 0 R3 3 (fun R4 => pf [mW cI cZ o ad I R4]) rfl rfl (fun _ => rfl) dX6_tell_42 (fun R4 => ?_)
  refine VJ.aload_n C 0 dX6_tell_43 rfl ?_
  refine VJ.get (C0 := RX6) (T := TX6) (N := 38) (ci := 6) C in_X6_tell_X6 0 rfl rfl 7 (Nat.le_of_ble_eq_true rfl) (C.1.2.2.2.2 _ (List.mem_of_getElem? (i := 7) rfl)) (fun _ h9 => h9) (v := .ref (ad 4)) rfl dX6_tell_44 ?_
  refine VJ.aload_n C 0 dX6_tell_47 rfl ?_
  refine VJ.get (C0 := RX6) (T := TX6) (N := 38) (ci := 6) C in_X6_tell_X6 0 rfl rfl 2 (Nat.le_of_ble_eq_true rfl) (C.1.2.2.2.2 _ (List.mem_of_getElem? (i := 2) rfl)) (fun _ h9 => h9) (v := .int (I 2)) rfl dX6_tell_48 ?_
  refine VJ.iload C 4 dX6_tell_51 rfl ?_
  refine VJ.iastR C 5 0 R4 4 (fun R5 => pf [mW cI cZ o ad I R5]) rfl rfl (fun _ => rfl) dX6_tell_53 (fun R5 => ?_)
  refine VJ.aload_n C 0 dX6_tell_54 rfl ?_
  refine VJ.get (C0 := RX6) (T := TX6) (N := 38) (ci := 6) C in_X6_tell_X6 0 rfl rfl 8 (Nat.le_of_ble_eq_true rfl) (C.1.2.2.2.2 _ (List.mem_of_getElem? (i := 8) rfl)) (fun _ h9 => h9) (v := .ref (ad 5)) rfl dX6_tell_55 ?_
  refine VJ.aload_n C 0 dX6_tell_58 rfl ?_
  refine VJ.get (C0 := RX6) (T := TX6) (N := 38) (ci := 6) C in_X6_tell_X6 0 rfl rfl 2 (Nat.le_of_ble_eq_true rfl) (C.1.2.2.2.2 _ (List.mem_of_getElem? (i := 2) rfl)) (fun _ h9 => h9) (v := .int (I 2)) rfl dX6_tell_59 ?_
  refine VJ.iload C 5 dX6_tell_62 rfl ?_
  refine VJ.iastR C 6 0 R5 5 (fun R6 => pf [mW cI cZ o ad I R6]) rfl rfl (fun _ => rfl) dX6_tell_64 (fun R6 => ?_)
  refine VJ.aload_n C 0 dX6_tell_65 rfl ?_
  refine VJ.get (C0 := RX6) (T := TX6) (N := 38) (ci := 6) C in_X6_tell_X6 0 rfl rfl 9 (Nat.le_of_ble_eq_true rfl) (C.1.2.2.2.2 _ (List.mem_of_getElem? (i := 9) rfl)) (fun _ h9 => h9) (v := .ref (ad 6)) rfl dX6_tell_66 ?_
  refine VJ.aload_n C 0 dX6_tell_69 rfl ?_
  refine VJ.get (C0 := RX6) (T := TX6) (N := 38) (ci := 6) C in_X6_tell_X6 0 rfl rfl 2 (Nat.le_of_ble_eq_true rfl) (C.1.2.2.2.2 _ (List.mem_of_getElem? (i := 2) rfl)) (fun _ h9 => h9) (v := .int (I 2)) rfl dX6_tell_70 ?_
  refine VJ.iload C 6 dX6_tell_73 rfl ?_
  refine VJ.iastR C 7 0 R6 6 (fun R7 => pf [mW cI cZ o ad I R7]) rfl rfl (fun _ => rfl) dX6_tell_75 (fun R7 => ?_)
  refine VJ.aload_n C 0 dX6_tell_76 rfl ?_
  refine VJ.get (C0 := RX6) (T := TX6) (N := 38) (ci := 6) C in_X6_tell_X6 0 rfl rfl 10 (Nat.le_of_ble_eq_true rfl) (C.1.2.2.2.2 _ (List.mem_of_getElem? (i := 10) rfl)) (fun _ h9 => h9) (v := .ref (ad 7)) rfl dX6_tell_77 ?_
  refine VJ.aload_n C 0 dX6_tell_80 rfl ?_
  refine VJ.get (C0 := RX6) (T := TX6) (N := 38) (ci := 6) C in_X6_tell_X6 0 rfl rfl 2 (Nat.le_of_ble_eq_true rfl) (C.1.2.2.2.2 _ (List.mem_of_getElem? (i := 2) rfl)) (fun _ h9 => h9) (v := .int (I 2)) rfl dX6_tell_81 ?_
  refine VJ.iconst (v := (-1)) C dX6_tell_84 (by decide) ?_
  refine VJ.iastR C 8 0 R7 7 (fun R8 => pf [mW cI cZ o ad I R8]) rfl rfl (fun _ => rfl) dX6_tell_85 (fun R8 => ?_)
  refine VJ.iload_n C 1 dX6_tell_86 rfl ?_
  refine VJ.bipush (v := 7) C dX6_tell_87 (by decide) ?_
  refine VJ.icmp_ge C 164 dX6_tell_89 (by decide) (fun _ => ?_) (fun _ => ?_)
  · refine VJ.sub [0] rfl ?_
    exact j164 I R8
  · refine VJ.aload_n C 0 dX6_tell_92 rfl ?_
    refine VJ.get (C0 := RX6) (T := TX6) (N := 38) (ci := 6) C in_X6_tell_X6 0 rfl rfl 11 (Nat.le_of_ble_eq_true rfl) (C.1.2.2.2.2 _ (List.mem_of_getElem? (i := 11) rfl)) (fun _ h9 => h9) (v := .int (I 3)) rfl dX6_tell_93 ?_
    refine VJ.topi C (fun v10 => ?_)
    refine VJ.istore C [(7, .int v10), (0, .ref o), (1, .int x1), (2, .int x2), (3, .int x3), (4, .int x4), (5, .int x5), (6, .int x6)] dX6_tell_96 (Nat.le_of_ble_eq_true rfl) rfl ?_
    refine VJ.sub [1, 3, 0] rfl ?_
    exact j98 N I R8 x2 v10

def f_X6_checkOf (x0 : Int32) : Option Int32 :=
  ol (x0 / 100) (fun v1 => ol (x0 / 10) (fun v2 => ol ((((2 * (x0 / 1000)) + (3 * (v1 - v1 / 10 * 10))) + (4 * (v2 - v2 / 10 * 10))) + (5 * (x0 - x0 / 10 * 10))) (fun v3 => some (v3 - v3 / 11 * 11))))
abbrev rmX6_checkOf : Room := { frames := 0, cells := 0, slots := 0, locals := 0 }
theorem hy_X6_checkOf : yX6_checkOf.cls ≠ "java/lang/invoke/MethodHandle" ∧ yX6_checkOf.cls ≠ "java/lang/invoke/VarHandle" ∧ (parseMethodDescriptor yX6_checkOf.desc).map (fun d => d.parameters.length) = some 1 := by decide +kernel
theorem hyV_X6_checkOf : yX6_checkOf.cls = RX6 ∧ yX6_checkOf.cls ≠ "java/lang/invoke/MethodHandle" ∧ yX6_checkOf.cls ≠ "java/lang/invoke/VarHandle" ∧ (parseMethodDescriptor yX6_checkOf.desc).map (fun d => d.parameters.length) = some 1 := ⟨rfl, hy_X6_checkOf⟩
set_option maxHeartbeats 8000000 in
set_option maxRecDepth 100000 in
theorem c_X6_checkOf (l : Launch) (G : va_G) (cI cZ cQ cU cJ : ClassId) (x0 : Int32) (out : Int32) (hf : f_X6_checkOf x0 = some out) : Con l yX6_checkOf wsX6_checkOf rmX6_checkOf G vwCl (tys cI cZ cQ cU cJ) nws [.int x0] (pf []) (some (.int out)) (pf []) := by
  refine con_of (rv := fun out : Int32 => some (.int out)) (Wd := fun out : Int32 => pf []) (maxL := 1) (own := RX6) rfl (plainFor_of_name (by decide +kernel)) rfl (Nat.le_of_ble_eq_true rfl) ?_ hf
  intro p e s m args below meth c A C hret hname
  unfold f_X6_checkOf
  refine VJ.iconst (v := 2) C dX6_checkOf_0 (by decide) ?_
  refine VJ.iload_n C 0 dX6_checkOf_1 rfl ?_
  refine VJ.sipush (v := 1000) C dX6_checkOf_2 (by decide) ?_
  refine VJ.idiv C dX6_checkOf_5 (by decide) ?_
  refine VJ.imul C dX6_checkOf_6 ?_
  refine VJ.iconst (v := 3) C dX6_checkOf_7 (by decide) ?_
  refine VJ.iload_n C 0 dX6_checkOf_8 rfl ?_
  refine VJ.bipush (v := 100) C dX6_checkOf_9 (by decide) ?_
  refine VJ.idiv C dX6_checkOf_11 (by decide) ?_
  refine VJ.bipush (v := 10) C dX6_checkOf_12 (by decide) ?_
  refine VJ.nami2 C (fun v1 => ?_)
  refine VJ.irem C dX6_checkOf_14 (by decide) ?_
  refine VJ.imul C dX6_checkOf_15 ?_
  refine VJ.iadd C dX6_checkOf_16 ?_
  refine VJ.iconst (v := 4) C dX6_checkOf_17 (by decide) ?_
  refine VJ.iload_n C 0 dX6_checkOf_18 rfl ?_
  refine VJ.bipush (v := 10) C dX6_checkOf_19 (by decide) ?_
  refine VJ.idiv C dX6_checkOf_21 (by decide) ?_
  refine VJ.bipush (v := 10) C dX6_checkOf_22 (by decide) ?_
  refine VJ.nami2 C (fun v2 => ?_)
  refine VJ.irem C dX6_checkOf_24 (by decide) ?_
  refine VJ.imul C dX6_checkOf_25 ?_
  refine VJ.iadd C dX6_checkOf_26 ?_
  refine VJ.iconst (v := 5) C dX6_checkOf_27 (by decide) ?_
  refine VJ.iload_n C 0 dX6_checkOf_28 rfl ?_
  refine VJ.bipush (v := 10) C dX6_checkOf_29 (by decide) ?_
  refine VJ.irem C dX6_checkOf_31 (by decide) ?_
  refine VJ.imul C dX6_checkOf_32 ?_
  refine VJ.iadd C dX6_checkOf_33 ?_
  refine VJ.bipush (v := 11) C dX6_checkOf_34 (by decide) ?_
  refine VJ.nami2 C (fun v3 => ?_)
  refine VJ.irem C dX6_checkOf_36 (by decide) ?_
  exact VJ.iret C hret rfl rfl dX6_checkOf_37

set_option maxHeartbeats 4000000 in
set_option maxRecDepth 100000 in
def f_X6_giveTo_l10b (N : Nat) (k10 : OI → RI → Int32 → Option (Int32 × OI × RI)) (I : OI) (R : RI) (x1 : Int32) : Option (Int32 × OI × RI) :=
  ob1 (f_X6_checkOf (I 6)) (fun r2 => if r2 = 10 then (ol (va_up I 6 ((I 6) + 1)) (fun I7 => k10 I7 R x1)) else (ob1 (f_X6_checkOf (I 6)) (fun r3 => og (I 5) 60 (ol (va_up R 9 (upd (R 9) (I 5).toNatClampNeg ((10 * (I 6)) + r3))) (fun R4 => og (I 5) 60 (ol (va_up R4 10 (upd (R4 10) (I 5).toNatClampNeg x1)) (fun R5 => ol (va_up I 5 ((I 5) + 1)) (fun I6 => og ((I6 5) - 1) 60 (some (R5 9 ((I6 5) - 1).toNatClampNeg, I6, R5))))))))))
set_option maxHeartbeats 4000000 in
set_option maxRecDepth 100000 in
def f_X6_giveTo_l10 (N : Nat) : Nat → OI → RI → Int32 → Option (Int32 × OI × RI)
  | 0 => fun _ _ _ => none
  | n9 + 1 => f_X6_giveTo_l10b N (f_X6_giveTo_l10 N n9)
def f_X6_giveTo (N : Nat) (I : OI) (R : RI) (x1 : Int32) : Option (Int32 × OI × RI) :=
  ol (va_up I 6 ((I 6) + 1)) (fun I1 => f_X6_giveTo_l10 N N I1 R x1)
abbrev rmX6_giveTo : Room := { frames := 1, cells := 0, slots := 0, locals := 20 }
theorem in_X6_giveTo_X6 : ∀ w ∈ u_ws RX6 TX6 38, w ∈ wsX6_giveTo := in_of 9 rfl
theorem hy_X6_giveTo : yX6_giveTo.cls ≠ "java/lang/invoke/MethodHandle" ∧ yX6_giveTo.cls ≠ "java/lang/invoke/VarHandle" ∧ (parseMethodDescriptor yX6_giveTo.desc).map (fun d => d.parameters.length) = some 1 := by decide +kernel
theorem hyV_X6_giveTo : yX6_giveTo.cls = RX6 ∧ yX6_giveTo.cls ≠ "java/lang/invoke/MethodHandle" ∧ yX6_giveTo.cls ≠ "java/lang/invoke/VarHandle" ∧ (parseMethodDescriptor yX6_giveTo.desc).map (fun d => d.parameters.length) = some 1 := ⟨rfl, hy_X6_giveTo⟩
set_option maxHeartbeats 8000000 in
set_option maxRecDepth 100000 in
theorem c_X6_giveTo (l : Launch) (G : va_G) (cI cZ cQ cU cJ : ClassId) (N : Nat) (o : Nat) (ad : Nat → Nat) (I : OI) (R : RI) (x1 : Int32) (out : Int32 × OI × RI) (hf : f_X6_giveTo N I R x1 = some out) : Con l yX6_giveTo wsX6_giveTo rmX6_giveTo G vwCl (tys cI cZ cQ cU cJ) nws [.ref o, .int x1] (pf [mW cI cZ o ad I R]) (some (.int out.1)) (pf [mW cI cZ o ad out.2.1 out.2.2]) := by
  refine con_of (rv := fun out : Int32 × OI × RI => some (.int out.1)) (Wd := fun out : Int32 × OI × RI => pf [mW cI cZ o ad out.2.1 out.2.2]) (maxL := 2) (own := RX6) rfl (plainFor_of_name (by decide +kernel)) rfl (Nat.le_of_ble_eq_true rfl) ?_ hf
  intro p e s m args below meth c A C hret hname
  have j10 : ∀ (n9 : Nat) (I : OI) (R : RI) (x1 : Int32), VJ p l e rmX6_giveTo s m args below meth c 2 G vwCl A (QR below G vwCl A args s rmX6_giveTo.cells rmX6_giveTo.slots (fun out : Int32 × OI × RI => some (.int out.1)) (fun out : Int32 × OI × RI => pf [mW cI cZ o ad out.2.1 out.2.2])) 0 0 (f_X6_giveTo_l10 N  n9 I R x1) (pf [mW cI cZ o ad I R]) 10 [(0, .ref o), (1, .int x1)] [] := by
    intro  n9
    induction n9 with
    | zero => intro I R x1; exact VJ.fnone rfl
    | succ n9 i10 =>
      intro I R x1
      refine VJ.eqf (f' := f_X6_giveTo_l10b N  (f_X6_giveTo_l10 N  n9) I R x1) rfl ?_
      generalize f_X6_giveTo_l10 N  n9 = k10 at i10 ⊢
      unfold f_X6_giveTo_l10b
      refine VJ.aload_n C 0 dX6_giveTo_10 rfl ?_
      refine VJ.get (C0 := RX6) (T := TX6) (N := 38) (ci := 6) C in_X6_giveTo_X6 0 rfl rfl 15 (Nat.le_of_ble_eq_true rfl) (C.1.2.2.2.2 _ (List.mem_of_getElem? (i := 1) rfl)) (fun _ h9 => h9) (v := .int (I 6)) rfl dX6_giveTo_11 ?_
      refine VJ.callS1 C [.int (I 6)] (pf []) (pf [mW cI cZ o ad I R]) (fun r2 => some (.int r2)) (fun r2 => pf []) (fun r2 => pf [mW cI cZ o ad I R]) (fun r2 => [.int r2]) 0 0 (fun _ h9 => c_X6_checkOf l G cI cZ cQ cU cJ (I 6) _ h9) (vj_pn _) (fun _ => vj_pn' _) (va_cwS 1 C.1.2.2.2.2 gX6_giveTo_X6_checkOf rfl rfl rfl hy_X6_checkOf ⟨Nat.le_of_ble_eq_true rfl, Nat.le_of_ble_eq_true rfl⟩) rfl rfl (fun _ => rfl) (Nat.le_of_ble_eq_true rfl) dX6_giveTo_14 ⟨Nat.le_of_ble_eq_true rfl, Nat.le_of_ble_eq_true rfl⟩ ⟨rfl, rfl⟩ (fun r2 => ?_)
      refine VJ.bipush (v := 10) C dX6_giveTo_17 (by decide) ?_
      refine VJ.icmp_ne C 35 dX6_giveTo_19 (by decide) (fun _ => ?_) (fun _ => ?_)
      · refine VJ.aload_n C 0 dX6_giveTo_35 rfl ?_
        refine VJ.get (C0 := RX6) (T := TX6) (N := 38) (ci := 6) C in_X6_giveTo_X6 0 rfl rfl 16 (Nat.le_of_ble_eq_true rfl) (C.1.2.2.2.2 _ (List.mem_of_getElem? (i := 2) rfl)) (fun _ h9 => h9) (v := .ref (ad 9)) rfl dX6_giveTo_36 ?_
        refine VJ.aload_n C 0 dX6_giveTo_39 rfl ?_
        refine VJ.get (C0 := RX6) (T := TX6) (N := 38) (ci := 6) C in_X6_giveTo_X6 0 rfl rfl 14 (Nat.le_of_ble_eq_true rfl) (C.1.2.2.2.2 _ (List.mem_of_getElem? (i := 3) rfl)) (fun _ h9 => h9) (v := .int (I 5)) rfl dX6_giveTo_40 ?_
        refine VJ.bipush (v := 10) C dX6_giveTo_43 (by decide) ?_
        refine VJ.aload_n C 0 dX6_giveTo_45 rfl ?_
        refine VJ.get (C0 := RX6) (T := TX6) (N := 38) (ci := 6) C in_X6_giveTo_X6 0 rfl rfl 15 (Nat.le_of_ble_eq_true rfl) (C.1.2.2.2.2 _ (List.mem_of_getElem? (i := 1) rfl)) (fun _ h9 => h9) (v := .int (I 6)) rfl dX6_giveTo_46 ?_
        refine VJ.imul C dX6_giveTo_49 ?_
        refine VJ.aload_n C 0 dX6_giveTo_50 rfl ?_
        refine VJ.get (C0 := RX6) (T := TX6) (N := 38) (ci := 6) C in_X6_giveTo_X6 0 rfl rfl 15 (Nat.le_of_ble_eq_true rfl) (C.1.2.2.2.2 _ (List.mem_of_getElem? (i := 1) rfl)) (fun _ h9 => h9) (v := .int (I 6)) rfl dX6_giveTo_51 ?_
        refine VJ.callS1 C [.int (I 6)] (pf []) (pf [mW cI cZ o ad I R]) (fun r3 => some (.int r3)) (fun r3 => pf []) (fun r3 => pf [mW cI cZ o ad I R]) (fun r3 => [.int r3, .int (10 * (I 6)), .int (I 5), .ref (ad 9)]) 0 0 (fun _ h9 => c_X6_checkOf l G cI cZ cQ cU cJ (I 6) _ h9) (vj_pn _) (fun _ => vj_pn' _) (va_cwS 1 C.1.2.2.2.2 gX6_giveTo_X6_checkOf rfl rfl rfl hy_X6_checkOf ⟨Nat.le_of_ble_eq_true rfl, Nat.le_of_ble_eq_true rfl⟩) rfl rfl (fun _ => rfl) (Nat.le_of_ble_eq_true rfl) dX6_giveTo_54 ⟨Nat.le_of_ble_eq_true rfl, Nat.le_of_ble_eq_true rfl⟩ ⟨rfl, rfl⟩ (fun r3 => ?_)
        refine VJ.iadd C dX6_giveTo_57 ?_
        refine VJ.iastR C 10 0 R 9 (fun R4 => pf [mW cI cZ o ad I R4]) rfl rfl (fun _ => rfl) dX6_giveTo_58 (fun R4 => ?_)
        refine VJ.aload_n C 0 dX6_giveTo_59 rfl ?_
        refine VJ.get (C0 := RX6) (T := TX6) (N := 38) (ci := 6) C in_X6_giveTo_X6 0 rfl rfl 17 (Nat.le_of_ble_eq_true rfl) (C.1.2.2.2.2 _ (List.mem_of_getElem? (i := 4) rfl)) (fun _ h9 => h9) (v := .ref (ad 10)) rfl dX6_giveTo_60 ?_
        refine VJ.aload_n C 0 dX6_giveTo_63 rfl ?_
        refine VJ.get (C0 := RX6) (T := TX6) (N := 38) (ci := 6) C in_X6_giveTo_X6 0 rfl rfl 14 (Nat.le_of_ble_eq_true rfl) (C.1.2.2.2.2 _ (List.mem_of_getElem? (i := 3) rfl)) (fun _ h9 => h9) (v := .int (I 5)) rfl dX6_giveTo_64 ?_
        refine VJ.iload_n C 1 dX6_giveTo_67 rfl ?_
        refine VJ.iastR C 11 0 R4 10 (fun R5 => pf [mW cI cZ o ad I R5]) rfl rfl (fun _ => rfl) dX6_giveTo_68 (fun R5 => ?_)
        refine VJ.aload_n C 0 dX6_giveTo_69 rfl ?_
        refine VJ.dup C dX6_giveTo_70 rfl ?_
        refine VJ.get (C0 := RX6) (T := TX6) (N := 38) (ci := 6) C in_X6_giveTo_X6 0 rfl rfl 14 (Nat.le_of_ble_eq_true rfl) (C.1.2.2.2.2 _ (List.mem_of_getElem? (i := 3) rfl)) (fun _ h9 => h9) (v := .int (I 5)) rfl dX6_giveTo_71 ?_
        refine VJ.iconst (v := 1) C dX6_giveTo_74 (by decide) ?_
        refine VJ.iadd C dX6_giveTo_75 ?_
        refine VJ.putI (C0 := RX6) (T := TX6) (N := 38) (ci := 6) C in_X6_giveTo_X6 0 rfl rfl 14 (Nat.le_of_ble_eq_true rfl) (C.1.2.2.2.2 _ (List.mem_of_getElem? (i := 3) rfl)) (fun _ h9 => h9) (Ii := I) (jj := 5) (fun I6 => pf [mW cI cZ o ad I6 R5]) tyX6 tyX6_ok nmX6 rfl rfl (Nat.le_of_ble_eq_true rfl) (fun _ => rfl) dX6_giveTo_76 (fun I6 => ?_)
        refine VJ.aload_n C 0 dX6_giveTo_79 rfl ?_
        refine VJ.get (C0 := RX6) (T := TX6) (N := 38) (ci := 6) C in_X6_giveTo_X6 0 rfl rfl 16 (Nat.le_of_ble_eq_true rfl) (C.1.2.2.2.2 _ (List.mem_of_getElem? (i := 2) rfl)) (fun _ h9 => h9) (v := .ref (ad 9)) rfl dX6_giveTo_80 ?_
        refine VJ.aload_n C 0 dX6_giveTo_83 rfl ?_
        refine VJ.get (C0 := RX6) (T := TX6) (N := 38) (ci := 6) C in_X6_giveTo_X6 0 rfl rfl 14 (Nat.le_of_ble_eq_true rfl) (C.1.2.2.2.2 _ (List.mem_of_getElem? (i := 3) rfl)) (fun _ h9 => h9) (v := .int (I6 5)) rfl dX6_giveTo_84 ?_
        refine VJ.iconst (v := 1) C dX6_giveTo_87 (by decide) ?_
        refine VJ.isub C dX6_giveTo_88 ?_
        refine VJ.iald C 10 0 rfl rfl dX6_giveTo_89 ?_
        exact VJ.iret C hret rfl rfl dX6_giveTo_90
      · refine VJ.aload_n C 0 dX6_giveTo_22 rfl ?_
        refine VJ.dup C dX6_giveTo_23 rfl ?_
        refine VJ.get (C0 := RX6) (T := TX6) (N := 38) (ci := 6) C in_X6_giveTo_X6 0 rfl rfl 15 (Nat.le_of_ble_eq_true rfl) (C.1.2.2.2.2 _ (List.mem_of_getElem? (i := 1) rfl)) (fun _ h9 => h9) (v := .int (I 6)) rfl dX6_giveTo_24 ?_
        refine VJ.iconst (v := 1) C dX6_giveTo_27 (by decide) ?_
        refine VJ.iadd C dX6_giveTo_28 ?_
        refine VJ.putI (C0 := RX6) (T := TX6) (N := 38) (ci := 6) C in_X6_giveTo_X6 0 rfl rfl 15 (Nat.le_of_ble_eq_true rfl) (C.1.2.2.2.2 _ (List.mem_of_getElem? (i := 1) rfl)) (fun _ h9 => h9) (Ii := I) (jj := 6) (fun I7 => pf [mW cI cZ o ad I7 R]) tyX6 tyX6_ok nmX6 rfl rfl (Nat.le_of_ble_eq_true rfl) (fun _ => rfl) dX6_giveTo_29 (fun I7 => ?_)
        refine VJ.goto C 10 dX6_giveTo_32 (by decide) ?_
        exact i10 I7 R x1
  unfold f_X6_giveTo
  refine VJ.aload_n C 0 dX6_giveTo_0 rfl ?_
  refine VJ.dup C dX6_giveTo_1 rfl ?_
  refine VJ.get (C0 := RX6) (T := TX6) (N := 38) (ci := 6) C in_X6_giveTo_X6 0 rfl rfl 15 (Nat.le_of_ble_eq_true rfl) (C.1.2.2.2.2 _ (List.mem_of_getElem? (i := 1) rfl)) (fun _ h9 => h9) (v := .int (I 6)) rfl dX6_giveTo_2 ?_
  refine VJ.iconst (v := 1) C dX6_giveTo_5 (by decide) ?_
  refine VJ.iadd C dX6_giveTo_6 ?_
  refine VJ.putI (C0 := RX6) (T := TX6) (N := 38) (ci := 6) C in_X6_giveTo_X6 0 rfl rfl 15 (Nat.le_of_ble_eq_true rfl) (C.1.2.2.2.2 _ (List.mem_of_getElem? (i := 1) rfl)) (fun _ h9 => h9) (Ii := I) (jj := 6) (fun I1 => pf [mW cI cZ o ad I1 R]) tyX6 tyX6_ok nmX6 rfl rfl (Nat.le_of_ble_eq_true rfl) (fun _ => rfl) dX6_giveTo_7 (fun I1 => ?_)
  exact j10 N I1 R x1

