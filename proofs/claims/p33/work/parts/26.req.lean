def strs : List (String × Nat × String) := [(RX5, 64, "the day would be above the last one"), (RX5, 85, "there is no PERSON left"), (RX5, 117, "no kind of tie"), (RX5, 124, "the double has no higher number"), (RX5, 137, "the ACT is a STRIKING, or struck"), (RX5, 186, "no number of a serial"), (RX5, 194, "there is no ROLL left"), (RX5, 214, "no such place"), (RX5, 245, "no such PERSON"), (RX5, 247, "no such DWELLING"), (RX5, 249, "no such OFFICE"), (RX5, 253, "no such ACT"), (RX5, 255, "no such ROLL"), (RX5, 257, "out of range"), (RX5, 259, "both are the same"), (RX5, 262, "there is no ACT left"), (RX5, 267, "there is no number left")]
theorem xf0 : Bundle.fit (exn (0 + 1)) = true := by decide +kernel
theorem xg0 : ∀ w ∈ Cond.classLink RX5 212 (exn (0 + 1)) :: Cond.initialized (exn (0 + 1)) :: vx_atS RX5 216 (exn (0 + 1)) ["java/lang/RuntimeException", "java/lang/Exception"], vx_ot w = true := by decide +kernel
theorem xh0 : ∀ w ∈ (vx_atS RX5 216 (exn (0 + 1)) ["java/lang/RuntimeException", "java/lang/Exception"]).filter (fun w => !goodWord w), w ∈ [Cond.castable (exn (0 + 1)) (exn (0 + 1)), .declares (Bundle.initS "java/lang/RuntimeException"), .declares (Bundle.initS "java/lang/Exception"), .declares (Bundle.initS "java/lang/Throwable")] := by decide +kernel
theorem xi0 : ∀ w ∈ [Cond.castable (exn (0 + 1)) (exn (0 + 1)), .declares (Bundle.initS "java/lang/RuntimeException"), .declares (Bundle.initS "java/lang/Exception"), .declares (Bundle.initS "java/lang/Throwable")], w ∈ nws ∧ w.onTables = true := by decide +kernel
theorem xf1 : Bundle.fit (exn (1 + 1)) = true := by decide +kernel
theorem xg1 : ∀ w ∈ Cond.classLink RX5 115 (exn (1 + 1)) :: Cond.initialized (exn (1 + 1)) :: vx_atS RX5 119 (exn (1 + 1)) ["java/lang/RuntimeException", "java/lang/Exception"], vx_ot w = true := by decide +kernel
theorem xh1 : ∀ w ∈ (vx_atS RX5 119 (exn (1 + 1)) ["java/lang/RuntimeException", "java/lang/Exception"]).filter (fun w => !goodWord w), w ∈ [Cond.castable (exn (1 + 1)) (exn (1 + 1)), .declares (Bundle.initS "java/lang/RuntimeException"), .declares (Bundle.initS "java/lang/Exception"), .declares (Bundle.initS "java/lang/Throwable")] := by decide +kernel
theorem xi1 : ∀ w ∈ [Cond.castable (exn (1 + 1)) (exn (1 + 1)), .declares (Bundle.initS "java/lang/RuntimeException"), .declares (Bundle.initS "java/lang/Exception"), .declares (Bundle.initS "java/lang/Throwable")], w ∈ nws ∧ w.onTables = true := by decide +kernel
theorem xf2 : Bundle.fit (exn (2 + 1)) = true := by decide +kernel
theorem xg2 : ∀ w ∈ Cond.classLink RX5 62 (exn (2 + 1)) :: Cond.initialized (exn (2 + 1)) :: vx_atS RX5 66 (exn (2 + 1)) ["java/lang/RuntimeException", "java/lang/Exception"], vx_ot w = true := by decide +kernel
theorem xh2 : ∀ w ∈ (vx_atS RX5 66 (exn (2 + 1)) ["java/lang/RuntimeException", "java/lang/Exception"]).filter (fun w => !goodWord w), w ∈ [Cond.castable (exn (2 + 1)) (exn (2 + 1)), .declares (Bundle.initS "java/lang/RuntimeException"), .declares (Bundle.initS "java/lang/Exception"), .declares (Bundle.initS "java/lang/Throwable")] := by decide +kernel
theorem xi2 : ∀ w ∈ [Cond.castable (exn (2 + 1)) (exn (2 + 1)), .declares (Bundle.initS "java/lang/RuntimeException"), .declares (Bundle.initS "java/lang/Exception"), .declares (Bundle.initS "java/lang/Throwable")], w ∈ nws ∧ w.onTables = true := by decide +kernel


set_option maxHeartbeats 4000000 in
set_option maxRecDepth 100000 in
def f_X5_requirePerson_j12 (I : OI) (R : RI) : Option Nat :=
  some 1
def f_X5_requirePerson (I : OI) (R : RI) (x1 : Int32) : Option Nat :=
  if x1 < 0 then (f_X5_requirePerson_j12 I R) else (if x1 < (I 1) then (some 0) else (f_X5_requirePerson_j12 I R))
abbrev rmX5_requirePerson : Room := { frames := 6, cells := 1, slots := 6, locals := 90 }
theorem in_X5_requirePerson_X5 : ∀ w ∈ u_ws RX5 TX5 11, w ∈ wsX5_requirePerson := in_of 4 rfl
theorem hy_X5_requirePerson : yX5_requirePerson.cls ≠ "java/lang/invoke/MethodHandle" ∧ yX5_requirePerson.cls ≠ "java/lang/invoke/VarHandle" ∧ (parseMethodDescriptor yX5_requirePerson.desc).map (fun d => d.parameters.length) = some 1 := by decide +kernel
theorem hyV_X5_requirePerson : yX5_requirePerson.cls = RX5 ∧ yX5_requirePerson.cls ≠ "java/lang/invoke/MethodHandle" ∧ yX5_requirePerson.cls ≠ "java/lang/invoke/VarHandle" ∧ (parseMethodDescriptor yX5_requirePerson.desc).map (fun d => d.parameters.length) = some 1 := ⟨rfl, hy_X5_requirePerson⟩
set_option maxHeartbeats 8000000 in
set_option maxRecDepth 100000 in
theorem c_X5_requirePerson (l : Launch) (hl9 : l.stackTraces = false) (G : va_G) (cI cZ cQ cU cJ : ClassId) (o : Nat) (ad : Nat → Nat) (rf : Nat → Nat) (I : OI) (R : RI) (x1 : Int32) (out : Nat) (hf : f_X5_requirePerson I R x1 = some out) : ConX l yX5_requirePerson wsX5_requirePerson rmX5_requirePerson G vwCl (tys cI cZ cQ cU cJ) nws strs [.ref o, .int x1] (pf [xW cI cZ o ad I R rf]) (fun k' r M' => k' = out ∧ r = none ∧ M' = pf [xW cI cZ o ad I R rf]) := by
  refine conX_of (Qf := fun (o9 : Nat) below A args s t9 => QP below G vwCl A args s rmX5_requirePerson.cells rmX5_requirePerson.slots ((fun (out : Nat) (k' : Nat) (r : Option Value) (M' : va_W) => k' = out ∧ r = none ∧ M' = pf [xW cI cZ o ad I R rf]) o9) t9) (maxL := 2) (own := RX5) hl9 rfl (by decide +kernel) rfl (Nat.le_of_ble_eq_true rfl) (fun _ _ _ _ _ h9 => h9) ?_ hf
  intro p e s m args below meth c A CX hret hE
  have C := CX.1
  have j12 : VJ p l e rmX5_requirePerson s m args below meth c 2 G vwCl A (fun (o9 : Nat) (t9 : State) => QP below G vwCl A args s rmX5_requirePerson.cells rmX5_requirePerson.slots ((fun (out : Nat) (k' : Nat) (r : Option Value) (M' : va_W) => k' = out ∧ r = none ∧ M' = pf [xW cI cZ o ad I R rf]) o9) t9) 0 0 (f_X5_requirePerson_j12 I R  ) (pf [xW cI cZ o ad I R rf]) 12 [] [] := by
    unfold f_X5_requirePerson_j12
    exact VJ.throwS CX 0 rmX5_requirePerson.cells rmX5_requirePerson.slots (text := "no such PERSON") hE (fun _ h9 => h9) ⟨rfl, rfl, rfl⟩ xf0 (C.1.2.2.2.2 _ (List.mem_of_getElem? (i := 1) rfl)) (C.1.2.2.2.2 _ (List.mem_of_getElem? (i := 2) rfl)) (List.mem_of_getElem? (i := 8) rfl) (vj_hat C (fun w h9 => List.mem_cons_of_mem _ (List.mem_append_right _ h9)) xh0 xi0) xg0 dX5_requirePerson_12 dX5_requirePerson_15 dX5_requirePerson_16 dX5_requirePerson_18 dX5_requirePerson_21 (Nat.le_of_ble_eq_true rfl) (Nat.le_of_ble_eq_true rfl) (Nat.le_of_ble_eq_true rfl) (Nat.le_of_ble_eq_true rfl) (Nat.le_of_ble_eq_true rfl) (Nat.le_of_ble_eq_true rfl)
  unfold f_X5_requirePerson
  refine VJ.iload_n C 1 dX5_requirePerson_0 rfl ?_
  refine VJ.if_lt C 12 dX5_requirePerson_1 (by decide) (fun _ => ?_) (fun _ => ?_)
  · refine VJ.sub [] rfl ?_
    exact j12
  · refine VJ.iload_n C 1 dX5_requirePerson_4 rfl ?_
    refine VJ.aload_n C 0 dX5_requirePerson_5 rfl ?_
    refine VJ.get (C0 := RX5) (T := TX5) (N := 11) (ci := 5) C in_X5_requirePerson_X5 0 rfl rfl 9 (Nat.le_of_ble_eq_true rfl) (C.1.2.2.2.2 _ (List.mem_of_getElem? (i := 3) rfl)) (fun _ h9 => h9) (v := .int (I 1)) rfl dX5_requirePerson_6 ?_
    refine VJ.icmp_lt C 22 dX5_requirePerson_9 (by decide) (fun _ => ?_) (fun _ => ?_)
    · exact VJ.vretP C rmX5_requirePerson.cells rmX5_requirePerson.slots (fun _ h9 => h9) ⟨rfl, rfl, rfl⟩ hret (Nat.le_of_ble_eq_true rfl) (Nat.le_of_ble_eq_true rfl) dX5_requirePerson_22
    · refine VJ.sub [] rfl ?_
      exact j12

def f_X5_requirePersonOrNone (I : OI) (R : RI) (x1 : Int32) : Option Nat :=
  if x1 = (-1) then (some 0) else (obc (f_X5_requirePerson I R x1) (fun k9 => k9) (some 0))
abbrev rmX5_requirePersonOrNone : Room := { frames := 7, cells := 1, slots := 6, locals := 111 }
theorem hy_X5_requirePersonOrNone : yX5_requirePersonOrNone.cls ≠ "java/lang/invoke/MethodHandle" ∧ yX5_requirePersonOrNone.cls ≠ "java/lang/invoke/VarHandle" ∧ (parseMethodDescriptor yX5_requirePersonOrNone.desc).map (fun d => d.parameters.length) = some 1 := by decide +kernel
theorem hyV_X5_requirePersonOrNone : yX5_requirePersonOrNone.cls = RX5 ∧ yX5_requirePersonOrNone.cls ≠ "java/lang/invoke/MethodHandle" ∧ yX5_requirePersonOrNone.cls ≠ "java/lang/invoke/VarHandle" ∧ (parseMethodDescriptor yX5_requirePersonOrNone.desc).map (fun d => d.parameters.length) = some 1 := ⟨rfl, hy_X5_requirePersonOrNone⟩
set_option maxHeartbeats 8000000 in
set_option maxRecDepth 100000 in
theorem c_X5_requirePersonOrNone (l : Launch) (hl9 : l.stackTraces = false) (G : va_G) (cI cZ cQ cU cJ : ClassId) (o : Nat) (ad : Nat → Nat) (rf : Nat → Nat) (I : OI) (R : RI) (x1 : Int32) (out : Nat) (hf : f_X5_requirePersonOrNone I R x1 = some out) : ConX l yX5_requirePersonOrNone wsX5_requirePersonOrNone rmX5_requirePersonOrNone G vwCl (tys cI cZ cQ cU cJ) nws strs [.ref o, .int x1] (pf [xW cI cZ o ad I R rf]) (fun k' r M' => k' = out ∧ r = none ∧ M' = pf [xW cI cZ o ad I R rf]) := by
  refine conX_of (Qf := fun (o9 : Nat) below A args s t9 => QP below G vwCl A args s rmX5_requirePersonOrNone.cells rmX5_requirePersonOrNone.slots ((fun (out : Nat) (k' : Nat) (r : Option Value) (M' : va_W) => k' = out ∧ r = none ∧ M' = pf [xW cI cZ o ad I R rf]) o9) t9) (maxL := 2) (own := RX5) hl9 rfl (by decide +kernel) rfl (Nat.le_of_ble_eq_true rfl) (fun _ _ _ _ _ h9 => h9) ?_ hf
  intro p e s m args below meth c A CX hret hE
  have C := CX.1
  unfold f_X5_requirePersonOrNone
  refine VJ.iload_n C 1 dX5_requirePersonOrNone_0 rfl ?_
  refine VJ.iconst (v := (-1)) C dX5_requirePersonOrNone_1 (by decide) ?_
  refine VJ.icmp_eq C 10 dX5_requirePersonOrNone_2 (by decide) (fun _ => ?_) (fun _ => ?_)
  · exact VJ.vretP C rmX5_requirePersonOrNone.cells rmX5_requirePersonOrNone.slots (fun _ h9 => h9) ⟨rfl, rfl, rfl⟩ hret (Nat.le_of_ble_eq_true rfl) (Nat.le_of_ble_eq_true rfl) dX5_requirePersonOrNone_10
  · refine VJ.aload_n C 0 dX5_requirePersonOrNone_5 rfl ?_
    refine VJ.iload_n C 1 dX5_requirePersonOrNone_6 rfl ?_
    refine VJ.reqV (T := (fun k9 => k9)) (P := fun k9 => (fun (out : Nat) (k' : Nat) (r : Option Value) (M' : va_W) => k' = out ∧ r = none ∧ M' = pf [xW cI cZ o ad I R rf]) k9) CX [.int x1] (pf [xW cI cZ o ad I R rf]) ([]) 1 6 rmX5_requirePersonOrNone.cells rmX5_requirePersonOrNone.slots hE (fun _ h9 => c_X5_requirePerson l hl9 G cI cZ cQ cU cJ o ad rf I R x1 _ h9) (vj_p0 _) 0 rfl rfl (cwV 1 C.1.2.2.2.2 gX5_requirePersonOrNone_X5_requirePerson rfl rfl rfl hyV_X5_requirePerson ⟨Nat.le_of_ble_eq_true rfl, Nat.le_of_ble_eq_true rfl⟩) rfl rfl (Nat.le_of_ble_eq_true rfl) dX5_requirePersonOrNone_7 ⟨Nat.le_of_ble_eq_true rfl, Nat.le_of_ble_eq_true rfl⟩ ⟨rfl, rfl⟩ ⟨Nat.le_of_ble_eq_true rfl, Nat.le_of_ble_eq_true rfl⟩ (fun _ _ h9 => h9) (fun _ => ⟨rfl, rfl, rfl⟩) ?_
    exact VJ.vretP C rmX5_requirePersonOrNone.cells rmX5_requirePersonOrNone.slots (fun _ h9 => h9) ⟨rfl, rfl, rfl⟩ hret (Nat.le_of_ble_eq_true rfl) (Nat.le_of_ble_eq_true rfl) dX5_requirePersonOrNone_10

set_option maxHeartbeats 4000000 in
set_option maxRecDepth 100000 in
def f_X5_requireDwelling_j10 : Option Nat :=
  some 1
def f_X5_requireDwelling (x0 : Int32) : Option Nat :=
  if x0 < 0 then f_X5_requireDwelling_j10 else (if x0 < 16 then (some 0) else f_X5_requireDwelling_j10)
abbrev rmX5_requireDwelling : Room := { frames := 6, cells := 1, slots := 6, locals := 90 }
theorem hy_X5_requireDwelling : yX5_requireDwelling.cls ≠ "java/lang/invoke/MethodHandle" ∧ yX5_requireDwelling.cls ≠ "java/lang/invoke/VarHandle" ∧ (parseMethodDescriptor yX5_requireDwelling.desc).map (fun d => d.parameters.length) = some 1 := by decide +kernel
theorem hyV_X5_requireDwelling : yX5_requireDwelling.cls = RX5 ∧ yX5_requireDwelling.cls ≠ "java/lang/invoke/MethodHandle" ∧ yX5_requireDwelling.cls ≠ "java/lang/invoke/VarHandle" ∧ (parseMethodDescriptor yX5_requireDwelling.desc).map (fun d => d.parameters.length) = some 1 := ⟨rfl, hy_X5_requireDwelling⟩
set_option maxHeartbeats 8000000 in
set_option maxRecDepth 100000 in
theorem c_X5_requireDwelling (l : Launch) (hl9 : l.stackTraces = false) (G : va_G) (cI cZ cQ cU cJ : ClassId) (x0 : Int32) (out : Nat) (hf : f_X5_requireDwelling x0 = some out) : ConX l yX5_requireDwelling wsX5_requireDwelling rmX5_requireDwelling G vwCl (tys cI cZ cQ cU cJ) nws strs [.int x0] (pf []) (fun k' r M' => k' = out ∧ r = none ∧ M' = pf []) := by
  refine conX_of (Qf := fun (o9 : Nat) below A args s t9 => QP below G vwCl A args s rmX5_requireDwelling.cells rmX5_requireDwelling.slots ((fun (out : Nat) (k' : Nat) (r : Option Value) (M' : va_W) => k' = out ∧ r = none ∧ M' = pf []) o9) t9) (maxL := 1) (own := RX5) hl9 rfl (by decide +kernel) rfl (Nat.le_of_ble_eq_true rfl) (fun _ _ _ _ _ h9 => h9) ?_ hf
  intro p e s m args below meth c A CX hret hE
  have C := CX.1
  have j10 : VJ p l e rmX5_requireDwelling s m args below meth c 1 G vwCl A (fun (o9 : Nat) (t9 : State) => QP below G vwCl A args s rmX5_requireDwelling.cells rmX5_requireDwelling.slots ((fun (out : Nat) (k' : Nat) (r : Option Value) (M' : va_W) => k' = out ∧ r = none ∧ M' = pf []) o9) t9) 0 0 (f_X5_requireDwelling_j10   ) (pf []) 10 [] [] := by
    unfold f_X5_requireDwelling_j10
    exact VJ.throwS CX 0 rmX5_requireDwelling.cells rmX5_requireDwelling.slots (text := "no such DWELLING") hE (fun _ h9 => h9) ⟨rfl, rfl, rfl⟩ xf0 (C.1.2.2.2.2 _ (List.mem_of_getElem? (i := 1) rfl)) (C.1.2.2.2.2 _ (List.mem_of_getElem? (i := 2) rfl)) (List.mem_of_getElem? (i := 9) rfl) (vj_hat C (fun w h9 => List.mem_cons_of_mem _ (List.mem_append_right _ h9)) xh0 xi0) xg0 dX5_requireDwelling_10 dX5_requireDwelling_13 dX5_requireDwelling_14 dX5_requireDwelling_16 dX5_requireDwelling_19 (Nat.le_of_ble_eq_true rfl) (Nat.le_of_ble_eq_true rfl) (Nat.le_of_ble_eq_true rfl) (Nat.le_of_ble_eq_true rfl) (Nat.le_of_ble_eq_true rfl) (Nat.le_of_ble_eq_true rfl)
  unfold f_X5_requireDwelling
  refine VJ.iload_n C 0 dX5_requireDwelling_0 rfl ?_
  refine VJ.if_lt C 10 dX5_requireDwelling_1 (by decide) (fun _ => ?_) (fun _ => ?_)
  · refine VJ.sub [] rfl ?_
    exact j10
  · refine VJ.iload_n C 0 dX5_requireDwelling_4 rfl ?_
    refine VJ.bipush (v := 16) C dX5_requireDwelling_5 (by decide) ?_
    refine VJ.icmp_lt C 20 dX5_requireDwelling_7 (by decide) (fun _ => ?_) (fun _ => ?_)
    · exact VJ.vretP C rmX5_requireDwelling.cells rmX5_requireDwelling.slots (fun _ h9 => h9) ⟨rfl, rfl, rfl⟩ hret (Nat.le_of_ble_eq_true rfl) (Nat.le_of_ble_eq_true rfl) dX5_requireDwelling_20
    · refine VJ.sub [] rfl ?_
      exact j10

set_option maxHeartbeats 4000000 in
set_option maxRecDepth 100000 in
def f_X5_requireOffice_j9 : Option Nat :=
  some 1
def f_X5_requireOffice (x0 : Int32) : Option Nat :=
  if x0 < 0 then f_X5_requireOffice_j9 else (if x0 < 4 then (some 0) else f_X5_requireOffice_j9)
abbrev rmX5_requireOffice : Room := { frames := 6, cells := 1, slots := 6, locals := 90 }
theorem hy_X5_requireOffice : yX5_requireOffice.cls ≠ "java/lang/invoke/MethodHandle" ∧ yX5_requireOffice.cls ≠ "java/lang/invoke/VarHandle" ∧ (parseMethodDescriptor yX5_requireOffice.desc).map (fun d => d.parameters.length) = some 1 := by decide +kernel
theorem hyV_X5_requireOffice : yX5_requireOffice.cls = RX5 ∧ yX5_requireOffice.cls ≠ "java/lang/invoke/MethodHandle" ∧ yX5_requireOffice.cls ≠ "java/lang/invoke/VarHandle" ∧ (parseMethodDescriptor yX5_requireOffice.desc).map (fun d => d.parameters.length) = some 1 := ⟨rfl, hy_X5_requireOffice⟩
set_option maxHeartbeats 8000000 in
set_option maxRecDepth 100000 in
theorem c_X5_requireOffice (l : Launch) (hl9 : l.stackTraces = false) (G : va_G) (cI cZ cQ cU cJ : ClassId) (x0 : Int32) (out : Nat) (hf : f_X5_requireOffice x0 = some out) : ConX l yX5_requireOffice wsX5_requireOffice rmX5_requireOffice G vwCl (tys cI cZ cQ cU cJ) nws strs [.int x0] (pf []) (fun k' r M' => k' = out ∧ r = none ∧ M' = pf []) := by
  refine conX_of (Qf := fun (o9 : Nat) below A args s t9 => QP below G vwCl A args s rmX5_requireOffice.cells rmX5_requireOffice.slots ((fun (out : Nat) (k' : Nat) (r : Option Value) (M' : va_W) => k' = out ∧ r = none ∧ M' = pf []) o9) t9) (maxL := 1) (own := RX5) hl9 rfl (by decide +kernel) rfl (Nat.le_of_ble_eq_true rfl) (fun _ _ _ _ _ h9 => h9) ?_ hf
  intro p e s m args below meth c A CX hret hE
  have C := CX.1
  have j9 : VJ p l e rmX5_requireOffice s m args below meth c 1 G vwCl A (fun (o9 : Nat) (t9 : State) => QP below G vwCl A args s rmX5_requireOffice.cells rmX5_requireOffice.slots ((fun (out : Nat) (k' : Nat) (r : Option Value) (M' : va_W) => k' = out ∧ r = none ∧ M' = pf []) o9) t9) 0 0 (f_X5_requireOffice_j9   ) (pf []) 9 [] [] := by
    unfold f_X5_requireOffice_j9
    exact VJ.throwS CX 0 rmX5_requireOffice.cells rmX5_requireOffice.slots (text := "no such OFFICE") hE (fun _ h9 => h9) ⟨rfl, rfl, rfl⟩ xf0 (C.1.2.2.2.2 _ (List.mem_of_getElem? (i := 1) rfl)) (C.1.2.2.2.2 _ (List.mem_of_getElem? (i := 2) rfl)) (List.mem_of_getElem? (i := 10) rfl) (vj_hat C (fun w h9 => List.mem_cons_of_mem _ (List.mem_append_right _ h9)) xh0 xi0) xg0 dX5_requireOffice_9 dX5_requireOffice_12 dX5_requireOffice_13 dX5_requireOffice_15 dX5_requireOffice_18 (Nat.le_of_ble_eq_true rfl) (Nat.le_of_ble_eq_true rfl) (Nat.le_of_ble_eq_true rfl) (Nat.le_of_ble_eq_true rfl) (Nat.le_of_ble_eq_true rfl) (Nat.le_of_ble_eq_true rfl)
  unfold f_X5_requireOffice
  refine VJ.iload_n C 0 dX5_requireOffice_0 rfl ?_
  refine VJ.if_lt C 9 dX5_requireOffice_1 (by decide) (fun _ => ?_) (fun _ => ?_)
  · refine VJ.sub [] rfl ?_
    exact j9
  · refine VJ.iload_n C 0 dX5_requireOffice_4 rfl ?_
    refine VJ.iconst (v := 4) C dX5_requireOffice_5 (by decide) ?_
    refine VJ.icmp_lt C 19 dX5_requireOffice_6 (by decide) (fun _ => ?_) (fun _ => ?_)
    · exact VJ.vretP C rmX5_requireOffice.cells rmX5_requireOffice.slots (fun _ h9 => h9) ⟨rfl, rfl, rfl⟩ hret (Nat.le_of_ble_eq_true rfl) (Nat.le_of_ble_eq_true rfl) dX5_requireOffice_19
    · refine VJ.sub [] rfl ?_
      exact j9

set_option maxHeartbeats 4000000 in
set_option maxRecDepth 100000 in
def f_X5_requireWithin_j10 : Option Nat :=
  some 2
def f_X5_requireWithin (x0 : Int32) (x1 : Int32) (x2 : Int32) : Option Nat :=
  if x0 < x1 then f_X5_requireWithin_j10 else (if x0 ≤ x2 then (some 0) else f_X5_requireWithin_j10)
abbrev rmX5_requireWithin : Room := { frames := 6, cells := 1, slots := 6, locals := 90 }
theorem hy_X5_requireWithin : yX5_requireWithin.cls ≠ "java/lang/invoke/MethodHandle" ∧ yX5_requireWithin.cls ≠ "java/lang/invoke/VarHandle" ∧ (parseMethodDescriptor yX5_requireWithin.desc).map (fun d => d.parameters.length) = some 3 := by decide +kernel
theorem hyV_X5_requireWithin : yX5_requireWithin.cls = RX5 ∧ yX5_requireWithin.cls ≠ "java/lang/invoke/MethodHandle" ∧ yX5_requireWithin.cls ≠ "java/lang/invoke/VarHandle" ∧ (parseMethodDescriptor yX5_requireWithin.desc).map (fun d => d.parameters.length) = some 3 := ⟨rfl, hy_X5_requireWithin⟩
set_option maxHeartbeats 8000000 in
set_option maxRecDepth 100000 in
theorem c_X5_requireWithin (l : Launch) (hl9 : l.stackTraces = false) (G : va_G) (cI cZ cQ cU cJ : ClassId) (x0 : Int32) (x1 : Int32) (x2 : Int32) (out : Nat) (hf : f_X5_requireWithin x0 x1 x2 = some out) : ConX l yX5_requireWithin wsX5_requireWithin rmX5_requireWithin G vwCl (tys cI cZ cQ cU cJ) nws strs [.int x0, .int x1, .int x2] (pf []) (fun k' r M' => k' = out ∧ r = none ∧ M' = pf []) := by
  refine conX_of (Qf := fun (o9 : Nat) below A args s t9 => QP below G vwCl A args s rmX5_requireWithin.cells rmX5_requireWithin.slots ((fun (out : Nat) (k' : Nat) (r : Option Value) (M' : va_W) => k' = out ∧ r = none ∧ M' = pf []) o9) t9) (maxL := 3) (own := RX5) hl9 rfl (by decide +kernel) rfl (Nat.le_of_ble_eq_true rfl) (fun _ _ _ _ _ h9 => h9) ?_ hf
  intro p e s m args below meth c A CX hret hE
  have C := CX.1
  have j10 : VJ p l e rmX5_requireWithin s m args below meth c 3 G vwCl A (fun (o9 : Nat) (t9 : State) => QP below G vwCl A args s rmX5_requireWithin.cells rmX5_requireWithin.slots ((fun (out : Nat) (k' : Nat) (r : Option Value) (M' : va_W) => k' = out ∧ r = none ∧ M' = pf []) o9) t9) 0 0 (f_X5_requireWithin_j10   ) (pf []) 10 [] [] := by
    unfold f_X5_requireWithin_j10
    exact VJ.throwSW CX 1 rmX5_requireWithin.cells rmX5_requireWithin.slots (text := "out of range") hE (fun _ h9 => h9) ⟨rfl, rfl, rfl⟩ xf1 (C.1.2.2.2.2 _ (List.mem_of_getElem? (i := 1) rfl)) (C.1.2.2.2.2 _ (List.mem_of_getElem? (i := 2) rfl)) (List.mem_of_getElem? (i := 13) rfl) (vj_hat C (fun w h9 => List.mem_cons_of_mem _ (List.mem_append_right _ h9)) xh1 xi1) xg1 dX5_requireWithin_10 dX5_requireWithin_13 dX5_requireWithin_14 dX5_requireWithin_17 dX5_requireWithin_20 (Nat.le_of_ble_eq_true rfl) (Nat.le_of_ble_eq_true rfl) (Nat.le_of_ble_eq_true rfl) (Nat.le_of_ble_eq_true rfl) (Nat.le_of_ble_eq_true rfl) (Nat.le_of_ble_eq_true rfl)
  unfold f_X5_requireWithin
  refine VJ.iload_n C 0 dX5_requireWithin_0 rfl ?_
  refine VJ.iload_n C 1 dX5_requireWithin_1 rfl ?_
  refine VJ.icmp_lt C 10 dX5_requireWithin_2 (by decide) (fun _ => ?_) (fun _ => ?_)
  · refine VJ.sub [] rfl ?_
    exact j10
  · refine VJ.iload_n C 0 dX5_requireWithin_5 rfl ?_
    refine VJ.iload_n C 2 dX5_requireWithin_6 rfl ?_
    refine VJ.icmp_le C 21 dX5_requireWithin_7 (by decide) (fun _ => ?_) (fun _ => ?_)
    · exact VJ.vretP C rmX5_requireWithin.cells rmX5_requireWithin.slots (fun _ h9 => h9) ⟨rfl, rfl, rfl⟩ hret (Nat.le_of_ble_eq_true rfl) (Nat.le_of_ble_eq_true rfl) dX5_requireWithin_21
    · refine VJ.sub [] rfl ?_
      exact j10

def f_X5_requireUnlike (x0 : Int32) (x1 : Int32) : Option Nat :=
  if x0 = x1 then (some 2) else (some 0)
abbrev rmX5_requireUnlike : Room := { frames := 6, cells := 1, slots := 6, locals := 90 }
theorem hy_X5_requireUnlike : yX5_requireUnlike.cls ≠ "java/lang/invoke/MethodHandle" ∧ yX5_requireUnlike.cls ≠ "java/lang/invoke/VarHandle" ∧ (parseMethodDescriptor yX5_requireUnlike.desc).map (fun d => d.parameters.length) = some 2 := by decide +kernel
theorem hyV_X5_requireUnlike : yX5_requireUnlike.cls = RX5 ∧ yX5_requireUnlike.cls ≠ "java/lang/invoke/MethodHandle" ∧ yX5_requireUnlike.cls ≠ "java/lang/invoke/VarHandle" ∧ (parseMethodDescriptor yX5_requireUnlike.desc).map (fun d => d.parameters.length) = some 2 := ⟨rfl, hy_X5_requireUnlike⟩
set_option maxHeartbeats 8000000 in
set_option maxRecDepth 100000 in
theorem c_X5_requireUnlike (l : Launch) (hl9 : l.stackTraces = false) (G : va_G) (cI cZ cQ cU cJ : ClassId) (x0 : Int32) (x1 : Int32) (out : Nat) (hf : f_X5_requireUnlike x0 x1 = some out) : ConX l yX5_requireUnlike wsX5_requireUnlike rmX5_requireUnlike G vwCl (tys cI cZ cQ cU cJ) nws strs [.int x0, .int x1] (pf []) (fun k' r M' => k' = out ∧ r = none ∧ M' = pf []) := by
  refine conX_of (Qf := fun (o9 : Nat) below A args s t9 => QP below G vwCl A args s rmX5_requireUnlike.cells rmX5_requireUnlike.slots ((fun (out : Nat) (k' : Nat) (r : Option Value) (M' : va_W) => k' = out ∧ r = none ∧ M' = pf []) o9) t9) (maxL := 2) (own := RX5) hl9 rfl (by decide +kernel) rfl (Nat.le_of_ble_eq_true rfl) (fun _ _ _ _ _ h9 => h9) ?_ hf
  intro p e s m args below meth c A CX hret hE
  have C := CX.1
  unfold f_X5_requireUnlike
  refine VJ.iload_n C 0 dX5_requireUnlike_0 rfl ?_
  refine VJ.iload_n C 1 dX5_requireUnlike_1 rfl ?_
  refine VJ.icmp_ne C 16 dX5_requireUnlike_2 (by decide) (fun _ => ?_) (fun _ => ?_)
  · exact VJ.vretP C rmX5_requireUnlike.cells rmX5_requireUnlike.slots (fun _ h9 => h9) ⟨rfl, rfl, rfl⟩ hret (Nat.le_of_ble_eq_true rfl) (Nat.le_of_ble_eq_true rfl) dX5_requireUnlike_16
  · exact VJ.throwSW CX 1 rmX5_requireUnlike.cells rmX5_requireUnlike.slots (text := "both are the same") hE (fun _ h9 => h9) ⟨rfl, rfl, rfl⟩ xf1 (C.1.2.2.2.2 _ (List.mem_of_getElem? (i := 1) rfl)) (C.1.2.2.2.2 _ (List.mem_of_getElem? (i := 2) rfl)) (List.mem_of_getElem? (i := 14) rfl) (vj_hat C (fun w h9 => List.mem_cons_of_mem _ (List.mem_append_right _ h9)) xh1 xi1) xg1 dX5_requireUnlike_5 dX5_requireUnlike_8 dX5_requireUnlike_9 dX5_requireUnlike_12 dX5_requireUnlike_15 (Nat.le_of_ble_eq_true rfl) (Nat.le_of_ble_eq_true rfl) (Nat.le_of_ble_eq_true rfl) (Nat.le_of_ble_eq_true rfl) (Nat.le_of_ble_eq_true rfl) (Nat.le_of_ble_eq_true rfl)

def f_X5_requireDay (I : OI) (R : RI) (x1 : Int32) : Option Nat :=
  obc (f_X5_requireWithin x1 0 (I 0)) (fun k9 => k9) (some 0)
abbrev rmX5_requireDay : Room := { frames := 7, cells := 1, slots := 6, locals := 112 }
theorem in_X5_requireDay_X5 : ∀ w ∈ u_ws RX5 TX5 11, w ∈ wsX5_requireDay := in_of 8 rfl
theorem hy_X5_requireDay : yX5_requireDay.cls ≠ "java/lang/invoke/MethodHandle" ∧ yX5_requireDay.cls ≠ "java/lang/invoke/VarHandle" ∧ (parseMethodDescriptor yX5_requireDay.desc).map (fun d => d.parameters.length) = some 1 := by decide +kernel
theorem hyV_X5_requireDay : yX5_requireDay.cls = RX5 ∧ yX5_requireDay.cls ≠ "java/lang/invoke/MethodHandle" ∧ yX5_requireDay.cls ≠ "java/lang/invoke/VarHandle" ∧ (parseMethodDescriptor yX5_requireDay.desc).map (fun d => d.parameters.length) = some 1 := ⟨rfl, hy_X5_requireDay⟩
set_option maxHeartbeats 8000000 in
set_option maxRecDepth 100000 in
theorem c_X5_requireDay (l : Launch) (hl9 : l.stackTraces = false) (G : va_G) (cI cZ cQ cU cJ : ClassId) (o : Nat) (ad : Nat → Nat) (rf : Nat → Nat) (I : OI) (R : RI) (x1 : Int32) (out : Nat) (hf : f_X5_requireDay I R x1 = some out) : ConX l yX5_requireDay wsX5_requireDay rmX5_requireDay G vwCl (tys cI cZ cQ cU cJ) nws strs [.ref o, .int x1] (pf [xW cI cZ o ad I R rf]) (fun k' r M' => k' = out ∧ r = none ∧ M' = pf [xW cI cZ o ad I R rf]) := by
  refine conX_of (Qf := fun (o9 : Nat) below A args s t9 => QP below G vwCl A args s rmX5_requireDay.cells rmX5_requireDay.slots ((fun (out : Nat) (k' : Nat) (r : Option Value) (M' : va_W) => k' = out ∧ r = none ∧ M' = pf [xW cI cZ o ad I R rf]) o9) t9) (maxL := 2) (own := RX5) hl9 rfl (by decide +kernel) rfl (Nat.le_of_ble_eq_true rfl) (fun _ _ _ _ _ h9 => h9) ?_ hf
  intro p e s m args below meth c A CX hret hE
  have C := CX.1
  unfold f_X5_requireDay
  refine VJ.iload_n C 1 dX5_requireDay_0 rfl ?_
  refine VJ.iconst (v := 0) C dX5_requireDay_1 (by decide) ?_
  refine VJ.aload_n C 0 dX5_requireDay_2 rfl ?_
  refine VJ.get (C0 := RX5) (T := TX5) (N := 11) (ci := 5) C in_X5_requireDay_X5 0 rfl rfl 8 (Nat.le_of_ble_eq_true rfl) (C.1.2.2.2.2 _ (List.mem_of_getElem? (i := 1) rfl)) (fun _ h9 => h9) (v := .int (I 0)) rfl dX5_requireDay_3 ?_
  refine VJ.reqS (T := (fun k9 => k9)) (P := fun k9 => (fun (out : Nat) (k' : Nat) (r : Option Value) (M' : va_W) => k' = out ∧ r = none ∧ M' = pf [xW cI cZ o ad I R rf]) k9) CX [.int x1, .int 0, .int (I 0)] (pf []) (pf [xW cI cZ o ad I R rf]) 1 6 rmX5_requireDay.cells rmX5_requireDay.slots hE (fun _ h9 => c_X5_requireWithin l hl9 G cI cZ cQ cU cJ x1 0 (I 0) _ h9) (vj_pn _) (va_cwS 3 C.1.2.2.2.2 gX5_requireDay_X5_requireWithin rfl rfl rfl hy_X5_requireWithin ⟨Nat.le_of_ble_eq_true rfl, Nat.le_of_ble_eq_true rfl⟩) rfl rfl (Nat.le_of_ble_eq_true rfl) dX5_requireDay_6 ⟨Nat.le_of_ble_eq_true rfl, Nat.le_of_ble_eq_true rfl⟩ ⟨rfl, rfl⟩ ⟨Nat.le_of_ble_eq_true rfl, Nat.le_of_ble_eq_true rfl⟩ (fun _ _ h9 => h9) (fun _ => ⟨rfl, rfl, rfl⟩) ?_
  exact VJ.vretP C rmX5_requireDay.cells rmX5_requireDay.slots (fun _ h9 => h9) ⟨rfl, rfl, rfl⟩ hret (Nat.le_of_ble_eq_true rfl) (Nat.le_of_ble_eq_true rfl) dX5_requireDay_9

def f_X5_requireActLeft (I : OI) (R : RI) (ta : Int32) (ea : Option Nat) (wa : OO) : Option Nat :=
  if ta < 150 then (some 0) else (some 3)
abbrev rmX5_requireActLeft : Room := { frames := 6, cells := 1, slots := 6, locals := 90 }
theorem in_X5_requireActLeft_X1 : ∀ w ∈ u_ws RX1 TX1 3, w ∈ wsX5_requireActLeft := in_of 15 rfl
theorem in_X5_requireActLeft_X5 : ∀ w ∈ u_ws RX5 TX5 11, w ∈ wsX5_requireActLeft := in_of 4 rfl
theorem hy_X5_requireActLeft : yX5_requireActLeft.cls ≠ "java/lang/invoke/MethodHandle" ∧ yX5_requireActLeft.cls ≠ "java/lang/invoke/VarHandle" ∧ (parseMethodDescriptor yX5_requireActLeft.desc).map (fun d => d.parameters.length) = some 0 := by decide +kernel
theorem hyV_X5_requireActLeft : yX5_requireActLeft.cls = RX5 ∧ yX5_requireActLeft.cls ≠ "java/lang/invoke/MethodHandle" ∧ yX5_requireActLeft.cls ≠ "java/lang/invoke/VarHandle" ∧ (parseMethodDescriptor yX5_requireActLeft.desc).map (fun d => d.parameters.length) = some 0 := ⟨rfl, hy_X5_requireActLeft⟩
set_option maxHeartbeats 8000000 in
set_option maxRecDepth 100000 in
theorem c_X5_requireActLeft (l : Launch) (hl9 : l.stackTraces = false) (G : va_G) (cI cZ cQ cU cJ : ClassId) (o : Nat) (ad : Nat → Nat) (rf : Nat → Nat) (I : OI) (R : RI) (ra : Nat) (ta : Int32) (ea : Option Nat) (wa : OO) (out : Nat) (hf : f_X5_requireActLeft I R ta ea wa = some out) : ConX l yX5_requireActLeft wsX5_requireActLeft rmX5_requireActLeft G vwCl (tys cI cZ cQ cU cJ) nws strs [.ref o] (pf [xW cI cZ o ad I R rf, aW cQ (rf 0) ra ta ea wa]) (fun k' r M' => k' = out ∧ r = none ∧ M' = pf [xW cI cZ o ad I R rf, aW cQ (rf 0) ra ta ea wa]) := by
  refine conX_of (Qf := fun (o9 : Nat) below A args s t9 => QP below G vwCl A args s rmX5_requireActLeft.cells rmX5_requireActLeft.slots ((fun (out : Nat) (k' : Nat) (r : Option Value) (M' : va_W) => k' = out ∧ r = none ∧ M' = pf [xW cI cZ o ad I R rf, aW cQ (rf 0) ra ta ea wa]) o9) t9) (maxL := 1) (own := RX5) hl9 rfl (by decide +kernel) rfl (Nat.le_of_ble_eq_true rfl) (fun _ _ _ _ _ h9 => h9) ?_ hf
  intro p e s m args below meth c A CX hret hE
  have C := CX.1
  unfold f_X5_requireActLeft
  refine VJ.aload_n C 0 dX5_requireActLeft_0 rfl ?_
  refine VJ.get (C0 := RX5) (T := TX5) (N := 11) (ci := 5) C in_X5_requireActLeft_X5 0 rfl rfl 0 (Nat.le_of_ble_eq_true rfl) (C.1.2.2.2.2 _ (List.mem_of_getElem? (i := 3) rfl)) (fun _ h9 => h9) (v := .ref (rf 0)) rfl dX5_requireActLeft_1 ?_
  refine VJ.getN (C0 := RX1) (T := TX1) (N := 3) (ci := 1) C in_X5_requireActLeft_X1 3 rfl rfl 1 (Nat.le_of_ble_eq_true rfl) (C.nest (List.mem_of_getElem? (i := 1) rfl) rfl) (fun _ h9 => h9) (v := .int ta) rfl dX5_requireActLeft_4 ?_
  refine VJ.sipush (v := 150) C dX5_requireActLeft_7 (by decide) ?_
  refine VJ.icmp_lt C 24 dX5_requireActLeft_10 (by decide) (fun _ => ?_) (fun _ => ?_)
  · exact VJ.vretP C rmX5_requireActLeft.cells rmX5_requireActLeft.slots (fun _ h9 => h9) ⟨rfl, rfl, rfl⟩ hret (Nat.le_of_ble_eq_true rfl) (Nat.le_of_ble_eq_true rfl) dX5_requireActLeft_24
  · exact VJ.throwSW CX 2 rmX5_requireActLeft.cells rmX5_requireActLeft.slots (text := "there is no ACT left") hE (fun _ h9 => h9) ⟨rfl, rfl, rfl⟩ xf2 (C.1.2.2.2.2 _ (List.mem_of_getElem? (i := 1) rfl)) (C.1.2.2.2.2 _ (List.mem_of_getElem? (i := 2) rfl)) (List.mem_of_getElem? (i := 15) rfl) (vj_hat C (fun w h9 => List.mem_cons_of_mem _ (List.mem_append_right _ h9)) xh2 xi2) xg2 dX5_requireActLeft_13 dX5_requireActLeft_16 dX5_requireActLeft_17 dX5_requireActLeft_20 dX5_requireActLeft_23 (Nat.le_of_ble_eq_true rfl) (Nat.le_of_ble_eq_true rfl) (Nat.le_of_ble_eq_true rfl) (Nat.le_of_ble_eq_true rfl) (Nat.le_of_ble_eq_true rfl) (Nat.le_of_ble_eq_true rfl)

def f_X5_requireNumberLeft (I : OI) (R : RI) (In : OI) (Rn : RI) : Option Nat :=
  if (In 0) < 60 then (some 0) else (some 3)
abbrev rmX5_requireNumberLeft : Room := { frames := 6, cells := 1, slots := 6, locals := 90 }
theorem in_X5_requireNumberLeft_X3 : ∀ w ∈ u_ws RX3 TX3 4, w ∈ wsX5_requireNumberLeft := in_of 15 rfl
theorem in_X5_requireNumberLeft_X5 : ∀ w ∈ u_ws RX5 TX5 11, w ∈ wsX5_requireNumberLeft := in_of 4 rfl
theorem hy_X5_requireNumberLeft : yX5_requireNumberLeft.cls ≠ "java/lang/invoke/MethodHandle" ∧ yX5_requireNumberLeft.cls ≠ "java/lang/invoke/VarHandle" ∧ (parseMethodDescriptor yX5_requireNumberLeft.desc).map (fun d => d.parameters.length) = some 0 := by decide +kernel
theorem hyV_X5_requireNumberLeft : yX5_requireNumberLeft.cls = RX5 ∧ yX5_requireNumberLeft.cls ≠ "java/lang/invoke/MethodHandle" ∧ yX5_requireNumberLeft.cls ≠ "java/lang/invoke/VarHandle" ∧ (parseMethodDescriptor yX5_requireNumberLeft.desc).map (fun d => d.parameters.length) = some 0 := ⟨rfl, hy_X5_requireNumberLeft⟩
set_option maxHeartbeats 8000000 in
set_option maxRecDepth 100000 in
theorem c_X5_requireNumberLeft (l : Launch) (hl9 : l.stackTraces = false) (G : va_G) (cI cZ cQ cU cJ : ClassId) (o : Nat) (ad : Nat → Nat) (rf : Nat → Nat) (I : OI) (R : RI) (adn : Nat → Nat) (In : OI) (Rn : RI) (out : Nat) (hf : f_X5_requireNumberLeft I R In Rn = some out) : ConX l yX5_requireNumberLeft wsX5_requireNumberLeft rmX5_requireNumberLeft G vwCl (tys cI cZ cQ cU cJ) nws strs [.ref o] (pf [xW cI cZ o ad I R rf, nW cI cZ (rf 4) adn In Rn]) (fun k' r M' => k' = out ∧ r = none ∧ M' = pf [xW cI cZ o ad I R rf, nW cI cZ (rf 4) adn In Rn]) := by
  refine conX_of (Qf := fun (o9 : Nat) below A args s t9 => QP below G vwCl A args s rmX5_requireNumberLeft.cells rmX5_requireNumberLeft.slots ((fun (out : Nat) (k' : Nat) (r : Option Value) (M' : va_W) => k' = out ∧ r = none ∧ M' = pf [xW cI cZ o ad I R rf, nW cI cZ (rf 4) adn In Rn]) o9) t9) (maxL := 1) (own := RX5) hl9 rfl (by decide +kernel) rfl (Nat.le_of_ble_eq_true rfl) (fun _ _ _ _ _ h9 => h9) ?_ hf
  intro p e s m args below meth c A CX hret hE
  have C := CX.1
  unfold f_X5_requireNumberLeft
  refine VJ.aload_n C 0 dX5_requireNumberLeft_0 rfl ?_
  refine VJ.get (C0 := RX5) (T := TX5) (N := 11) (ci := 5) C in_X5_requireNumberLeft_X5 0 rfl rfl 4 (Nat.le_of_ble_eq_true rfl) (C.1.2.2.2.2 _ (List.mem_of_getElem? (i := 3) rfl)) (fun _ h9 => h9) (v := .ref (rf 4)) rfl dX5_requireNumberLeft_1 ?_
  refine VJ.getN (C0 := RX3) (T := TX3) (N := 4) (ci := 3) C in_X5_requireNumberLeft_X3 3 rfl rfl 2 (Nat.le_of_ble_eq_true rfl) (C.nest (List.mem_of_getElem? (i := 3) rfl) rfl) (fun _ h9 => h9) (v := .int (In 0)) rfl dX5_requireNumberLeft_4 ?_
  refine VJ.bipush (v := 60) C dX5_requireNumberLeft_7 (by decide) ?_
  refine VJ.icmp_lt C 23 dX5_requireNumberLeft_9 (by decide) (fun _ => ?_) (fun _ => ?_)
  · exact VJ.vretP C rmX5_requireNumberLeft.cells rmX5_requireNumberLeft.slots (fun _ h9 => h9) ⟨rfl, rfl, rfl⟩ hret (Nat.le_of_ble_eq_true rfl) (Nat.le_of_ble_eq_true rfl) dX5_requireNumberLeft_23
  · exact VJ.throwSW CX 2 rmX5_requireNumberLeft.cells rmX5_requireNumberLeft.slots (text := "there is no number left") hE (fun _ h9 => h9) ⟨rfl, rfl, rfl⟩ xf2 (C.1.2.2.2.2 _ (List.mem_of_getElem? (i := 1) rfl)) (C.1.2.2.2.2 _ (List.mem_of_getElem? (i := 2) rfl)) (List.mem_of_getElem? (i := 16) rfl) (vj_hat C (fun w h9 => List.mem_cons_of_mem _ (List.mem_append_right _ h9)) xh2 xi2) xg2 dX5_requireNumberLeft_12 dX5_requireNumberLeft_15 dX5_requireNumberLeft_16 dX5_requireNumberLeft_19 dX5_requireNumberLeft_22 (Nat.le_of_ble_eq_true rfl) (Nat.le_of_ble_eq_true rfl) (Nat.le_of_ble_eq_true rfl) (Nat.le_of_ble_eq_true rfl) (Nat.le_of_ble_eq_true rfl) (Nat.le_of_ble_eq_true rfl)

def f_X5_requireAct (I : OI) (R : RI) (ta : Int32) (ea : Option Nat) (wa : OO) (x1 : Int32) : Option (Nat × Nat) :=
  ob1 (f_X1_find ta ea wa x1) (fun r1 => oc r1 (some (1, 0)) (fun a2 => some (0, a2)))
abbrev rmX5_requireAct : Room := { frames := 6, cells := 1, slots := 6, locals := 90 }
theorem in_X5_requireAct_X5 : ∀ w ∈ u_ws RX5 TX5 11, w ∈ wsX5_requireAct := in_of 9 rfl
theorem hy_X5_requireAct : yX5_requireAct.cls ≠ "java/lang/invoke/MethodHandle" ∧ yX5_requireAct.cls ≠ "java/lang/invoke/VarHandle" ∧ (parseMethodDescriptor yX5_requireAct.desc).map (fun d => d.parameters.length) = some 1 := by decide +kernel
theorem hyV_X5_requireAct : yX5_requireAct.cls = RX5 ∧ yX5_requireAct.cls ≠ "java/lang/invoke/MethodHandle" ∧ yX5_requireAct.cls ≠ "java/lang/invoke/VarHandle" ∧ (parseMethodDescriptor yX5_requireAct.desc).map (fun d => d.parameters.length) = some 1 := ⟨rfl, hy_X5_requireAct⟩
set_option maxHeartbeats 8000000 in
set_option maxRecDepth 100000 in
theorem c_X5_requireAct (l : Launch) (hl9 : l.stackTraces = false) (G : va_G) (cI cZ cQ cU cJ : ClassId) (o : Nat) (ad : Nat → Nat) (rf : Nat → Nat) (I : OI) (R : RI) (ra : Nat) (ta : Int32) (ea : Option Nat) (wa : OO) (x1 : Int32) (out : Nat × Nat) (hf : f_X5_requireAct I R ta ea wa x1 = some out) : ConX l yX5_requireAct wsX5_requireAct rmX5_requireAct G vwCl (tys cI cZ cQ cU cJ) nws strs [.ref o, .int x1] (pf [xW cI cZ o ad I R rf, aW cQ (rf 0) ra ta ea wa]) (fun k' r M' => k' = out.1 ∧ r = some (.ref out.2) ∧ M' = pf [xW cI cZ o ad I R rf, aW cQ (rf 0) ra ta ea wa]) := by
  refine conX_of (Qf := fun (o9 : Nat × Nat) below A args s t9 => QP below G vwCl A args s rmX5_requireAct.cells rmX5_requireAct.slots ((fun (out : Nat × Nat) (k' : Nat) (r : Option Value) (M' : va_W) => k' = out.1 ∧ r = some (.ref out.2) ∧ M' = pf [xW cI cZ o ad I R rf, aW cQ (rf 0) ra ta ea wa]) o9) t9) (maxL := 3) (own := RX5) hl9 rfl (by decide +kernel) rfl (Nat.le_of_ble_eq_true rfl) (fun _ _ _ _ _ h9 => h9) ?_ hf
  intro p e s m args below meth c A CX hret hE
  have C := CX.1
  unfold f_X5_requireAct
  refine VJ.aload_n C 0 dX5_requireAct_0 rfl ?_
  refine VJ.get (C0 := RX5) (T := TX5) (N := 11) (ci := 5) C in_X5_requireAct_X5 0 rfl rfl 0 (Nat.le_of_ble_eq_true rfl) (C.1.2.2.2.2 _ (List.mem_of_getElem? (i := 3) rfl)) (fun _ h9 => h9) (v := .ref (rf 0)) rfl dX5_requireAct_1 ?_
  refine VJ.iload_n C 1 dX5_requireAct_4 rfl ?_
  refine VJ.callVN1 C [.int x1] (pf [aW cQ (rf 0) ra ta ea wa]) (pf [xW cI cZ o ad I R rf]) (fun r1 => some (va_rf r1)) (fun r1 => pf [aW cQ (rf 0) ra ta ea wa]) (fun r1 => pf [xW cI cZ o ad I R rf, aW cQ (rf 0) ra ta ea wa]) (fun r1 => [va_rf r1]) 0 0 (fun _ h9 => c_X1_find l G cI cZ cQ cU cJ (rf 0) ra ta ea wa x1 _ h9) (vj_pf 2 [1, 0] rfl rfl dp_1_0) (fun _ => (vj_pf 2 [1, 0] rfl rfl dp_1_0).symm) 0 rfl rfl (⟨va_cnB 1 C.1.2.2.2.2 gX5_requireAct_X1_find_n251 rfl rfl rfl (C.nestM (List.mem_of_getElem? (i := 44) rfl)) (C.1.2.2.2.2 _ (List.mem_of_getElem? (i := 5) rfl)) hy_X1_find ⟨Nat.le_of_ble_eq_true rfl, Nat.le_of_ble_eq_true rfl⟩, (C.1.2.2.2.2 _ (List.mem_of_getElem? (i := 4) rfl)), (C.1.2.2.2.2 _ (List.mem_of_getElem? (i := 6) rfl))⟩) rfl rfl (fun _ => rfl) (Nat.le_of_ble_eq_true rfl) dX5_requireAct_5 ⟨Nat.le_of_ble_eq_true rfl, Nat.le_of_ble_eq_true rfl⟩ ⟨rfl, rfl⟩ (fun r1 => ?_)
  refine VJ.astore_nq C [(2, va_rf r1), (0, .ref o), (1, .int x1)] dX5_requireAct_8 (Nat.le_of_ble_eq_true rfl) rfl ?_
  refine VJ.aload_nq C 0 dX5_requireAct_9 rfl ?_
  refine VJ.ifnonnull C 23 dX5_requireAct_10 (by decide) (fun e9 => ?_) (fun a2 e9 => ?_)
  · subst e9
    exact VJ.throwS CX 0 rmX5_requireAct.cells rmX5_requireAct.slots (text := "no such ACT") hE (fun _ h9 => h9) ⟨rfl, rfl, rfl⟩ xf0 (C.1.2.2.2.2 _ (List.mem_of_getElem? (i := 1) rfl)) (C.1.2.2.2.2 _ (List.mem_of_getElem? (i := 2) rfl)) (List.mem_of_getElem? (i := 11) rfl) (vj_hat C (fun w h9 => List.mem_cons_of_mem _ (List.mem_append_right _ h9)) xh0 xi0) xg0 dX5_requireAct_13 dX5_requireAct_16 dX5_requireAct_17 dX5_requireAct_19 dX5_requireAct_22 (Nat.le_of_ble_eq_true rfl) (Nat.le_of_ble_eq_true rfl) (Nat.le_of_ble_eq_true rfl) (Nat.le_of_ble_eq_true rfl) (Nat.le_of_ble_eq_true rfl) (Nat.le_of_ble_eq_true rfl)
  · subst e9
    refine VJ.aload_n C 0 dX5_requireAct_23 rfl ?_
    exact VJ.aretP C rmX5_requireAct.cells rmX5_requireAct.slots (fun _ h9 => h9) ⟨rfl, rfl, rfl⟩ hret (Nat.le_of_ble_eq_true rfl) (Nat.le_of_ble_eq_true rfl) dX5_requireAct_24

