
theorem dp_0_1_2_3 : ([0, 1, 2, 3] : List Nat).Perm (List.range 4) := by decide +kernel
theorem dp_0_1_2_3_4 : ([0, 1, 2, 3, 4] : List Nat).Perm (List.range 5) := by decide +kernel
theorem dp_1_2_0 : ([1, 2, 0] : List Nat).Perm (List.range 3) := by decide +kernel
theorem dp_2_0_1_3 : ([2, 0, 1, 3] : List Nat).Perm (List.range 4) := by decide +kernel
theorem dp_2_1_4_0_3 : ([2, 1, 4, 0, 3] : List Nat).Perm (List.range 5) := by decide +kernel
theorem dp_2_3_0_1_4 : ([2, 3, 0, 1, 4] : List Nat).Perm (List.range 5) := by decide +kernel
theorem dp_3_1_4_0_2 : ([3, 1, 4, 0, 2] : List Nat).Perm (List.range 5) := by decide +kernel

def f_X5_pass (N : Nat) (AL : List Nat) (R : RI) (AI : Nat → OI) (AR : Nat → OO) (I : OI) (Ik : OI) (Rk : RI) (cmk : Option Nat) (x1 : Int32) : Option (Nat × Int32 × OI × OI × RI × Option Nat) :=
  obc (f_X5_requireWithin x1 1 5000) (fun k9 => (k9, 0, I, Ik, Rk, cmk)) (if ((I 0) + x1) ≤ 30000 then (ol (va_up I 0 ((I 0) + x1)) (fun I1 => ob3 (f_X2_goOn N AL AI AR Ik Rk cmk (I1 0)) (fun Ik2 Rk3 cmk4 => some (0, I1 0, I1, Ik2, Rk3, cmk4)))) else (some (3, 0, I, Ik, Rk, cmk)))
abbrev rmX5_pass : Room := { frames := 7, cells := 2, slots := 12, locals := 112 }
theorem in_X5_pass_X5 : ∀ w ∈ u_ws RX5 TX5 11, w ∈ wsX5_pass := in_of 71 rfl
theorem hy_X5_pass : yX5_pass.cls ≠ "java/lang/invoke/MethodHandle" ∧ yX5_pass.cls ≠ "java/lang/invoke/VarHandle" ∧ (parseMethodDescriptor yX5_pass.desc).map (fun d => d.parameters.length) = some 1 := by decide +kernel
theorem hyV_X5_pass : yX5_pass.cls = RX5 ∧ yX5_pass.cls ≠ "java/lang/invoke/MethodHandle" ∧ yX5_pass.cls ≠ "java/lang/invoke/VarHandle" ∧ (parseMethodDescriptor yX5_pass.desc).map (fun d => d.parameters.length) = some 1 := ⟨rfl, hy_X5_pass⟩
set_option maxHeartbeats 8000000 in
set_option maxRecDepth 100000 in
theorem c_X5_pass (l : Launch) (hl9 : l.stackTraces = false) (G : va_G) (cI cZ cQ cU cJ : ClassId) (N : Nat) (o : Nat) (ad : Nat → Nat) (rf : Nat → Nat) (I : OI) (R : RI) (adk : Nat → Nat) (Ik : OI) (Rk : RI) (cmk : Option Nat) (AL : List Nat) (AI : Nat → OI) (AR : Nat → OO) (x1 : Int32) (out : Nat × Int32 × OI × OI × RI × Option Nat) (hf : f_X5_pass N AL R AI AR I Ik Rk cmk x1 = some out) : ConX l yX5_pass wsX5_pass rmX5_pass G vwCl (tys cI cZ cQ cU cJ) nws strs [.ref o, .int x1] (pf [xW cI cZ o ad I R rf, lW cI cZ (rf 1) adk Ik Rk cmk, pW AL AI AR]) (fun k' r M' => k' = out.1 ∧ (k' = 0 → r = some (.int out.2.1)) ∧ M' = pf [xW cI cZ o ad out.2.2.1 R rf, lW cI cZ (rf 1) adk out.2.2.2.1 out.2.2.2.2.1 out.2.2.2.2.2, pW AL AI AR]) := by
  refine conX_of (Qf := fun (o9 : Nat × Int32 × OI × OI × RI × Option Nat) below A args s t9 => QP below G vwCl A args s rmX5_pass.cells rmX5_pass.slots ((fun (out : Nat × Int32 × OI × OI × RI × Option Nat) (k' : Nat) (r : Option Value) (M' : va_W) => k' = out.1 ∧ (k' = 0 → r = some (.int out.2.1)) ∧ M' = pf [xW cI cZ o ad out.2.2.1 R rf, lW cI cZ (rf 1) adk out.2.2.2.1 out.2.2.2.2.1 out.2.2.2.2.2, pW AL AI AR]) o9) t9) (maxL := 2) (own := RX5) hl9 rfl (by decide +kernel) rfl (Nat.le_of_ble_eq_true rfl) (fun _ _ _ _ _ h9 => h9) ?_ hf
  intro p e s m args below meth c A CX hret hE
  have C := CX.1
  unfold f_X5_pass
  refine VJ.iload_n C 1 dX5_pass_0 rfl ?_
  refine VJ.iconst (v := 1) C dX5_pass_1 (by decide) ?_
  refine VJ.sipush (v := 5000) C dX5_pass_2 (by decide) ?_
  refine VJ.reqS (T := (fun k9 => (k9, 0, I, Ik, Rk, cmk))) (P := fun k9 => (fun (out : Nat × Int32 × OI × OI × RI × Option Nat) (k' : Nat) (r : Option Value) (M' : va_W) => k' = out.1 ∧ (k' = 0 → r = some (.int out.2.1)) ∧ M' = pf [xW cI cZ o ad out.2.2.1 R rf, lW cI cZ (rf 1) adk out.2.2.2.1 out.2.2.2.2.1 out.2.2.2.2.2, pW AL AI AR]) (k9, 0, I, Ik, Rk, cmk)) CX [.int x1, .int 1, .int 5000] (pf []) (pf [xW cI cZ o ad I R rf, lW cI cZ (rf 1) adk Ik Rk cmk, pW AL AI AR]) 1 6 rmX5_pass.cells rmX5_pass.slots hE (fun _ h9 => c_X5_requireWithin l hl9 G cI cZ cQ cU cJ x1 1 5000 _ h9) (vj_pn _) (va_cwS 3 C.1.2.2.2.2 gX5_pass_X5_requireWithin rfl rfl rfl hy_X5_requireWithin ⟨Nat.le_of_ble_eq_true rfl, Nat.le_of_ble_eq_true rfl⟩) rfl rfl (Nat.le_of_ble_eq_true rfl) dX5_pass_5 ⟨Nat.le_of_ble_eq_true rfl, Nat.le_of_ble_eq_true rfl⟩ ⟨rfl, rfl⟩ ⟨Nat.le_of_ble_eq_true rfl, Nat.le_of_ble_eq_true rfl⟩ (fun _ _ h9 => h9) (fun _ => ⟨rfl, fun h9 => absurd h9 (Nat.succ_ne_zero _), rfl⟩) ?_
  refine VJ.aload_n C 0 dX5_pass_8 rfl ?_
  refine VJ.get (C0 := RX5) (T := TX5) (N := 11) (ci := 5) C in_X5_pass_X5 0 rfl rfl 8 (Nat.le_of_ble_eq_true rfl) (C.1.2.2.2.2 _ (List.mem_of_getElem? (i := 3) rfl)) (fun _ h9 => h9) (v := .int (I 0)) rfl dX5_pass_9 ?_
  refine VJ.iload_n C 1 dX5_pass_12 rfl ?_
  refine VJ.iadd C dX5_pass_13 ?_
  refine VJ.sipush (v := 30000) C dX5_pass_14 (by decide) ?_
  refine VJ.icmp_le C 30 dX5_pass_17 (by decide) (fun _ => ?_) (fun _ => ?_)
  · refine VJ.aload_n C 0 dX5_pass_30 rfl ?_
    refine VJ.dup C dX5_pass_31 rfl ?_
    refine VJ.get (C0 := RX5) (T := TX5) (N := 11) (ci := 5) C in_X5_pass_X5 0 rfl rfl 8 (Nat.le_of_ble_eq_true rfl) (C.1.2.2.2.2 _ (List.mem_of_getElem? (i := 3) rfl)) (fun _ h9 => h9) (v := .int (I 0)) rfl dX5_pass_32 ?_
    refine VJ.iload_n C 1 dX5_pass_35 rfl ?_
    refine VJ.iadd C dX5_pass_36 ?_
    refine VJ.putI (C0 := RX5) (T := TX5) (N := 11) (ci := 5) C in_X5_pass_X5 0 rfl rfl 8 (Nat.le_of_ble_eq_true rfl) (C.1.2.2.2.2 _ (List.mem_of_getElem? (i := 3) rfl)) (fun _ h9 => h9) (Ii := I) (jj := 0) (fun I1 => pf [xW cI cZ o ad I1 R rf, lW cI cZ (rf 1) adk Ik Rk cmk, pW AL AI AR]) tyX5 tyX5_ok nmX5 rfl rfl (Nat.le_of_ble_eq_true rfl) (fun _ => rfl) dX5_pass_37 (fun I1 => ?_)
    refine VJ.aload_n C 0 dX5_pass_40 rfl ?_
    refine VJ.get (C0 := RX5) (T := TX5) (N := 11) (ci := 5) C in_X5_pass_X5 0 rfl rfl 1 (Nat.le_of_ble_eq_true rfl) (C.1.2.2.2.2 _ (List.mem_of_getElem? (i := 4) rfl)) (fun _ h9 => h9) (v := .ref (rf 1)) rfl dX5_pass_41 ?_
    refine VJ.aload_n C 0 dX5_pass_44 rfl ?_
    refine VJ.get (C0 := RX5) (T := TX5) (N := 11) (ci := 5) C in_X5_pass_X5 0 rfl rfl 8 (Nat.le_of_ble_eq_true rfl) (C.1.2.2.2.2 _ (List.mem_of_getElem? (i := 3) rfl)) (fun _ h9 => h9) (v := .int (I1 0)) rfl dX5_pass_45 ?_
    refine VJ.callVN3 C [.int (I1 0)] (pf [lW cI cZ (rf 1) adk Ik Rk cmk, pW AL AI AR]) (pf [xW cI cZ o ad I1 R rf]) (fun Ik2 Rk3 cmk4 => none) (fun Ik2 Rk3 cmk4 => pf [lW cI cZ (rf 1) adk Ik2 Rk3 cmk4, pW AL AI AR]) (fun Ik2 Rk3 cmk4 => pf [xW cI cZ o ad I1 R rf, lW cI cZ (rf 1) adk Ik2 Rk3 cmk4, pW AL AI AR]) (fun Ik2 Rk3 cmk4 => []) 1 6 (fun _ h9 => c_X2_goOn l G cI cZ cQ cU cJ N (rf 1) adk Ik Rk cmk AL AI AR (I1 0) _ h9) (vj_pf 3 [1, 2, 0] rfl rfl dp_1_2_0) (fun _ _ _ => (vj_pf 3 [1, 2, 0] rfl rfl dp_1_2_0).symm) 0 rfl rfl (⟨va_cnB 1 C.1.2.2.2.2 gX5_pass_X2_goOn_n69 rfl rfl rfl (C.nestM (List.mem_of_getElem? (i := 37) rfl)) (C.1.2.2.2.2 _ (List.mem_of_getElem? (i := 12) rfl)) hy_X2_goOn ⟨Nat.le_of_ble_eq_true rfl, Nat.le_of_ble_eq_true rfl⟩, (C.1.2.2.2.2 _ (List.mem_of_getElem? (i := 11) rfl)), (C.1.2.2.2.2 _ (List.mem_of_getElem? (i := 13) rfl))⟩) rfl rfl (fun _ _ _ => rfl) (Nat.le_of_ble_eq_true rfl) dX5_pass_48 ⟨Nat.le_of_ble_eq_true rfl, Nat.le_of_ble_eq_true rfl⟩ ⟨rfl, rfl⟩ (fun Ik2 Rk3 cmk4 => ?_)
    refine VJ.aload_n C 0 dX5_pass_51 rfl ?_
    refine VJ.get (C0 := RX5) (T := TX5) (N := 11) (ci := 5) C in_X5_pass_X5 0 rfl rfl 8 (Nat.le_of_ble_eq_true rfl) (C.1.2.2.2.2 _ (List.mem_of_getElem? (i := 3) rfl)) (fun _ h9 => h9) (v := .int (I1 0)) rfl dX5_pass_52 ?_
    exact VJ.iretP C rmX5_pass.cells rmX5_pass.slots (fun _ h9 => h9) ⟨rfl, fun _ => rfl, rfl⟩ hret (Nat.le_of_ble_eq_true rfl) (Nat.le_of_ble_eq_true rfl) dX5_pass_55
  · exact VJ.throwS (r := none) CX 2 rmX5_pass.cells rmX5_pass.slots (text := "the day would be above the last one") hE (fun _ h9 => h9) ⟨rfl, fun h9 => absurd h9 (Nat.succ_ne_zero _), rfl⟩ xf2 (C.1.2.2.2.2 _ (List.mem_of_getElem? (i := 1) rfl)) (C.1.2.2.2.2 _ (List.mem_of_getElem? (i := 2) rfl)) (List.mem_of_getElem? (i := 0) rfl) (vj_hat C (fun w h9 => List.mem_cons_of_mem _ (List.mem_append_left _ (List.mem_append_right _ h9))) xh2 xi2) xg2 dX5_pass_20 dX5_pass_23 dX5_pass_24 dX5_pass_26 dX5_pass_29 (Nat.le_of_ble_eq_true rfl) (Nat.le_of_ble_eq_true rfl) (Nat.le_of_ble_eq_true rfl) (Nat.le_of_ble_eq_true rfl) (Nat.le_of_ble_eq_true rfl) (Nat.le_of_ble_eq_true rfl)

def f_X5_actOf (AL : List Nat) (I : OI) (R : RI) (ta : Int32) (ea : Option Nat) (wa : OO) (AI : Nat → OI) (AR : Nat → OO) (x1 : Int32) (x2 : Int32) : Option (Nat × Int32) :=
  obr (f_X5_requireAct I R ta ea wa x1) (fun k9 => (k9, 0)) (fun a1 => obc (f_X5_requireWithin x2 0 4) (fun k9 => (k9, 0)) (if x2 = 0 then (om a1 AL (some (0, AI a1 0))) else (if x2 = 1 then (om a1 AL (some (0, AI a1 1))) else (if x2 = 2 then (om a1 AL (some (0, AI a1 2))) else (if x2 = 3 then (om a1 AL (some (0, AI a1 3))) else (om a1 AL (oc (AR a1 0) (some (0, (-1))) (fun a7 => om a1 AL (oq (AR a1 0) (fun a9 => om a9 AL (some (0, AI a9 7))))))))))))
abbrev rmX5_actOf : Room := { frames := 7, cells := 2, slots := 12, locals := 112 }
theorem in_X5_actOf_X0 : ∀ w ∈ u_ws RX0 TX0 10, w ∈ wsX5_actOf := in_of 19 rfl
theorem hy_X5_actOf : yX5_actOf.cls ≠ "java/lang/invoke/MethodHandle" ∧ yX5_actOf.cls ≠ "java/lang/invoke/VarHandle" ∧ (parseMethodDescriptor yX5_actOf.desc).map (fun d => d.parameters.length) = some 2 := by decide +kernel
theorem hyV_X5_actOf : yX5_actOf.cls = RX5 ∧ yX5_actOf.cls ≠ "java/lang/invoke/MethodHandle" ∧ yX5_actOf.cls ≠ "java/lang/invoke/VarHandle" ∧ (parseMethodDescriptor yX5_actOf.desc).map (fun d => d.parameters.length) = some 2 := ⟨rfl, hy_X5_actOf⟩
set_option maxHeartbeats 8000000 in
set_option maxRecDepth 100000 in
theorem c_X5_actOf (l : Launch) (hl9 : l.stackTraces = false) (G : va_G) (cI cZ cQ cU cJ : ClassId) (o : Nat) (ad : Nat → Nat) (rf : Nat → Nat) (I : OI) (R : RI) (ra : Nat) (ta : Int32) (ea : Option Nat) (wa : OO) (AL : List Nat) (AI : Nat → OI) (AR : Nat → OO) (x1 : Int32) (x2 : Int32) (out : Nat × Int32) (hf : f_X5_actOf AL I R ta ea wa AI AR x1 x2 = some out) : ConX l yX5_actOf wsX5_actOf rmX5_actOf G vwCl (tys cI cZ cQ cU cJ) nws strs [.ref o, .int x1, .int x2] (pf [xW cI cZ o ad I R rf, aW cQ (rf 0) ra ta ea wa, pW AL AI AR]) (fun k' r M' => k' = out.1 ∧ (k' = 0 → r = some (.int out.2)) ∧ M' = pf [xW cI cZ o ad I R rf, aW cQ (rf 0) ra ta ea wa, pW AL AI AR]) := by
  refine conX_of (Qf := fun (o9 : Nat × Int32) below A args s t9 => QP below G vwCl A args s rmX5_actOf.cells rmX5_actOf.slots ((fun (out : Nat × Int32) (k' : Nat) (r : Option Value) (M' : va_W) => k' = out.1 ∧ (k' = 0 → r = some (.int out.2)) ∧ M' = pf [xW cI cZ o ad I R rf, aW cQ (rf 0) ra ta ea wa, pW AL AI AR]) o9) t9) (maxL := 4) (own := RX5) hl9 rfl (by decide +kernel) rfl (Nat.le_of_ble_eq_true rfl) (fun _ _ _ _ _ h9 => h9) ?_ hf
  intro p e s m args below meth c A CX hret hE
  have C := CX.1
  unfold f_X5_actOf
  refine VJ.aload_n C 0 dX5_actOf_0 rfl ?_
  refine VJ.iload_n C 1 dX5_actOf_1 rfl ?_
  refine VJ.reqR (T := (fun k9 => (k9, 0))) (P := fun k9 => (fun (out : Nat × Int32) (k' : Nat) (r : Option Value) (M' : va_W) => k' = out.1 ∧ (k' = 0 → r = some (.int out.2)) ∧ M' = pf [xW cI cZ o ad I R rf, aW cQ (rf 0) ra ta ea wa, pW AL AI AR]) (k9, 0)) CX [.int x1] (pf [xW cI cZ o ad I R rf, aW cQ (rf 0) ra ta ea wa]) (pf [pW AL AI AR]) 1 6 rmX5_actOf.cells rmX5_actOf.slots hE (fun _ h9 => c_X5_requireAct l hl9 G cI cZ cQ cU cJ o ad rf I R ra ta ea wa x1 _ h9) (vj_pf 3 [0, 1, 2] rfl rfl dp_0_1_2) 0 rfl rfl (cwV 1 C.1.2.2.2.2 gX5_actOf_X5_requireAct rfl rfl rfl hyV_X5_requireAct ⟨Nat.le_of_ble_eq_true rfl, Nat.le_of_ble_eq_true rfl⟩) rfl rfl (Nat.le_of_ble_eq_true rfl) dX5_actOf_2 ⟨Nat.le_of_ble_eq_true rfl, Nat.le_of_ble_eq_true rfl⟩ ⟨rfl, rfl⟩ ⟨Nat.le_of_ble_eq_true rfl, Nat.le_of_ble_eq_true rfl⟩ (fun _ _ h9 => h9) (fun _ => ⟨rfl, fun h9 => absurd h9 (Nat.succ_ne_zero _), rfl⟩) (fun a1 => ?_)
  refine VJ.astore_n C [(3, .ref a1), (0, .ref o), (1, .int x1), (2, .int x2)] dX5_actOf_5 (Nat.le_of_ble_eq_true rfl) rfl ?_
  refine VJ.iload_n C 3 dX5_actOf_6 rfl ?_
  refine VJ.iconst (v := 0) C dX5_actOf_7 (by decide) ?_
  refine VJ.iconst (v := 4) C dX5_actOf_8 (by decide) ?_
  refine VJ.reqS (T := (fun k9 => (k9, 0))) (P := fun k9 => (fun (out : Nat × Int32) (k' : Nat) (r : Option Value) (M' : va_W) => k' = out.1 ∧ (k' = 0 → r = some (.int out.2)) ∧ M' = pf [xW cI cZ o ad I R rf, aW cQ (rf 0) ra ta ea wa, pW AL AI AR]) (k9, 0)) CX [.int x2, .int 0, .int 4] (pf []) (pf [xW cI cZ o ad I R rf, aW cQ (rf 0) ra ta ea wa, pW AL AI AR]) 2 12 rmX5_actOf.cells rmX5_actOf.slots hE (fun _ h9 => c_X5_requireWithin l hl9 G cI cZ cQ cU cJ x2 0 4 _ h9) (vj_pn _) (va_cwS 3 C.1.2.2.2.2 gX5_actOf_X5_requireWithin rfl rfl rfl hy_X5_requireWithin ⟨Nat.le_of_ble_eq_true rfl, Nat.le_of_ble_eq_true rfl⟩) rfl rfl (Nat.le_of_ble_eq_true rfl) dX5_actOf_9 ⟨Nat.le_of_ble_eq_true rfl, Nat.le_of_ble_eq_true rfl⟩ ⟨rfl, rfl⟩ ⟨Nat.le_of_ble_eq_true rfl, Nat.le_of_ble_eq_true rfl⟩ (fun _ _ h9 => h9) (fun _ => ⟨rfl, fun h9 => absurd h9 (Nat.succ_ne_zero _), rfl⟩) ?_
  refine VJ.iload_n C 3 dX5_actOf_12 rfl ?_
  refine VJ.case 0 (fun e9 => ?_) (fun n0 => ?_)
  · refine VJ.tabin C 44 dX5_actOf_13 e9 (by decide) (by decide) rfl (by decide) ?_
    refine VJ.aload_n C 0 dX5_actOf_44 rfl ?_
    refine VJ.rom (fun h9 => ?_)
    obtain ⟨p2, ep2⟩ := pool_at (ps := [xW cI cZ o ad I R rf, aW cQ (rf 0) ra ta ea wa, pW AL AI AR]) (List.mem_of_getElem? (i := 2) rfl) h9
    refine VJ.getN (C0 := RX0) (T := TX0) (N := 10) (ci := 0) C in_X5_actOf_X0 p2 ep2 rfl 0 (Nat.le_of_ble_eq_true rfl) (C.nest (List.mem_of_getElem? (i := 5) rfl) rfl) (fun _ h9 => h9) rfl dX5_actOf_45 ?_
    exact VJ.iretP C rmX5_actOf.cells rmX5_actOf.slots (fun _ h9 => h9) ⟨rfl, fun _ => rfl, rfl⟩ hret (Nat.le_of_ble_eq_true rfl) (Nat.le_of_ble_eq_true rfl) dX5_actOf_48
  refine VJ.case 1 (fun e9 => ?_) (fun n1 => ?_)
  · refine VJ.tabin C 49 dX5_actOf_13 e9 (by decide) (by decide) rfl (by decide) ?_
    refine VJ.aload_n C 0 dX5_actOf_49 rfl ?_
    refine VJ.rom (fun h9 => ?_)
    obtain ⟨p3, ep3⟩ := pool_at (ps := [xW cI cZ o ad I R rf, aW cQ (rf 0) ra ta ea wa, pW AL AI AR]) (List.mem_of_getElem? (i := 2) rfl) h9
    refine VJ.getN (C0 := RX0) (T := TX0) (N := 10) (ci := 0) C in_X5_actOf_X0 p3 ep3 rfl 1 (Nat.le_of_ble_eq_true rfl) (C.nest (List.mem_of_getElem? (i := 6) rfl) rfl) (fun _ h9 => h9) rfl dX5_actOf_50 ?_
    exact VJ.iretP C rmX5_actOf.cells rmX5_actOf.slots (fun _ h9 => h9) ⟨rfl, fun _ => rfl, rfl⟩ hret (Nat.le_of_ble_eq_true rfl) (Nat.le_of_ble_eq_true rfl) dX5_actOf_53
  refine VJ.case 2 (fun e9 => ?_) (fun n2 => ?_)
  · refine VJ.tabin C 54 dX5_actOf_13 e9 (by decide) (by decide) rfl (by decide) ?_
    refine VJ.aload_n C 0 dX5_actOf_54 rfl ?_
    refine VJ.rom (fun h9 => ?_)
    obtain ⟨p4, ep4⟩ := pool_at (ps := [xW cI cZ o ad I R rf, aW cQ (rf 0) ra ta ea wa, pW AL AI AR]) (List.mem_of_getElem? (i := 2) rfl) h9
    refine VJ.getN (C0 := RX0) (T := TX0) (N := 10) (ci := 0) C in_X5_actOf_X0 p4 ep4 rfl 2 (Nat.le_of_ble_eq_true rfl) (C.nest (List.mem_of_getElem? (i := 9) rfl) rfl) (fun _ h9 => h9) rfl dX5_actOf_55 ?_
    exact VJ.iretP C rmX5_actOf.cells rmX5_actOf.slots (fun _ h9 => h9) ⟨rfl, fun _ => rfl, rfl⟩ hret (Nat.le_of_ble_eq_true rfl) (Nat.le_of_ble_eq_true rfl) dX5_actOf_58
  refine VJ.case 3 (fun e9 => ?_) (fun n3 => ?_)
  · refine VJ.tabin C 59 dX5_actOf_13 e9 (by decide) (by decide) rfl (by decide) ?_
    refine VJ.aload_n C 0 dX5_actOf_59 rfl ?_
    refine VJ.rom (fun h9 => ?_)
    obtain ⟨p5, ep5⟩ := pool_at (ps := [xW cI cZ o ad I R rf, aW cQ (rf 0) ra ta ea wa, pW AL AI AR]) (List.mem_of_getElem? (i := 2) rfl) h9
    refine VJ.getN (C0 := RX0) (T := TX0) (N := 10) (ci := 0) C in_X5_actOf_X0 p5 ep5 rfl 3 (Nat.le_of_ble_eq_true rfl) (C.nest (List.mem_of_getElem? (i := 11) rfl) rfl) (fun _ h9 => h9) rfl dX5_actOf_60 ?_
    exact VJ.iretP C rmX5_actOf.cells rmX5_actOf.slots (fun _ h9 => h9) ⟨rfl, fun _ => rfl, rfl⟩ hret (Nat.le_of_ble_eq_true rfl) (Nat.le_of_ble_eq_true rfl) dX5_actOf_63
  refine VJ.tabout C 64 dX5_actOf_13 (vj_out0_4 n0 n1 n2 n3) (by decide) ?_
  refine VJ.aload_n C 0 dX5_actOf_64 rfl ?_
  refine VJ.rom (fun h9 => ?_)
  obtain ⟨p6, ep6⟩ := pool_at (ps := [xW cI cZ o ad I R rf, aW cQ (rf 0) ra ta ea wa, pW AL AI AR]) (List.mem_of_getElem? (i := 2) rfl) h9
  refine VJ.getN (C0 := RX0) (T := TX0) (N := 10) (ci := 0) C in_X5_actOf_X0 p6 ep6 rfl 8 (Nat.le_of_ble_eq_true rfl) (C.nest (List.mem_of_getElem? (i := 19) rfl) rfl) (fun _ h9 => h9) rfl dX5_actOf_65 ?_
  refine VJ.ifnonnull C 75 dX5_actOf_68 (by decide) (fun _ => ?_) (fun a7 _ => ?_)
  · refine VJ.iconst (v := (-1)) C dX5_actOf_71 (by decide) ?_
    refine VJ.goto C 82 dX5_actOf_72 (by decide) ?_
    exact VJ.iretP C rmX5_actOf.cells rmX5_actOf.slots (fun _ h9 => h9) ⟨rfl, fun _ => rfl, rfl⟩ hret (Nat.le_of_ble_eq_true rfl) (Nat.le_of_ble_eq_true rfl) dX5_actOf_82
  · refine VJ.aload_n C 0 dX5_actOf_75 rfl ?_
    refine VJ.rom (fun h9 => ?_)
    obtain ⟨p8, ep8⟩ := pool_at (ps := [xW cI cZ o ad I R rf, aW cQ (rf 0) ra ta ea wa, pW AL AI AR]) (List.mem_of_getElem? (i := 2) rfl) h9
    refine VJ.getN (C0 := RX0) (T := TX0) (N := 10) (ci := 0) C in_X5_actOf_X0 p8 ep8 rfl 8 (Nat.le_of_ble_eq_true rfl) (C.nest (List.mem_of_getElem? (i := 19) rfl) rfl) (fun _ h9 => h9) rfl dX5_actOf_76 ?_
    refine VJ.roq (fun a9 e9 => ?_)
    rw [e9]
    refine VJ.rom (fun h9 => ?_)
    obtain ⟨p10, ep10⟩ := pool_at (ps := [xW cI cZ o ad I R rf, aW cQ (rf 0) ra ta ea wa, pW AL AI AR]) (List.mem_of_getElem? (i := 2) rfl) h9
    refine VJ.getN (C0 := RX0) (T := TX0) (N := 10) (ci := 0) C in_X5_actOf_X0 p10 ep10 rfl 7 (Nat.le_of_ble_eq_true rfl) (C.nest (List.mem_of_getElem? (i := 18) rfl) rfl) (fun _ h9 => h9) rfl dX5_actOf_79 ?_
    exact VJ.iretP C rmX5_actOf.cells rmX5_actOf.slots (fun _ h9 => h9) ⟨rfl, fun _ => rfl, rfl⟩ hret (Nat.le_of_ble_eq_true rfl) (Nat.le_of_ble_eq_true rfl) dX5_actOf_82

def f_X5_asOf (N : Nat) (AL : List Nat) (I : OI) (R : RI) (ta : Int32) (ea : Option Nat) (wa : OO) (AI : Nat → OI) (AR : Nat → OO) (Iq : OI) (Rq : RI) (cmq : Option Nat) (x1 : Int32) (x2 : Int32) (x3 : Int32) (x4 : Int32) : Option (Nat × Int32 × OI × RI × Option Nat) :=
  obc (f_X5_requirePerson I R x1) (fun k9 => (k9, 0, Iq, Rq, cmq)) (obc (f_X5_requireWithin x2 0 6) (fun k9 => (k9, 0, Iq, Rq, cmq)) (obc (f_X5_requireDay I R x3) (fun k9 => (k9, 0, Iq, Rq, cmq)) (obc (f_X5_requireDay I R x4) (fun k9 => (k9, 0, Iq, Rq, cmq)) (ob3 (f_X2_find N AL ta ea wa AI AR Iq Rq cmq x3 x4) (fun Iq1 Rq2 cmq3 => ob2 (f_X2_tellOf N Iq1 cmq3 Rq2 x1 x2) (fun r4 Rq5 => some (0, r4, Iq1, Rq5, cmq3)))))))
abbrev rmX5_asOf : Room := { frames := 8, cells := 4, slots := 24, locals := 133 }
theorem in_X5_asOf_X5 : ∀ w ∈ u_ws RX5 TX5 11, w ∈ wsX5_asOf := in_of 145 rfl
theorem hy_X5_asOf : yX5_asOf.cls ≠ "java/lang/invoke/MethodHandle" ∧ yX5_asOf.cls ≠ "java/lang/invoke/VarHandle" ∧ (parseMethodDescriptor yX5_asOf.desc).map (fun d => d.parameters.length) = some 4 := by decide +kernel
theorem hyV_X5_asOf : yX5_asOf.cls = RX5 ∧ yX5_asOf.cls ≠ "java/lang/invoke/MethodHandle" ∧ yX5_asOf.cls ≠ "java/lang/invoke/VarHandle" ∧ (parseMethodDescriptor yX5_asOf.desc).map (fun d => d.parameters.length) = some 4 := ⟨rfl, hy_X5_asOf⟩
set_option maxHeartbeats 8000000 in
set_option maxRecDepth 100000 in
theorem c_X5_asOf (l : Launch) (hl9 : l.stackTraces = false) (G : va_G) (cI cZ cQ cU cJ : ClassId) (N : Nat) (o : Nat) (ad : Nat → Nat) (rf : Nat → Nat) (I : OI) (R : RI) (ra : Nat) (ta : Int32) (ea : Option Nat) (wa : OO) (adq : Nat → Nat) (Iq : OI) (Rq : RI) (cmq : Option Nat) (AL : List Nat) (AI : Nat → OI) (AR : Nat → OO) (x1 : Int32) (x2 : Int32) (x3 : Int32) (x4 : Int32) (out : Nat × Int32 × OI × RI × Option Nat) (hf : f_X5_asOf N AL I R ta ea wa AI AR Iq Rq cmq x1 x2 x3 x4 = some out) : ConX l yX5_asOf wsX5_asOf rmX5_asOf G vwCl (tys cI cZ cQ cU cJ) nws strs [.ref o, .int x1, .int x2, .int x3, .int x4] (pf [xW cI cZ o ad I R rf, aW cQ (rf 0) ra ta ea wa, lW cI cZ (rf 2) adq Iq Rq cmq, pW AL AI AR]) (fun k' r M' => k' = out.1 ∧ (k' = 0 → r = some (.int out.2.1)) ∧ M' = pf [xW cI cZ o ad I R rf, aW cQ (rf 0) ra ta ea wa, lW cI cZ (rf 2) adq out.2.2.1 out.2.2.2.1 out.2.2.2.2, pW AL AI AR]) := by
  refine conX_of (Qf := fun (o9 : Nat × Int32 × OI × RI × Option Nat) below A args s t9 => QP below G vwCl A args s rmX5_asOf.cells rmX5_asOf.slots ((fun (out : Nat × Int32 × OI × RI × Option Nat) (k' : Nat) (r : Option Value) (M' : va_W) => k' = out.1 ∧ (k' = 0 → r = some (.int out.2.1)) ∧ M' = pf [xW cI cZ o ad I R rf, aW cQ (rf 0) ra ta ea wa, lW cI cZ (rf 2) adq out.2.2.1 out.2.2.2.1 out.2.2.2.2, pW AL AI AR]) o9) t9) (maxL := 5) (own := RX5) hl9 rfl (by decide +kernel) rfl (Nat.le_of_ble_eq_true rfl) (fun _ _ _ _ _ h9 => h9) ?_ hf
  intro p e s m args below meth c A CX hret hE
  have C := CX.1
  unfold f_X5_asOf
  refine VJ.aload_n C 0 dX5_asOf_0 rfl ?_
  refine VJ.iload_n C 1 dX5_asOf_1 rfl ?_
  refine VJ.reqV (T := (fun k9 => (k9, 0, Iq, Rq, cmq))) (P := fun k9 => (fun (out : Nat × Int32 × OI × RI × Option Nat) (k' : Nat) (r : Option Value) (M' : va_W) => k' = out.1 ∧ (k' = 0 → r = some (.int out.2.1)) ∧ M' = pf [xW cI cZ o ad I R rf, aW cQ (rf 0) ra ta ea wa, lW cI cZ (rf 2) adq out.2.2.1 out.2.2.2.1 out.2.2.2.2, pW AL AI AR]) (k9, 0, Iq, Rq, cmq)) CX [.int x1] (pf [xW cI cZ o ad I R rf]) (pf [aW cQ (rf 0) ra ta ea wa, lW cI cZ (rf 2) adq Iq Rq cmq, pW AL AI AR]) 1 6 rmX5_asOf.cells rmX5_asOf.slots hE (fun _ h9 => c_X5_requirePerson l hl9 G cI cZ cQ cU cJ o ad rf I R x1 _ h9) (vj_pf 4 [0, 1, 2, 3] rfl rfl dp_0_1_2_3) 0 rfl rfl (cwV 1 C.1.2.2.2.2 gX5_asOf_X5_requirePerson rfl rfl rfl hyV_X5_requirePerson ⟨Nat.le_of_ble_eq_true rfl, Nat.le_of_ble_eq_true rfl⟩) rfl rfl (Nat.le_of_ble_eq_true rfl) dX5_asOf_2 ⟨Nat.le_of_ble_eq_true rfl, Nat.le_of_ble_eq_true rfl⟩ ⟨rfl, rfl⟩ ⟨Nat.le_of_ble_eq_true rfl, Nat.le_of_ble_eq_true rfl⟩ (fun _ _ h9 => h9) (fun _ => ⟨rfl, fun h9 => absurd h9 (Nat.succ_ne_zero _), rfl⟩) ?_
  refine VJ.iload_n C 2 dX5_asOf_5 rfl ?_
  refine VJ.iconst (v := 0) C dX5_asOf_6 (by decide) ?_
  refine VJ.bipush (v := 6) C dX5_asOf_7 (by decide) ?_
  refine VJ.reqS (T := (fun k9 => (k9, 0, Iq, Rq, cmq))) (P := fun k9 => (fun (out : Nat × Int32 × OI × RI × Option Nat) (k' : Nat) (r : Option Value) (M' : va_W) => k' = out.1 ∧ (k' = 0 → r = some (.int out.2.1)) ∧ M' = pf [xW cI cZ o ad I R rf, aW cQ (rf 0) ra ta ea wa, lW cI cZ (rf 2) adq out.2.2.1 out.2.2.2.1 out.2.2.2.2, pW AL AI AR]) (k9, 0, Iq, Rq, cmq)) CX [.int x2, .int 0, .int 6] (pf []) (pf [xW cI cZ o ad I R rf, aW cQ (rf 0) ra ta ea wa, lW cI cZ (rf 2) adq Iq Rq cmq, pW AL AI AR]) 2 12 rmX5_asOf.cells rmX5_asOf.slots hE (fun _ h9 => c_X5_requireWithin l hl9 G cI cZ cQ cU cJ x2 0 6 _ h9) (vj_pn _) (va_cwS 3 C.1.2.2.2.2 gX5_asOf_X5_requireWithin rfl rfl rfl hy_X5_requireWithin ⟨Nat.le_of_ble_eq_true rfl, Nat.le_of_ble_eq_true rfl⟩) rfl rfl (Nat.le_of_ble_eq_true rfl) dX5_asOf_9 ⟨Nat.le_of_ble_eq_true rfl, Nat.le_of_ble_eq_true rfl⟩ ⟨rfl, rfl⟩ ⟨Nat.le_of_ble_eq_true rfl, Nat.le_of_ble_eq_true rfl⟩ (fun _ _ h9 => h9) (fun _ => ⟨rfl, fun h9 => absurd h9 (Nat.succ_ne_zero _), rfl⟩) ?_
  refine VJ.aload_n C 0 dX5_asOf_12 rfl ?_
  refine VJ.iload_n C 3 dX5_asOf_13 rfl ?_
  refine VJ.reqV (T := (fun k9 => (k9, 0, Iq, Rq, cmq))) (P := fun k9 => (fun (out : Nat × Int32 × OI × RI × Option Nat) (k' : Nat) (r : Option Value) (M' : va_W) => k' = out.1 ∧ (k' = 0 → r = some (.int out.2.1)) ∧ M' = pf [xW cI cZ o ad I R rf, aW cQ (rf 0) ra ta ea wa, lW cI cZ (rf 2) adq out.2.2.1 out.2.2.2.1 out.2.2.2.2, pW AL AI AR]) (k9, 0, Iq, Rq, cmq)) CX [.int x3] (pf [xW cI cZ o ad I R rf]) (pf [aW cQ (rf 0) ra ta ea wa, lW cI cZ (rf 2) adq Iq Rq cmq, pW AL AI AR]) 3 18 rmX5_asOf.cells rmX5_asOf.slots hE (fun _ h9 => c_X5_requireDay l hl9 G cI cZ cQ cU cJ o ad rf I R x3 _ h9) (vj_pf 4 [0, 1, 2, 3] rfl rfl dp_0_1_2_3) 0 rfl rfl (cwV 1 C.1.2.2.2.2 gX5_asOf_X5_requireDay rfl rfl rfl hyV_X5_requireDay ⟨Nat.le_of_ble_eq_true rfl, Nat.le_of_ble_eq_true rfl⟩) rfl rfl (Nat.le_of_ble_eq_true rfl) dX5_asOf_14 ⟨Nat.le_of_ble_eq_true rfl, Nat.le_of_ble_eq_true rfl⟩ ⟨rfl, rfl⟩ ⟨Nat.le_of_ble_eq_true rfl, Nat.le_of_ble_eq_true rfl⟩ (fun _ _ h9 => h9) (fun _ => ⟨rfl, fun h9 => absurd h9 (Nat.succ_ne_zero _), rfl⟩) ?_
  refine VJ.aload_n C 0 dX5_asOf_17 rfl ?_
  refine VJ.iload C 4 dX5_asOf_18 rfl ?_
  refine VJ.reqV (T := (fun k9 => (k9, 0, Iq, Rq, cmq))) (P := fun k9 => (fun (out : Nat × Int32 × OI × RI × Option Nat) (k' : Nat) (r : Option Value) (M' : va_W) => k' = out.1 ∧ (k' = 0 → r = some (.int out.2.1)) ∧ M' = pf [xW cI cZ o ad I R rf, aW cQ (rf 0) ra ta ea wa, lW cI cZ (rf 2) adq out.2.2.1 out.2.2.2.1 out.2.2.2.2, pW AL AI AR]) (k9, 0, Iq, Rq, cmq)) CX [.int x4] (pf [xW cI cZ o ad I R rf]) (pf [aW cQ (rf 0) ra ta ea wa, lW cI cZ (rf 2) adq Iq Rq cmq, pW AL AI AR]) 4 24 rmX5_asOf.cells rmX5_asOf.slots hE (fun _ h9 => c_X5_requireDay l hl9 G cI cZ cQ cU cJ o ad rf I R x4 _ h9) (vj_pf 4 [0, 1, 2, 3] rfl rfl dp_0_1_2_3) 0 rfl rfl (cwV 1 C.1.2.2.2.2 gX5_asOf_X5_requireDay rfl rfl rfl hyV_X5_requireDay ⟨Nat.le_of_ble_eq_true rfl, Nat.le_of_ble_eq_true rfl⟩) rfl rfl (Nat.le_of_ble_eq_true rfl) dX5_asOf_20 ⟨Nat.le_of_ble_eq_true rfl, Nat.le_of_ble_eq_true rfl⟩ ⟨rfl, rfl⟩ ⟨Nat.le_of_ble_eq_true rfl, Nat.le_of_ble_eq_true rfl⟩ (fun _ _ h9 => h9) (fun _ => ⟨rfl, fun h9 => absurd h9 (Nat.succ_ne_zero _), rfl⟩) ?_
  refine VJ.aload_n C 0 dX5_asOf_23 rfl ?_
  refine VJ.get (C0 := RX5) (T := TX5) (N := 11) (ci := 5) C in_X5_asOf_X5 0 rfl rfl 2 (Nat.le_of_ble_eq_true rfl) (C.1.2.2.2.2 _ (List.mem_of_getElem? (i := 1) rfl)) (fun _ h9 => h9) (v := .ref (rf 2)) rfl dX5_asOf_24 ?_
  refine VJ.aload_n C 0 dX5_asOf_27 rfl ?_
  refine VJ.get (C0 := RX5) (T := TX5) (N := 11) (ci := 5) C in_X5_asOf_X5 0 rfl rfl 0 (Nat.le_of_ble_eq_true rfl) (C.1.2.2.2.2 _ (List.mem_of_getElem? (i := 2) rfl)) (fun _ h9 => h9) (v := .ref (rf 0)) rfl dX5_asOf_28 ?_
  refine VJ.iload_n C 3 dX5_asOf_31 rfl ?_
  refine VJ.iload C 4 dX5_asOf_32 rfl ?_
  refine VJ.callVN3 C [.ref (rf 0), .int x3, .int x4] (pf [lW cI cZ (rf 2) adq Iq Rq cmq, aW cQ (rf 0) ra ta ea wa, pW AL AI AR]) (pf [xW cI cZ o ad I R rf]) (fun Iq1 Rq2 cmq3 => none) (fun Iq1 Rq2 cmq3 => pf [lW cI cZ (rf 2) adq Iq1 Rq2 cmq3, aW cQ (rf 0) ra ta ea wa, pW AL AI AR]) (fun Iq1 Rq2 cmq3 => pf [xW cI cZ o ad I R rf, aW cQ (rf 0) ra ta ea wa, lW cI cZ (rf 2) adq Iq1 Rq2 cmq3, pW AL AI AR]) (fun Iq1 Rq2 cmq3 => []) 4 24 (fun _ h9 => c_X2_find l G cI cZ cQ cU cJ N (rf 2) adq Iq Rq cmq (rf 0) ra ta ea wa AL AI AR x3 x4 _ h9) (vj_pf 4 [2, 1, 3, 0] rfl rfl dp_2_1_3_0) (fun _ _ _ => (vj_pf 4 [2, 1, 3, 0] rfl rfl dp_2_1_3_0).symm) 0 rfl rfl (⟨va_cnB 3 C.1.2.2.2.2 gX5_asOf_X2_find_n54 rfl rfl rfl (C.nestM (List.mem_of_getElem? (i := 31) rfl)) (C.1.2.2.2.2 _ (List.mem_of_getElem? (i := 22) rfl)) hy_X2_find ⟨Nat.le_of_ble_eq_true rfl, Nat.le_of_ble_eq_true rfl⟩, (C.1.2.2.2.2 _ (List.mem_of_getElem? (i := 21) rfl)), (C.1.2.2.2.2 _ (List.mem_of_getElem? (i := 23) rfl))⟩) rfl rfl (fun _ _ _ => rfl) (Nat.le_of_ble_eq_true rfl) dX5_asOf_34 ⟨Nat.le_of_ble_eq_true rfl, Nat.le_of_ble_eq_true rfl⟩ ⟨rfl, rfl⟩ (fun Iq1 Rq2 cmq3 => ?_)
  refine VJ.aload_n C 0 dX5_asOf_37 rfl ?_
  refine VJ.get (C0 := RX5) (T := TX5) (N := 11) (ci := 5) C in_X5_asOf_X5 0 rfl rfl 2 (Nat.le_of_ble_eq_true rfl) (C.1.2.2.2.2 _ (List.mem_of_getElem? (i := 1) rfl)) (fun _ h9 => h9) (v := .ref (rf 2)) rfl dX5_asOf_38 ?_
  refine VJ.iload_n C 1 dX5_asOf_41 rfl ?_
  refine VJ.iload_n C 2 dX5_asOf_42 rfl ?_
  refine VJ.callVN2 C [.int x1, .int x2] (pf [lW cI cZ (rf 2) adq Iq1 Rq2 cmq3]) (pf [xW cI cZ o ad I R rf, aW cQ (rf 0) ra ta ea wa, pW AL AI AR]) (fun r4 Rq5 => some (.int r4)) (fun r4 Rq5 => pf [lW cI cZ (rf 2) adq Iq1 Rq5 cmq3]) (fun r4 Rq5 => pf [xW cI cZ o ad I R rf, aW cQ (rf 0) ra ta ea wa, lW cI cZ (rf 2) adq Iq1 Rq5 cmq3, pW AL AI AR]) (fun r4 Rq5 => [.int r4]) 4 24 (fun _ h9 => c_X2_tellOf l G cI cZ cQ cU cJ N (rf 2) adq Iq1 Rq2 cmq3 x1 x2 _ h9) (vj_pf 4 [2, 0, 1, 3] rfl rfl dp_2_0_1_3) (fun _ _ => (vj_pf 4 [2, 0, 1, 3] rfl rfl dp_2_0_1_3).symm) 0 rfl rfl (⟨va_cnB 2 C.1.2.2.2.2 gX5_asOf_X2_tellOf_n151 rfl rfl rfl (C.nestM (List.mem_of_getElem? (i := 45) rfl)) (C.1.2.2.2.2 _ (List.mem_of_getElem? (i := 22) rfl)) hy_X2_tellOf ⟨Nat.le_of_ble_eq_true rfl, Nat.le_of_ble_eq_true rfl⟩, (C.1.2.2.2.2 _ (List.mem_of_getElem? (i := 106) rfl)), (C.1.2.2.2.2 _ (List.mem_of_getElem? (i := 107) rfl))⟩) rfl rfl (fun _ _ => rfl) (Nat.le_of_ble_eq_true rfl) dX5_asOf_43 ⟨Nat.le_of_ble_eq_true rfl, Nat.le_of_ble_eq_true rfl⟩ ⟨rfl, rfl⟩ (fun r4 Rq5 => ?_)
  exact VJ.iretP C rmX5_asOf.cells rmX5_asOf.slots (fun _ h9 => h9) ⟨rfl, fun _ => rfl, rfl⟩ hret (Nat.le_of_ble_eq_true rfl) (Nat.le_of_ble_eq_true rfl) dX5_asOf_46

def f_X5_now (N : Nat) (I : OI) (R : RI) (Ik : OI) (cmk : Option Nat) (Rk : RI) (x1 : Int32) (x2 : Int32) : Option (Nat × Int32 × RI) :=
  obc (f_X5_requirePerson I R x1) (fun k9 => (k9, 0, Rk)) (obc (f_X5_requireWithin x2 0 6) (fun k9 => (k9, 0, Rk)) (ob2 (f_X2_tellOf N Ik cmk Rk x1 x2) (fun r1 Rk2 => some (0, r1, Rk2))))
abbrev rmX5_now : Room := { frames := 7, cells := 2, slots := 12, locals := 128 }
theorem in_X5_now_X5 : ∀ w ∈ u_ws RX5 TX5 11, w ∈ wsX5_now := in_of 68 rfl
theorem hy_X5_now : yX5_now.cls ≠ "java/lang/invoke/MethodHandle" ∧ yX5_now.cls ≠ "java/lang/invoke/VarHandle" ∧ (parseMethodDescriptor yX5_now.desc).map (fun d => d.parameters.length) = some 2 := by decide +kernel
theorem hyV_X5_now : yX5_now.cls = RX5 ∧ yX5_now.cls ≠ "java/lang/invoke/MethodHandle" ∧ yX5_now.cls ≠ "java/lang/invoke/VarHandle" ∧ (parseMethodDescriptor yX5_now.desc).map (fun d => d.parameters.length) = some 2 := ⟨rfl, hy_X5_now⟩
set_option maxHeartbeats 8000000 in
set_option maxRecDepth 100000 in
theorem c_X5_now (l : Launch) (hl9 : l.stackTraces = false) (G : va_G) (cI cZ cQ cU cJ : ClassId) (N : Nat) (o : Nat) (ad : Nat → Nat) (rf : Nat → Nat) (I : OI) (R : RI) (adk : Nat → Nat) (Ik : OI) (Rk : RI) (cmk : Option Nat) (x1 : Int32) (x2 : Int32) (out : Nat × Int32 × RI) (hf : f_X5_now N I R Ik cmk Rk x1 x2 = some out) : ConX l yX5_now wsX5_now rmX5_now G vwCl (tys cI cZ cQ cU cJ) nws strs [.ref o, .int x1, .int x2] (pf [xW cI cZ o ad I R rf, lW cI cZ (rf 1) adk Ik Rk cmk]) (fun k' r M' => k' = out.1 ∧ (k' = 0 → r = some (.int out.2.1)) ∧ M' = pf [xW cI cZ o ad I R rf, lW cI cZ (rf 1) adk Ik out.2.2 cmk]) := by
  refine conX_of (Qf := fun (o9 : Nat × Int32 × RI) below A args s t9 => QP below G vwCl A args s rmX5_now.cells rmX5_now.slots ((fun (out : Nat × Int32 × RI) (k' : Nat) (r : Option Value) (M' : va_W) => k' = out.1 ∧ (k' = 0 → r = some (.int out.2.1)) ∧ M' = pf [xW cI cZ o ad I R rf, lW cI cZ (rf 1) adk Ik out.2.2 cmk]) o9) t9) (maxL := 3) (own := RX5) hl9 rfl (by decide +kernel) rfl (Nat.le_of_ble_eq_true rfl) (fun _ _ _ _ _ h9 => h9) ?_ hf
  intro p e s m args below meth c A CX hret hE
  have C := CX.1
  unfold f_X5_now
  refine VJ.aload_n C 0 dX5_now_0 rfl ?_
  refine VJ.iload_n C 1 dX5_now_1 rfl ?_
  refine VJ.reqV (T := (fun k9 => (k9, 0, Rk))) (P := fun k9 => (fun (out : Nat × Int32 × RI) (k' : Nat) (r : Option Value) (M' : va_W) => k' = out.1 ∧ (k' = 0 → r = some (.int out.2.1)) ∧ M' = pf [xW cI cZ o ad I R rf, lW cI cZ (rf 1) adk Ik out.2.2 cmk]) (k9, 0, Rk)) CX [.int x1] (pf [xW cI cZ o ad I R rf]) (pf [lW cI cZ (rf 1) adk Ik Rk cmk]) 1 6 rmX5_now.cells rmX5_now.slots hE (fun _ h9 => c_X5_requirePerson l hl9 G cI cZ cQ cU cJ o ad rf I R x1 _ h9) (vj_pf 2 [0, 1] rfl rfl dp_0_1) 0 rfl rfl (cwV 1 C.1.2.2.2.2 gX5_now_X5_requirePerson rfl rfl rfl hyV_X5_requirePerson ⟨Nat.le_of_ble_eq_true rfl, Nat.le_of_ble_eq_true rfl⟩) rfl rfl (Nat.le_of_ble_eq_true rfl) dX5_now_2 ⟨Nat.le_of_ble_eq_true rfl, Nat.le_of_ble_eq_true rfl⟩ ⟨rfl, rfl⟩ ⟨Nat.le_of_ble_eq_true rfl, Nat.le_of_ble_eq_true rfl⟩ (fun _ _ h9 => h9) (fun _ => ⟨rfl, fun h9 => absurd h9 (Nat.succ_ne_zero _), rfl⟩) ?_
  refine VJ.iload_n C 2 dX5_now_5 rfl ?_
  refine VJ.iconst (v := 0) C dX5_now_6 (by decide) ?_
  refine VJ.bipush (v := 6) C dX5_now_7 (by decide) ?_
  refine VJ.reqS (T := (fun k9 => (k9, 0, Rk))) (P := fun k9 => (fun (out : Nat × Int32 × RI) (k' : Nat) (r : Option Value) (M' : va_W) => k' = out.1 ∧ (k' = 0 → r = some (.int out.2.1)) ∧ M' = pf [xW cI cZ o ad I R rf, lW cI cZ (rf 1) adk Ik out.2.2 cmk]) (k9, 0, Rk)) CX [.int x2, .int 0, .int 6] (pf []) (pf [xW cI cZ o ad I R rf, lW cI cZ (rf 1) adk Ik Rk cmk]) 2 12 rmX5_now.cells rmX5_now.slots hE (fun _ h9 => c_X5_requireWithin l hl9 G cI cZ cQ cU cJ x2 0 6 _ h9) (vj_pn _) (va_cwS 3 C.1.2.2.2.2 gX5_now_X5_requireWithin rfl rfl rfl hy_X5_requireWithin ⟨Nat.le_of_ble_eq_true rfl, Nat.le_of_ble_eq_true rfl⟩) rfl rfl (Nat.le_of_ble_eq_true rfl) dX5_now_9 ⟨Nat.le_of_ble_eq_true rfl, Nat.le_of_ble_eq_true rfl⟩ ⟨rfl, rfl⟩ ⟨Nat.le_of_ble_eq_true rfl, Nat.le_of_ble_eq_true rfl⟩ (fun _ _ h9 => h9) (fun _ => ⟨rfl, fun h9 => absurd h9 (Nat.succ_ne_zero _), rfl⟩) ?_
  refine VJ.aload_n C 0 dX5_now_12 rfl ?_
  refine VJ.get (C0 := RX5) (T := TX5) (N := 11) (ci := 5) C in_X5_now_X5 0 rfl rfl 1 (Nat.le_of_ble_eq_true rfl) (C.1.2.2.2.2 _ (List.mem_of_getElem? (i := 1) rfl)) (fun _ h9 => h9) (v := .ref (rf 1)) rfl dX5_now_13 ?_
  refine VJ.iload_n C 1 dX5_now_16 rfl ?_
  refine VJ.iload_n C 2 dX5_now_17 rfl ?_
  refine VJ.callVN2 C [.int x1, .int x2] (pf [lW cI cZ (rf 1) adk Ik Rk cmk]) (pf [xW cI cZ o ad I R rf]) (fun r1 Rk2 => some (.int r1)) (fun r1 Rk2 => pf [lW cI cZ (rf 1) adk Ik Rk2 cmk]) (fun r1 Rk2 => pf [xW cI cZ o ad I R rf, lW cI cZ (rf 1) adk Ik Rk2 cmk]) (fun r1 Rk2 => [.int r1]) 2 12 (fun _ h9 => c_X2_tellOf l G cI cZ cQ cU cJ N (rf 1) adk Ik Rk cmk x1 x2 _ h9) (vj_pf 2 [1, 0] rfl rfl dp_1_0) (fun _ _ => (vj_pf 2 [1, 0] rfl rfl dp_1_0).symm) 0 rfl rfl (⟨va_cnB 2 C.1.2.2.2.2 gX5_now_X2_tellOf_n151 rfl rfl rfl (C.nestM (List.mem_of_getElem? (i := 45) rfl)) (C.1.2.2.2.2 _ (List.mem_of_getElem? (i := 16) rfl)) hy_X2_tellOf ⟨Nat.le_of_ble_eq_true rfl, Nat.le_of_ble_eq_true rfl⟩, (C.1.2.2.2.2 _ (List.mem_of_getElem? (i := 15) rfl)), (C.1.2.2.2.2 _ (List.mem_of_getElem? (i := 17) rfl))⟩) rfl rfl (fun _ _ => rfl) (Nat.le_of_ble_eq_true rfl) dX5_now_18 ⟨Nat.le_of_ble_eq_true rfl, Nat.le_of_ble_eq_true rfl⟩ ⟨rfl, rfl⟩ (fun r1 Rk2 => ?_)
  exact VJ.iretP C rmX5_now.cells rmX5_now.slots (fun _ h9 => h9) ⟨rfl, fun _ => rfl, rfl⟩ hret (Nat.le_of_ble_eq_true rfl) (Nat.le_of_ble_eq_true rfl) dX5_now_21

def f_X5_households (N : Nat) (AL : List Nat) (I : OI) (R : RI) (ta : Int32) (ea : Option Nat) (wa : OO) (AI : Nat → OI) (AR : Nat → OO) (Iq : OI) (Rq : RI) (cmq : Option Nat) (x1 : Int32) (x2 : Int32) (x3 : Int32) : Option (Nat × Int32 × OI × RI × Option Nat) :=
  obc (f_X5_requireDwelling x1) (fun k9 => (k9, 0, Iq, Rq, cmq)) (obc (f_X5_requireDay I R x2) (fun k9 => (k9, 0, Iq, Rq, cmq)) (obc (f_X5_requireDay I R x3) (fun k9 => (k9, 0, Iq, Rq, cmq)) (ob3 (f_X2_find N AL ta ea wa AI AR Iq Rq cmq x2 x3) (fun Iq1 Rq2 cmq3 => ob2 (f_X2_countHouseholds N Iq1 cmq3 Rq2 x1) (fun r4 Rq5 => some (0, r4, Iq1, Rq5, cmq3))))))
abbrev rmX5_households : Room := { frames := 8, cells := 3, slots := 18, locals := 133 }
theorem in_X5_households_X5 : ∀ w ∈ u_ws RX5 TX5 11, w ∈ wsX5_households := in_of 139 rfl
theorem hy_X5_households : yX5_households.cls ≠ "java/lang/invoke/MethodHandle" ∧ yX5_households.cls ≠ "java/lang/invoke/VarHandle" ∧ (parseMethodDescriptor yX5_households.desc).map (fun d => d.parameters.length) = some 3 := by decide +kernel
theorem hyV_X5_households : yX5_households.cls = RX5 ∧ yX5_households.cls ≠ "java/lang/invoke/MethodHandle" ∧ yX5_households.cls ≠ "java/lang/invoke/VarHandle" ∧ (parseMethodDescriptor yX5_households.desc).map (fun d => d.parameters.length) = some 3 := ⟨rfl, hy_X5_households⟩
set_option maxHeartbeats 8000000 in
set_option maxRecDepth 100000 in
theorem c_X5_households (l : Launch) (hl9 : l.stackTraces = false) (G : va_G) (cI cZ cQ cU cJ : ClassId) (N : Nat) (o : Nat) (ad : Nat → Nat) (rf : Nat → Nat) (I : OI) (R : RI) (ra : Nat) (ta : Int32) (ea : Option Nat) (wa : OO) (adq : Nat → Nat) (Iq : OI) (Rq : RI) (cmq : Option Nat) (AL : List Nat) (AI : Nat → OI) (AR : Nat → OO) (x1 : Int32) (x2 : Int32) (x3 : Int32) (out : Nat × Int32 × OI × RI × Option Nat) (hf : f_X5_households N AL I R ta ea wa AI AR Iq Rq cmq x1 x2 x3 = some out) : ConX l yX5_households wsX5_households rmX5_households G vwCl (tys cI cZ cQ cU cJ) nws strs [.ref o, .int x1, .int x2, .int x3] (pf [xW cI cZ o ad I R rf, aW cQ (rf 0) ra ta ea wa, lW cI cZ (rf 2) adq Iq Rq cmq, pW AL AI AR]) (fun k' r M' => k' = out.1 ∧ (k' = 0 → r = some (.int out.2.1)) ∧ M' = pf [xW cI cZ o ad I R rf, aW cQ (rf 0) ra ta ea wa, lW cI cZ (rf 2) adq out.2.2.1 out.2.2.2.1 out.2.2.2.2, pW AL AI AR]) := by
  refine conX_of (Qf := fun (o9 : Nat × Int32 × OI × RI × Option Nat) below A args s t9 => QP below G vwCl A args s rmX5_households.cells rmX5_households.slots ((fun (out : Nat × Int32 × OI × RI × Option Nat) (k' : Nat) (r : Option Value) (M' : va_W) => k' = out.1 ∧ (k' = 0 → r = some (.int out.2.1)) ∧ M' = pf [xW cI cZ o ad I R rf, aW cQ (rf 0) ra ta ea wa, lW cI cZ (rf 2) adq out.2.2.1 out.2.2.2.1 out.2.2.2.2, pW AL AI AR]) o9) t9) (maxL := 4) (own := RX5) hl9 rfl (by decide +kernel) rfl (Nat.le_of_ble_eq_true rfl) (fun _ _ _ _ _ h9 => h9) ?_ hf
  intro p e s m args below meth c A CX hret hE
  have C := CX.1
  unfold f_X5_households
  refine VJ.iload_n C 1 dX5_households_0 rfl ?_
  refine VJ.reqS (T := (fun k9 => (k9, 0, Iq, Rq, cmq))) (P := fun k9 => (fun (out : Nat × Int32 × OI × RI × Option Nat) (k' : Nat) (r : Option Value) (M' : va_W) => k' = out.1 ∧ (k' = 0 → r = some (.int out.2.1)) ∧ M' = pf [xW cI cZ o ad I R rf, aW cQ (rf 0) ra ta ea wa, lW cI cZ (rf 2) adq out.2.2.1 out.2.2.2.1 out.2.2.2.2, pW AL AI AR]) (k9, 0, Iq, Rq, cmq)) CX [.int x1] (pf []) (pf [xW cI cZ o ad I R rf, aW cQ (rf 0) ra ta ea wa, lW cI cZ (rf 2) adq Iq Rq cmq, pW AL AI AR]) 1 6 rmX5_households.cells rmX5_households.slots hE (fun _ h9 => c_X5_requireDwelling l hl9 G cI cZ cQ cU cJ x1 _ h9) (vj_pn _) (va_cwS 1 C.1.2.2.2.2 gX5_households_X5_requireDwelling rfl rfl rfl hy_X5_requireDwelling ⟨Nat.le_of_ble_eq_true rfl, Nat.le_of_ble_eq_true rfl⟩) rfl rfl (Nat.le_of_ble_eq_true rfl) dX5_households_1 ⟨Nat.le_of_ble_eq_true rfl, Nat.le_of_ble_eq_true rfl⟩ ⟨rfl, rfl⟩ ⟨Nat.le_of_ble_eq_true rfl, Nat.le_of_ble_eq_true rfl⟩ (fun _ _ h9 => h9) (fun _ => ⟨rfl, fun h9 => absurd h9 (Nat.succ_ne_zero _), rfl⟩) ?_
  refine VJ.aload_n C 0 dX5_households_4 rfl ?_
  refine VJ.iload_n C 2 dX5_households_5 rfl ?_
  refine VJ.reqV (T := (fun k9 => (k9, 0, Iq, Rq, cmq))) (P := fun k9 => (fun (out : Nat × Int32 × OI × RI × Option Nat) (k' : Nat) (r : Option Value) (M' : va_W) => k' = out.1 ∧ (k' = 0 → r = some (.int out.2.1)) ∧ M' = pf [xW cI cZ o ad I R rf, aW cQ (rf 0) ra ta ea wa, lW cI cZ (rf 2) adq out.2.2.1 out.2.2.2.1 out.2.2.2.2, pW AL AI AR]) (k9, 0, Iq, Rq, cmq)) CX [.int x2] (pf [xW cI cZ o ad I R rf]) (pf [aW cQ (rf 0) ra ta ea wa, lW cI cZ (rf 2) adq Iq Rq cmq, pW AL AI AR]) 2 12 rmX5_households.cells rmX5_households.slots hE (fun _ h9 => c_X5_requireDay l hl9 G cI cZ cQ cU cJ o ad rf I R x2 _ h9) (vj_pf 4 [0, 1, 2, 3] rfl rfl dp_0_1_2_3) 0 rfl rfl (cwV 1 C.1.2.2.2.2 gX5_households_X5_requireDay rfl rfl rfl hyV_X5_requireDay ⟨Nat.le_of_ble_eq_true rfl, Nat.le_of_ble_eq_true rfl⟩) rfl rfl (Nat.le_of_ble_eq_true rfl) dX5_households_6 ⟨Nat.le_of_ble_eq_true rfl, Nat.le_of_ble_eq_true rfl⟩ ⟨rfl, rfl⟩ ⟨Nat.le_of_ble_eq_true rfl, Nat.le_of_ble_eq_true rfl⟩ (fun _ _ h9 => h9) (fun _ => ⟨rfl, fun h9 => absurd h9 (Nat.succ_ne_zero _), rfl⟩) ?_
  refine VJ.aload_n C 0 dX5_households_9 rfl ?_
  refine VJ.iload_n C 3 dX5_households_10 rfl ?_
  refine VJ.reqV (T := (fun k9 => (k9, 0, Iq, Rq, cmq))) (P := fun k9 => (fun (out : Nat × Int32 × OI × RI × Option Nat) (k' : Nat) (r : Option Value) (M' : va_W) => k' = out.1 ∧ (k' = 0 → r = some (.int out.2.1)) ∧ M' = pf [xW cI cZ o ad I R rf, aW cQ (rf 0) ra ta ea wa, lW cI cZ (rf 2) adq out.2.2.1 out.2.2.2.1 out.2.2.2.2, pW AL AI AR]) (k9, 0, Iq, Rq, cmq)) CX [.int x3] (pf [xW cI cZ o ad I R rf]) (pf [aW cQ (rf 0) ra ta ea wa, lW cI cZ (rf 2) adq Iq Rq cmq, pW AL AI AR]) 3 18 rmX5_households.cells rmX5_households.slots hE (fun _ h9 => c_X5_requireDay l hl9 G cI cZ cQ cU cJ o ad rf I R x3 _ h9) (vj_pf 4 [0, 1, 2, 3] rfl rfl dp_0_1_2_3) 0 rfl rfl (cwV 1 C.1.2.2.2.2 gX5_households_X5_requireDay rfl rfl rfl hyV_X5_requireDay ⟨Nat.le_of_ble_eq_true rfl, Nat.le_of_ble_eq_true rfl⟩) rfl rfl (Nat.le_of_ble_eq_true rfl) dX5_households_11 ⟨Nat.le_of_ble_eq_true rfl, Nat.le_of_ble_eq_true rfl⟩ ⟨rfl, rfl⟩ ⟨Nat.le_of_ble_eq_true rfl, Nat.le_of_ble_eq_true rfl⟩ (fun _ _ h9 => h9) (fun _ => ⟨rfl, fun h9 => absurd h9 (Nat.succ_ne_zero _), rfl⟩) ?_
  refine VJ.aload_n C 0 dX5_households_14 rfl ?_
  refine VJ.get (C0 := RX5) (T := TX5) (N := 11) (ci := 5) C in_X5_households_X5 0 rfl rfl 2 (Nat.le_of_ble_eq_true rfl) (C.1.2.2.2.2 _ (List.mem_of_getElem? (i := 1) rfl)) (fun _ h9 => h9) (v := .ref (rf 2)) rfl dX5_households_15 ?_
  refine VJ.aload_n C 0 dX5_households_18 rfl ?_
  refine VJ.get (C0 := RX5) (T := TX5) (N := 11) (ci := 5) C in_X5_households_X5 0 rfl rfl 0 (Nat.le_of_ble_eq_true rfl) (C.1.2.2.2.2 _ (List.mem_of_getElem? (i := 2) rfl)) (fun _ h9 => h9) (v := .ref (rf 0)) rfl dX5_households_19 ?_
  refine VJ.iload_n C 2 dX5_households_22 rfl ?_
  refine VJ.iload_n C 3 dX5_households_23 rfl ?_
  refine VJ.callVN3 C [.ref (rf 0), .int x2, .int x3] (pf [lW cI cZ (rf 2) adq Iq Rq cmq, aW cQ (rf 0) ra ta ea wa, pW AL AI AR]) (pf [xW cI cZ o ad I R rf]) (fun Iq1 Rq2 cmq3 => none) (fun Iq1 Rq2 cmq3 => pf [lW cI cZ (rf 2) adq Iq1 Rq2 cmq3, aW cQ (rf 0) ra ta ea wa, pW AL AI AR]) (fun Iq1 Rq2 cmq3 => pf [xW cI cZ o ad I R rf, aW cQ (rf 0) ra ta ea wa, lW cI cZ (rf 2) adq Iq1 Rq2 cmq3, pW AL AI AR]) (fun Iq1 Rq2 cmq3 => []) 3 18 (fun _ h9 => c_X2_find l G cI cZ cQ cU cJ N (rf 2) adq Iq Rq cmq (rf 0) ra ta ea wa AL AI AR x2 x3 _ h9) (vj_pf 4 [2, 1, 3, 0] rfl rfl dp_2_1_3_0) (fun _ _ _ => (vj_pf 4 [2, 1, 3, 0] rfl rfl dp_2_1_3_0).symm) 0 rfl rfl (⟨va_cnB 3 C.1.2.2.2.2 gX5_households_X2_find_n54 rfl rfl rfl (C.nestM (List.mem_of_getElem? (i := 31) rfl)) (C.1.2.2.2.2 _ (List.mem_of_getElem? (i := 20) rfl)) hy_X2_find ⟨Nat.le_of_ble_eq_true rfl, Nat.le_of_ble_eq_true rfl⟩, (C.1.2.2.2.2 _ (List.mem_of_getElem? (i := 19) rfl)), (C.1.2.2.2.2 _ (List.mem_of_getElem? (i := 21) rfl))⟩) rfl rfl (fun _ _ _ => rfl) (Nat.le_of_ble_eq_true rfl) dX5_households_24 ⟨Nat.le_of_ble_eq_true rfl, Nat.le_of_ble_eq_true rfl⟩ ⟨rfl, rfl⟩ (fun Iq1 Rq2 cmq3 => ?_)
  refine VJ.aload_n C 0 dX5_households_27 rfl ?_
  refine VJ.get (C0 := RX5) (T := TX5) (N := 11) (ci := 5) C in_X5_households_X5 0 rfl rfl 2 (Nat.le_of_ble_eq_true rfl) (C.1.2.2.2.2 _ (List.mem_of_getElem? (i := 1) rfl)) (fun _ h9 => h9) (v := .ref (rf 2)) rfl dX5_households_28 ?_
  refine VJ.iload_n C 1 dX5_households_31 rfl ?_
  refine VJ.callVN2 C [.int x1] (pf [lW cI cZ (rf 2) adq Iq1 Rq2 cmq3]) (pf [xW cI cZ o ad I R rf, aW cQ (rf 0) ra ta ea wa, pW AL AI AR]) (fun r4 Rq5 => some (.int r4)) (fun r4 Rq5 => pf [lW cI cZ (rf 2) adq Iq1 Rq5 cmq3]) (fun r4 Rq5 => pf [xW cI cZ o ad I R rf, aW cQ (rf 0) ra ta ea wa, lW cI cZ (rf 2) adq Iq1 Rq5 cmq3, pW AL AI AR]) (fun r4 Rq5 => [.int r4]) 3 18 (fun _ h9 => c_X2_countHouseholds l G cI cZ cQ cU cJ N (rf 2) adq Iq1 Rq2 cmq3 x1 _ h9) (vj_pf 4 [2, 0, 1, 3] rfl rfl dp_2_0_1_3) (fun _ _ => (vj_pf 4 [2, 0, 1, 3] rfl rfl dp_2_0_1_3).symm) 0 rfl rfl (⟨va_cnB 1 C.1.2.2.2.2 gX5_households_X2_countHouseholds_n155 rfl rfl rfl (C.nestM (List.mem_of_getElem? (i := 46) rfl)) (C.1.2.2.2.2 _ (List.mem_of_getElem? (i := 20) rfl)) hy_X2_countHouseholds ⟨Nat.le_of_ble_eq_true rfl, Nat.le_of_ble_eq_true rfl⟩, (C.1.2.2.2.2 _ (List.mem_of_getElem? (i := 104) rfl)), (C.1.2.2.2.2 _ (List.mem_of_getElem? (i := 105) rfl))⟩) rfl rfl (fun _ _ => rfl) (Nat.le_of_ble_eq_true rfl) dX5_households_32 ⟨Nat.le_of_ble_eq_true rfl, Nat.le_of_ble_eq_true rfl⟩ ⟨rfl, rfl⟩ (fun r4 Rq5 => ?_)
  exact VJ.iretP C rmX5_households.cells rmX5_households.slots (fun _ h9 => h9) ⟨rfl, fun _ => rfl, rfl⟩ hret (Nat.le_of_ble_eq_true rfl) (Nat.le_of_ble_eq_true rfl) dX5_households_35

set_option maxHeartbeats 4000000 in
set_option maxRecDepth 100000 in
def f_X5_money_l50b (N : Nat) (AL : List Nat) (I : OI) (R : RI) (ta : Int32) (ea : Option Nat) (wa : OO) (AI : Nat → OI) (AR : Nat → OO) (k50 : OI → RI → Option Nat → Int32 → Int32 → Int32 → Int32 → Int32 → Option (Nat × Int32 × OI × RI × Option Nat)) (Iq : OI) (Rq : RI) (cmq : Option Nat) (x1 : Int32) (x2 : Int32) (x3 : Int32) (x5 : Int32) (x6 : Int32) : Option (Nat × Int32 × OI × RI × Option Nat) :=
  if x3 ≤ x6 then (some (0, x5, Iq, Rq, cmq)) else (ob3 (f_X2_goOn N AL AI AR Iq Rq cmq (x2 + x6)) (fun Iq4 Rq5 cmq6 => ob1 (f_X2_countLivingUnder N Iq4 Rq5 cmq6 x1) (fun r7 => ol (x5 + r7) (fun v8 => ol (x6 + Int32.ofInt 1) (fun v9 => k50 Iq4 Rq5 cmq6 x1 x2 x3 v8 v9)))))
set_option maxHeartbeats 4000000 in
set_option maxRecDepth 100000 in
def f_X5_money_l50 (N : Nat) (AL : List Nat) (I : OI) (R : RI) (ta : Int32) (ea : Option Nat) (wa : OO) (AI : Nat → OI) (AR : Nat → OO) : Nat → OI → RI → Option Nat → Int32 → Int32 → Int32 → Int32 → Int32 → Option (Nat × Int32 × OI × RI × Option Nat)
  | 0 => fun _ _ _ _ _ _ _ _ => none
  | n9 + 1 => f_X5_money_l50b N AL I R ta ea wa AI AR (f_X5_money_l50 N AL I R ta ea wa AI AR n9)
def f_X5_money (N : Nat) (AL : List Nat) (I : OI) (R : RI) (ta : Int32) (ea : Option Nat) (wa : OO) (AI : Nat → OI) (AR : Nat → OO) (Iq : OI) (Rq : RI) (cmq : Option Nat) (x1 : Int32) (x2 : Int32) (x3 : Int32) (x4 : Int32) : Option (Nat × Int32 × OI × RI × Option Nat) :=
  obc (f_X5_requireOffice x1) (fun k9 => (k9, 0, Iq, Rq, cmq)) (obc (f_X5_requireDay I R x2) (fun k9 => (k9, 0, Iq, Rq, cmq)) (obc (f_X5_requireWithin x3 1 60) (fun k9 => (k9, 0, Iq, Rq, cmq)) (obc (f_X5_requireDay I R ((x2 + x3) - 1)) (fun k9 => (k9, 0, Iq, Rq, cmq)) (obc (f_X5_requireDay I R x4) (fun k9 => (k9, 0, Iq, Rq, cmq)) (ob3 (f_X2_begin N AL ta ea wa AI AR Iq Rq cmq x4) (fun Iq1 Rq2 cmq3 => f_X5_money_l50 N AL I R ta ea wa AI AR N Iq1 Rq2 cmq3 x1 x2 x3 0 0))))))
abbrev rmX5_money : Room := { frames := 8, cells := 5, slots := 30, locals := 133 }
theorem in_X5_money_X5 : ∀ w ∈ u_ws RX5 TX5 11, w ∈ wsX5_money := in_of 108 rfl
theorem hy_X5_money : yX5_money.cls ≠ "java/lang/invoke/MethodHandle" ∧ yX5_money.cls ≠ "java/lang/invoke/VarHandle" ∧ (parseMethodDescriptor yX5_money.desc).map (fun d => d.parameters.length) = some 4 := by decide +kernel
theorem hyV_X5_money : yX5_money.cls = RX5 ∧ yX5_money.cls ≠ "java/lang/invoke/MethodHandle" ∧ yX5_money.cls ≠ "java/lang/invoke/VarHandle" ∧ (parseMethodDescriptor yX5_money.desc).map (fun d => d.parameters.length) = some 4 := ⟨rfl, hy_X5_money⟩
set_option maxHeartbeats 8000000 in
set_option maxRecDepth 100000 in
theorem c_X5_money (l : Launch) (hl9 : l.stackTraces = false) (G : va_G) (cI cZ cQ cU cJ : ClassId) (N : Nat) (o : Nat) (ad : Nat → Nat) (rf : Nat → Nat) (I : OI) (R : RI) (ra : Nat) (ta : Int32) (ea : Option Nat) (wa : OO) (adq : Nat → Nat) (Iq : OI) (Rq : RI) (cmq : Option Nat) (AL : List Nat) (AI : Nat → OI) (AR : Nat → OO) (x1 : Int32) (x2 : Int32) (x3 : Int32) (x4 : Int32) (out : Nat × Int32 × OI × RI × Option Nat) (hf : f_X5_money N AL I R ta ea wa AI AR Iq Rq cmq x1 x2 x3 x4 = some out) : ConX l yX5_money wsX5_money rmX5_money G vwCl (tys cI cZ cQ cU cJ) nws strs [.ref o, .int x1, .int x2, .int x3, .int x4] (pf [xW cI cZ o ad I R rf, aW cQ (rf 0) ra ta ea wa, lW cI cZ (rf 2) adq Iq Rq cmq, pW AL AI AR]) (fun k' r M' => k' = out.1 ∧ (k' = 0 → r = some (.int out.2.1)) ∧ M' = pf [xW cI cZ o ad I R rf, aW cQ (rf 0) ra ta ea wa, lW cI cZ (rf 2) adq out.2.2.1 out.2.2.2.1 out.2.2.2.2, pW AL AI AR]) := by
  refine conX_of (Qf := fun (o9 : Nat × Int32 × OI × RI × Option Nat) below A args s t9 => QP below G vwCl A args s rmX5_money.cells rmX5_money.slots ((fun (out : Nat × Int32 × OI × RI × Option Nat) (k' : Nat) (r : Option Value) (M' : va_W) => k' = out.1 ∧ (k' = 0 → r = some (.int out.2.1)) ∧ M' = pf [xW cI cZ o ad I R rf, aW cQ (rf 0) ra ta ea wa, lW cI cZ (rf 2) adq out.2.2.1 out.2.2.2.1 out.2.2.2.2, pW AL AI AR]) o9) t9) (maxL := 7) (own := RX5) hl9 rfl (by decide +kernel) rfl (Nat.le_of_ble_eq_true rfl) (fun _ _ _ _ _ h9 => h9) ?_ hf
  intro p e s m args below meth c A CX hret hE
  have C := CX.1
  have j50 : ∀ (n9 : Nat) (Iq : OI) (Rq : RI) (cmq : Option Nat) (x1 : Int32) (x2 : Int32) (x3 : Int32) (x5 : Int32) (x6 : Int32), VJ p l e rmX5_money s m args below meth c 7 G vwCl A (fun (o9 : Nat × Int32 × OI × RI × Option Nat) (t9 : State) => QP below G vwCl A args s rmX5_money.cells rmX5_money.slots ((fun (out : Nat × Int32 × OI × RI × Option Nat) (k' : Nat) (r : Option Value) (M' : va_W) => k' = out.1 ∧ (k' = 0 → r = some (.int out.2.1)) ∧ M' = pf [xW cI cZ o ad I R rf, aW cQ (rf 0) ra ta ea wa, lW cI cZ (rf 2) adq out.2.2.1 out.2.2.2.1 out.2.2.2.2, pW AL AI AR]) o9) t9) 5 30 (f_X5_money_l50 N AL I R ta ea wa AI AR  n9 Iq Rq cmq x1 x2 x3 x5 x6) (pf [xW cI cZ o ad I R rf, aW cQ (rf 0) ra ta ea wa, lW cI cZ (rf 2) adq Iq Rq cmq, pW AL AI AR]) 50 [(0, .ref o), (1, .int x1), (2, .int x2), (3, .int x3), (5, .int x5), (6, .int x6)] [] := by
    intro  n9
    induction n9 with
    | zero => intro Iq Rq cmq x1 x2 x3 x5 x6; exact VJ.fnone rfl
    | succ n9 i50 =>
      intro Iq Rq cmq x1 x2 x3 x5 x6
      refine VJ.eqf (f' := f_X5_money_l50b N AL I R ta ea wa AI AR  (f_X5_money_l50 N AL I R ta ea wa AI AR  n9) Iq Rq cmq x1 x2 x3 x5 x6) rfl ?_
      generalize f_X5_money_l50 N AL I R ta ea wa AI AR  n9 = k50 at i50 ⊢
      unfold f_X5_money_l50b
      refine VJ.iload C 5 dX5_money_50 rfl ?_
      refine VJ.iload_n C 3 dX5_money_52 rfl ?_
      refine VJ.icmp_ge C 86 dX5_money_53 (by decide) (fun _ => ?_) (fun _ => ?_)
      · refine VJ.iload C 4 dX5_money_86 rfl ?_
        exact VJ.iretP C rmX5_money.cells rmX5_money.slots (fun _ h9 => h9) ⟨rfl, fun _ => rfl, rfl⟩ hret (Nat.le_of_ble_eq_true rfl) (Nat.le_of_ble_eq_true rfl) dX5_money_88
      · refine VJ.aload_n C 0 dX5_money_56 rfl ?_
        refine VJ.get (C0 := RX5) (T := TX5) (N := 11) (ci := 5) C in_X5_money_X5 0 rfl rfl 2 (Nat.le_of_ble_eq_true rfl) (C.1.2.2.2.2 _ (List.mem_of_getElem? (i := 1) rfl)) (fun _ h9 => h9) (v := .ref (rf 2)) rfl dX5_money_57 ?_
        refine VJ.iload_n C 2 dX5_money_60 rfl ?_
        refine VJ.iload C 5 dX5_money_61 rfl ?_
        refine VJ.iadd C dX5_money_63 ?_
        refine VJ.callVN3 C [.int (x2 + x6)] (pf [lW cI cZ (rf 2) adq Iq Rq cmq, pW AL AI AR]) (pf [xW cI cZ o ad I R rf, aW cQ (rf 0) ra ta ea wa]) (fun Iq4 Rq5 cmq6 => none) (fun Iq4 Rq5 cmq6 => pf [lW cI cZ (rf 2) adq Iq4 Rq5 cmq6, pW AL AI AR]) (fun Iq4 Rq5 cmq6 => pf [xW cI cZ o ad I R rf, aW cQ (rf 0) ra ta ea wa, lW cI cZ (rf 2) adq Iq4 Rq5 cmq6, pW AL AI AR]) (fun Iq4 Rq5 cmq6 => []) 5 30 (fun _ h9 => c_X2_goOn l G cI cZ cQ cU cJ N (rf 2) adq Iq Rq cmq AL AI AR (x2 + x6) _ h9) (vj_pf 4 [2, 3, 0, 1] rfl rfl dp_2_3_0_1) (fun _ _ _ => (vj_pf 4 [2, 3, 0, 1] rfl rfl dp_2_3_0_1).symm) 0 rfl rfl (⟨va_cnB 1 C.1.2.2.2.2 gX5_money_X2_goOn_n69 rfl rfl rfl (C.nestM (List.mem_of_getElem? (i := 37) rfl)) (C.1.2.2.2.2 _ (List.mem_of_getElem? (i := 20) rfl)) hy_X2_goOn ⟨Nat.le_of_ble_eq_true rfl, Nat.le_of_ble_eq_true rfl⟩, (C.1.2.2.2.2 _ (List.mem_of_getElem? (i := 62) rfl)), (C.1.2.2.2.2 _ (List.mem_of_getElem? (i := 63) rfl))⟩) rfl rfl (fun _ _ _ => rfl) (Nat.le_of_ble_eq_true rfl) dX5_money_64 ⟨Nat.le_of_ble_eq_true rfl, Nat.le_of_ble_eq_true rfl⟩ ⟨rfl, rfl⟩ (fun Iq4 Rq5 cmq6 => ?_)
        refine VJ.iload C 4 dX5_money_67 rfl ?_
        refine VJ.aload_n C 0 dX5_money_69 rfl ?_
        refine VJ.get (C0 := RX5) (T := TX5) (N := 11) (ci := 5) C in_X5_money_X5 0 rfl rfl 2 (Nat.le_of_ble_eq_true rfl) (C.1.2.2.2.2 _ (List.mem_of_getElem? (i := 1) rfl)) (fun _ h9 => h9) (v := .ref (rf 2)) rfl dX5_money_70 ?_
        refine VJ.iload_n C 1 dX5_money_73 rfl ?_
        refine VJ.callVN1 C [.int x1] (pf [lW cI cZ (rf 2) adq Iq4 Rq5 cmq6]) (pf [xW cI cZ o ad I R rf, aW cQ (rf 0) ra ta ea wa, pW AL AI AR]) (fun r7 => some (.int r7)) (fun r7 => pf [lW cI cZ (rf 2) adq Iq4 Rq5 cmq6]) (fun r7 => pf [xW cI cZ o ad I R rf, aW cQ (rf 0) ra ta ea wa, lW cI cZ (rf 2) adq Iq4 Rq5 cmq6, pW AL AI AR]) (fun r7 => [.int r7, .int x5]) 5 30 (fun _ h9 => c_X2_countLivingUnder l G cI cZ cQ cU cJ N (rf 2) adq Iq4 Rq5 cmq6 x1 _ h9) (vj_pf 4 [2, 0, 1, 3] rfl rfl dp_2_0_1_3) (fun _ => (vj_pf 4 [2, 0, 1, 3] rfl rfl dp_2_0_1_3).symm) 0 rfl rfl (⟨va_cnB 1 C.1.2.2.2.2 gX5_money_X2_countLivingUnder_n165 rfl rfl rfl (C.nestM (List.mem_of_getElem? (i := 47) rfl)) (C.1.2.2.2.2 _ (List.mem_of_getElem? (i := 20) rfl)) hy_X2_countLivingUnder ⟨Nat.le_of_ble_eq_true rfl, Nat.le_of_ble_eq_true rfl⟩, (C.1.2.2.2.2 _ (List.mem_of_getElem? (i := 99) rfl)), (C.1.2.2.2.2 _ (List.mem_of_getElem? (i := 100) rfl))⟩) rfl rfl (fun _ => rfl) (Nat.le_of_ble_eq_true rfl) dX5_money_74 ⟨Nat.le_of_ble_eq_true rfl, Nat.le_of_ble_eq_true rfl⟩ ⟨rfl, rfl⟩ (fun r7 => ?_)
        refine VJ.iadd C dX5_money_77 ?_
        refine VJ.topi C (fun v8 => ?_)
        refine VJ.istore C [(5, .int v8), (0, .ref o), (1, .int x1), (2, .int x2), (3, .int x3), (6, .int x6)] dX5_money_78 (Nat.le_of_ble_eq_true rfl) rfl ?_
        refine VJ.iincN C 5 (fun v9 => [(6, .int v9), (5, .int v8), (0, .ref o), (1, .int x1), (2, .int x2), (3, .int x3)]) dX5_money_80 rfl (Nat.le_of_ble_eq_true rfl) (fun _ => rfl) (fun v9 => ?_)
        refine VJ.goto C 50 dX5_money_83 (by decide) ?_
        refine VJ.sub [2, 3, 4, 5, 1, 0] rfl ?_
        exact i50 Iq4 Rq5 cmq6 x1 x2 x3 v8 v9
  unfold f_X5_money
  refine VJ.iload_n C 1 dX5_money_0 rfl ?_
  refine VJ.reqS (T := (fun k9 => (k9, 0, Iq, Rq, cmq))) (P := fun k9 => (fun (out : Nat × Int32 × OI × RI × Option Nat) (k' : Nat) (r : Option Value) (M' : va_W) => k' = out.1 ∧ (k' = 0 → r = some (.int out.2.1)) ∧ M' = pf [xW cI cZ o ad I R rf, aW cQ (rf 0) ra ta ea wa, lW cI cZ (rf 2) adq out.2.2.1 out.2.2.2.1 out.2.2.2.2, pW AL AI AR]) (k9, 0, Iq, Rq, cmq)) CX [.int x1] (pf []) (pf [xW cI cZ o ad I R rf, aW cQ (rf 0) ra ta ea wa, lW cI cZ (rf 2) adq Iq Rq cmq, pW AL AI AR]) 1 6 rmX5_money.cells rmX5_money.slots hE (fun _ h9 => c_X5_requireOffice l hl9 G cI cZ cQ cU cJ x1 _ h9) (vj_pn _) (va_cwS 1 C.1.2.2.2.2 gX5_money_X5_requireOffice rfl rfl rfl hy_X5_requireOffice ⟨Nat.le_of_ble_eq_true rfl, Nat.le_of_ble_eq_true rfl⟩) rfl rfl (Nat.le_of_ble_eq_true rfl) dX5_money_1 ⟨Nat.le_of_ble_eq_true rfl, Nat.le_of_ble_eq_true rfl⟩ ⟨rfl, rfl⟩ ⟨Nat.le_of_ble_eq_true rfl, Nat.le_of_ble_eq_true rfl⟩ (fun _ _ h9 => h9) (fun _ => ⟨rfl, fun h9 => absurd h9 (Nat.succ_ne_zero _), rfl⟩) ?_
  refine VJ.aload_n C 0 dX5_money_4 rfl ?_
  refine VJ.iload_n C 2 dX5_money_5 rfl ?_
  refine VJ.reqV (T := (fun k9 => (k9, 0, Iq, Rq, cmq))) (P := fun k9 => (fun (out : Nat × Int32 × OI × RI × Option Nat) (k' : Nat) (r : Option Value) (M' : va_W) => k' = out.1 ∧ (k' = 0 → r = some (.int out.2.1)) ∧ M' = pf [xW cI cZ o ad I R rf, aW cQ (rf 0) ra ta ea wa, lW cI cZ (rf 2) adq out.2.2.1 out.2.2.2.1 out.2.2.2.2, pW AL AI AR]) (k9, 0, Iq, Rq, cmq)) CX [.int x2] (pf [xW cI cZ o ad I R rf]) (pf [aW cQ (rf 0) ra ta ea wa, lW cI cZ (rf 2) adq Iq Rq cmq, pW AL AI AR]) 2 12 rmX5_money.cells rmX5_money.slots hE (fun _ h9 => c_X5_requireDay l hl9 G cI cZ cQ cU cJ o ad rf I R x2 _ h9) (vj_pf 4 [0, 1, 2, 3] rfl rfl dp_0_1_2_3) 0 rfl rfl (cwV 1 C.1.2.2.2.2 gX5_money_X5_requireDay rfl rfl rfl hyV_X5_requireDay ⟨Nat.le_of_ble_eq_true rfl, Nat.le_of_ble_eq_true rfl⟩) rfl rfl (Nat.le_of_ble_eq_true rfl) dX5_money_6 ⟨Nat.le_of_ble_eq_true rfl, Nat.le_of_ble_eq_true rfl⟩ ⟨rfl, rfl⟩ ⟨Nat.le_of_ble_eq_true rfl, Nat.le_of_ble_eq_true rfl⟩ (fun _ _ h9 => h9) (fun _ => ⟨rfl, fun h9 => absurd h9 (Nat.succ_ne_zero _), rfl⟩) ?_
  refine VJ.iload_n C 3 dX5_money_9 rfl ?_
  refine VJ.iconst (v := 1) C dX5_money_10 (by decide) ?_
  refine VJ.bipush (v := 60) C dX5_money_11 (by decide) ?_
  refine VJ.reqS (T := (fun k9 => (k9, 0, Iq, Rq, cmq))) (P := fun k9 => (fun (out : Nat × Int32 × OI × RI × Option Nat) (k' : Nat) (r : Option Value) (M' : va_W) => k' = out.1 ∧ (k' = 0 → r = some (.int out.2.1)) ∧ M' = pf [xW cI cZ o ad I R rf, aW cQ (rf 0) ra ta ea wa, lW cI cZ (rf 2) adq out.2.2.1 out.2.2.2.1 out.2.2.2.2, pW AL AI AR]) (k9, 0, Iq, Rq, cmq)) CX [.int x3, .int 1, .int 60] (pf []) (pf [xW cI cZ o ad I R rf, aW cQ (rf 0) ra ta ea wa, lW cI cZ (rf 2) adq Iq Rq cmq, pW AL AI AR]) 3 18 rmX5_money.cells rmX5_money.slots hE (fun _ h9 => c_X5_requireWithin l hl9 G cI cZ cQ cU cJ x3 1 60 _ h9) (vj_pn _) (va_cwS 3 C.1.2.2.2.2 gX5_money_X5_requireWithin rfl rfl rfl hy_X5_requireWithin ⟨Nat.le_of_ble_eq_true rfl, Nat.le_of_ble_eq_true rfl⟩) rfl rfl (Nat.le_of_ble_eq_true rfl) dX5_money_13 ⟨Nat.le_of_ble_eq_true rfl, Nat.le_of_ble_eq_true rfl⟩ ⟨rfl, rfl⟩ ⟨Nat.le_of_ble_eq_true rfl, Nat.le_of_ble_eq_true rfl⟩ (fun _ _ h9 => h9) (fun _ => ⟨rfl, fun h9 => absurd h9 (Nat.succ_ne_zero _), rfl⟩) ?_
  refine VJ.aload_n C 0 dX5_money_16 rfl ?_
  refine VJ.iload_n C 2 dX5_money_17 rfl ?_
  refine VJ.iload_n C 3 dX5_money_18 rfl ?_
  refine VJ.iadd C dX5_money_19 ?_
  refine VJ.iconst (v := 1) C dX5_money_20 (by decide) ?_
  refine VJ.isub C dX5_money_21 ?_
  refine VJ.reqV (T := (fun k9 => (k9, 0, Iq, Rq, cmq))) (P := fun k9 => (fun (out : Nat × Int32 × OI × RI × Option Nat) (k' : Nat) (r : Option Value) (M' : va_W) => k' = out.1 ∧ (k' = 0 → r = some (.int out.2.1)) ∧ M' = pf [xW cI cZ o ad I R rf, aW cQ (rf 0) ra ta ea wa, lW cI cZ (rf 2) adq out.2.2.1 out.2.2.2.1 out.2.2.2.2, pW AL AI AR]) (k9, 0, Iq, Rq, cmq)) CX [.int ((x2 + x3) - 1)] (pf [xW cI cZ o ad I R rf]) (pf [aW cQ (rf 0) ra ta ea wa, lW cI cZ (rf 2) adq Iq Rq cmq, pW AL AI AR]) 4 24 rmX5_money.cells rmX5_money.slots hE (fun _ h9 => c_X5_requireDay l hl9 G cI cZ cQ cU cJ o ad rf I R ((x2 + x3) - 1) _ h9) (vj_pf 4 [0, 1, 2, 3] rfl rfl dp_0_1_2_3) 0 rfl rfl (cwV 1 C.1.2.2.2.2 gX5_money_X5_requireDay rfl rfl rfl hyV_X5_requireDay ⟨Nat.le_of_ble_eq_true rfl, Nat.le_of_ble_eq_true rfl⟩) rfl rfl (Nat.le_of_ble_eq_true rfl) dX5_money_22 ⟨Nat.le_of_ble_eq_true rfl, Nat.le_of_ble_eq_true rfl⟩ ⟨rfl, rfl⟩ ⟨Nat.le_of_ble_eq_true rfl, Nat.le_of_ble_eq_true rfl⟩ (fun _ _ h9 => h9) (fun _ => ⟨rfl, fun h9 => absurd h9 (Nat.succ_ne_zero _), rfl⟩) ?_
  refine VJ.aload_n C 0 dX5_money_25 rfl ?_
  refine VJ.iload C 4 dX5_money_26 rfl ?_
  refine VJ.reqV (T := (fun k9 => (k9, 0, Iq, Rq, cmq))) (P := fun k9 => (fun (out : Nat × Int32 × OI × RI × Option Nat) (k' : Nat) (r : Option Value) (M' : va_W) => k' = out.1 ∧ (k' = 0 → r = some (.int out.2.1)) ∧ M' = pf [xW cI cZ o ad I R rf, aW cQ (rf 0) ra ta ea wa, lW cI cZ (rf 2) adq out.2.2.1 out.2.2.2.1 out.2.2.2.2, pW AL AI AR]) (k9, 0, Iq, Rq, cmq)) CX [.int x4] (pf [xW cI cZ o ad I R rf]) (pf [aW cQ (rf 0) ra ta ea wa, lW cI cZ (rf 2) adq Iq Rq cmq, pW AL AI AR]) 5 30 rmX5_money.cells rmX5_money.slots hE (fun _ h9 => c_X5_requireDay l hl9 G cI cZ cQ cU cJ o ad rf I R x4 _ h9) (vj_pf 4 [0, 1, 2, 3] rfl rfl dp_0_1_2_3) 0 rfl rfl (cwV 1 C.1.2.2.2.2 gX5_money_X5_requireDay rfl rfl rfl hyV_X5_requireDay ⟨Nat.le_of_ble_eq_true rfl, Nat.le_of_ble_eq_true rfl⟩) rfl rfl (Nat.le_of_ble_eq_true rfl) dX5_money_28 ⟨Nat.le_of_ble_eq_true rfl, Nat.le_of_ble_eq_true rfl⟩ ⟨rfl, rfl⟩ ⟨Nat.le_of_ble_eq_true rfl, Nat.le_of_ble_eq_true rfl⟩ (fun _ _ h9 => h9) (fun _ => ⟨rfl, fun h9 => absurd h9 (Nat.succ_ne_zero _), rfl⟩) ?_
  refine VJ.aload_n C 0 dX5_money_31 rfl ?_
  refine VJ.get (C0 := RX5) (T := TX5) (N := 11) (ci := 5) C in_X5_money_X5 0 rfl rfl 2 (Nat.le_of_ble_eq_true rfl) (C.1.2.2.2.2 _ (List.mem_of_getElem? (i := 1) rfl)) (fun _ h9 => h9) (v := .ref (rf 2)) rfl dX5_money_32 ?_
  refine VJ.aload_n C 0 dX5_money_35 rfl ?_
  refine VJ.get (C0 := RX5) (T := TX5) (N := 11) (ci := 5) C in_X5_money_X5 0 rfl rfl 0 (Nat.le_of_ble_eq_true rfl) (C.1.2.2.2.2 _ (List.mem_of_getElem? (i := 2) rfl)) (fun _ h9 => h9) (v := .ref (rf 0)) rfl dX5_money_36 ?_
  refine VJ.iload C 4 dX5_money_39 rfl ?_
  refine VJ.callVN3 C [.ref (rf 0), .int x4] (pf [lW cI cZ (rf 2) adq Iq Rq cmq, aW cQ (rf 0) ra ta ea wa, pW AL AI AR]) (pf [xW cI cZ o ad I R rf]) (fun Iq1 Rq2 cmq3 => none) (fun Iq1 Rq2 cmq3 => pf [lW cI cZ (rf 2) adq Iq1 Rq2 cmq3, aW cQ (rf 0) ra ta ea wa, pW AL AI AR]) (fun Iq1 Rq2 cmq3 => pf [xW cI cZ o ad I R rf, aW cQ (rf 0) ra ta ea wa, lW cI cZ (rf 2) adq Iq1 Rq2 cmq3, pW AL AI AR]) (fun Iq1 Rq2 cmq3 => []) 5 30 (fun _ h9 => c_X2_begin l G cI cZ cQ cU cJ N (rf 2) adq Iq Rq cmq (rf 0) ra ta ea wa AL AI AR x4 _ h9) (vj_pf 4 [2, 1, 3, 0] rfl rfl dp_2_1_3_0) (fun _ _ _ => (vj_pf 4 [2, 1, 3, 0] rfl rfl dp_2_1_3_0).symm) 0 rfl rfl (⟨va_cnB 2 C.1.2.2.2.2 gX5_money_X2_begin_n161 rfl rfl rfl (C.nestM (List.mem_of_getElem? (i := 43) rfl)) (C.1.2.2.2.2 _ (List.mem_of_getElem? (i := 20) rfl)) hy_X2_begin ⟨Nat.le_of_ble_eq_true rfl, Nat.le_of_ble_eq_true rfl⟩, (C.1.2.2.2.2 _ (List.mem_of_getElem? (i := 19) rfl)), (C.1.2.2.2.2 _ (List.mem_of_getElem? (i := 21) rfl))⟩) rfl rfl (fun _ _ _ => rfl) (Nat.le_of_ble_eq_true rfl) dX5_money_41 ⟨Nat.le_of_ble_eq_true rfl, Nat.le_of_ble_eq_true rfl⟩ ⟨rfl, rfl⟩ (fun Iq1 Rq2 cmq3 => ?_)
  refine VJ.iconst (v := 0) C dX5_money_44 (by decide) ?_
  refine VJ.istore C [(5, .int 0), (0, .ref o), (1, .int x1), (2, .int x2), (3, .int x3), (4, .int x4)] dX5_money_45 (Nat.le_of_ble_eq_true rfl) rfl ?_
  refine VJ.iconst (v := 0) C dX5_money_47 (by decide) ?_
  refine VJ.istore C [(6, .int 0), (5, .int 0), (0, .ref o), (1, .int x1), (2, .int x2), (3, .int x3), (4, .int x4)] dX5_money_48 (Nat.le_of_ble_eq_true rfl) rfl ?_
  refine VJ.sub [2, 3, 4, 5, 1, 0] rfl ?_
  exact j50 N Iq1 Rq2 cmq3 x1 x2 x3 0 0

set_option maxHeartbeats 4000000 in
set_option maxRecDepth 100000 in
def f_X5_changed_l47b (N : Nat) (AL : List Nat) (I : OI) (R : RI) (ta : Int32) (ea : Option Nat) (wa : OO) (AI : Nat → OI) (AR : Nat → OO) (k47 : OI → RI → Option Nat → OI → RI → Option Nat → Int32 → Int32 → Option (Nat × Int32 × OI × RI × Option Nat × OI × RI × Option Nat)) (Iq : OI) (Rq : RI) (cmq : Option Nat) (Ic : OI) (Rc : RI) (cmc : Option Nat) (x4 : Int32) (x5 : Int32) : Option (Nat × Int32 × OI × RI × Option Nat × OI × RI × Option Nat) :=
  if (I 1) ≤ x5 then (some (0, x4, Iq, Rq, cmq, Ic, Rc, cmc)) else (ob1 (f_X2_isSameIn Iq Rq cmq Ic Rc cmc x5) (fun r7 => if r7 = 0 then (ol (x4 + Int32.ofInt 1) (fun v9 => ol (x5 + Int32.ofInt 1) (fun v10 => k47 Iq Rq cmq Ic Rc cmc v9 v10))) else (ol (x5 + Int32.ofInt 1) (fun v8 => k47 Iq Rq cmq Ic Rc cmc x4 v8))))
set_option maxHeartbeats 4000000 in
set_option maxRecDepth 100000 in
def f_X5_changed_l47 (N : Nat) (AL : List Nat) (I : OI) (R : RI) (ta : Int32) (ea : Option Nat) (wa : OO) (AI : Nat → OI) (AR : Nat → OO) : Nat → OI → RI → Option Nat → OI → RI → Option Nat → Int32 → Int32 → Option (Nat × Int32 × OI × RI × Option Nat × OI × RI × Option Nat)
  | 0 => fun _ _ _ _ _ _ _ _ => none
  | n9 + 1 => f_X5_changed_l47b N AL I R ta ea wa AI AR (f_X5_changed_l47 N AL I R ta ea wa AI AR n9)
def f_X5_changed (N : Nat) (AL : List Nat) (I : OI) (R : RI) (ta : Int32) (ea : Option Nat) (wa : OO) (AI : Nat → OI) (AR : Nat → OO) (Iq : OI) (Rq : RI) (cmq : Option Nat) (Ic : OI) (Rc : RI) (cmc : Option Nat) (x1 : Int32) (x2 : Int32) (x3 : Int32) : Option (Nat × Int32 × OI × RI × Option Nat × OI × RI × Option Nat) :=
  obc (f_X5_requireDay I R x1) (fun k9 => (k9, 0, Iq, Rq, cmq, Ic, Rc, cmc)) (obc (f_X5_requireDay I R x2) (fun k9 => (k9, 0, Iq, Rq, cmq, Ic, Rc, cmc)) (obc (f_X5_requireDay I R x3) (fun k9 => (k9, 0, Iq, Rq, cmq, Ic, Rc, cmc)) (ob3 (f_X2_find N AL ta ea wa AI AR Iq Rq cmq x1 x2) (fun Iq1 Rq2 cmq3 => ob3 (f_X2_find N AL ta ea wa AI AR Ic Rc cmc x1 x3) (fun Ic4 Rc5 cmc6 => f_X5_changed_l47 N AL I R ta ea wa AI AR N Iq1 Rq2 cmq3 Ic4 Rc5 cmc6 0 0)))))
abbrev rmX5_changed : Room := { frames := 8, cells := 3, slots := 18, locals := 133 }
theorem in_X5_changed_X5 : ∀ w ∈ u_ws RX5 TX5 11, w ∈ wsX5_changed := in_of 104 rfl
theorem hy_X5_changed : yX5_changed.cls ≠ "java/lang/invoke/MethodHandle" ∧ yX5_changed.cls ≠ "java/lang/invoke/VarHandle" ∧ (parseMethodDescriptor yX5_changed.desc).map (fun d => d.parameters.length) = some 3 := by decide +kernel
theorem hyV_X5_changed : yX5_changed.cls = RX5 ∧ yX5_changed.cls ≠ "java/lang/invoke/MethodHandle" ∧ yX5_changed.cls ≠ "java/lang/invoke/VarHandle" ∧ (parseMethodDescriptor yX5_changed.desc).map (fun d => d.parameters.length) = some 3 := ⟨rfl, hy_X5_changed⟩
set_option maxHeartbeats 8000000 in
set_option maxRecDepth 100000 in
theorem c_X5_changed (l : Launch) (hl9 : l.stackTraces = false) (G : va_G) (cI cZ cQ cU cJ : ClassId) (N : Nat) (o : Nat) (ad : Nat → Nat) (rf : Nat → Nat) (I : OI) (R : RI) (ra : Nat) (ta : Int32) (ea : Option Nat) (wa : OO) (adq : Nat → Nat) (Iq : OI) (Rq : RI) (cmq : Option Nat) (adc : Nat → Nat) (Ic : OI) (Rc : RI) (cmc : Option Nat) (AL : List Nat) (AI : Nat → OI) (AR : Nat → OO) (x1 : Int32) (x2 : Int32) (x3 : Int32) (out : Nat × Int32 × OI × RI × Option Nat × OI × RI × Option Nat) (hf : f_X5_changed N AL I R ta ea wa AI AR Iq Rq cmq Ic Rc cmc x1 x2 x3 = some out) : ConX l yX5_changed wsX5_changed rmX5_changed G vwCl (tys cI cZ cQ cU cJ) nws strs [.ref o, .int x1, .int x2, .int x3] (pf [xW cI cZ o ad I R rf, aW cQ (rf 0) ra ta ea wa, lW cI cZ (rf 2) adq Iq Rq cmq, lW cI cZ (rf 3) adc Ic Rc cmc, pW AL AI AR]) (fun k' r M' => k' = out.1 ∧ (k' = 0 → r = some (.int out.2.1)) ∧ M' = pf [xW cI cZ o ad I R rf, aW cQ (rf 0) ra ta ea wa, lW cI cZ (rf 2) adq out.2.2.1 out.2.2.2.1 out.2.2.2.2.1, lW cI cZ (rf 3) adc out.2.2.2.2.2.1 out.2.2.2.2.2.2.1 out.2.2.2.2.2.2.2, pW AL AI AR]) := by
  refine conX_of (Qf := fun (o9 : Nat × Int32 × OI × RI × Option Nat × OI × RI × Option Nat) below A args s t9 => QP below G vwCl A args s rmX5_changed.cells rmX5_changed.slots ((fun (out : Nat × Int32 × OI × RI × Option Nat × OI × RI × Option Nat) (k' : Nat) (r : Option Value) (M' : va_W) => k' = out.1 ∧ (k' = 0 → r = some (.int out.2.1)) ∧ M' = pf [xW cI cZ o ad I R rf, aW cQ (rf 0) ra ta ea wa, lW cI cZ (rf 2) adq out.2.2.1 out.2.2.2.1 out.2.2.2.2.1, lW cI cZ (rf 3) adc out.2.2.2.2.2.1 out.2.2.2.2.2.2.1 out.2.2.2.2.2.2.2, pW AL AI AR]) o9) t9) (maxL := 6) (own := RX5) hl9 rfl (by decide +kernel) rfl (Nat.le_of_ble_eq_true rfl) (fun _ _ _ _ _ h9 => h9) ?_ hf
  intro p e s m args below meth c A CX hret hE
  have C := CX.1
  have j47 : ∀ (n9 : Nat) (Iq : OI) (Rq : RI) (cmq : Option Nat) (Ic : OI) (Rc : RI) (cmc : Option Nat) (x4 : Int32) (x5 : Int32), VJ p l e rmX5_changed s m args below meth c 6 G vwCl A (fun (o9 : Nat × Int32 × OI × RI × Option Nat × OI × RI × Option Nat) (t9 : State) => QP below G vwCl A args s rmX5_changed.cells rmX5_changed.slots ((fun (out : Nat × Int32 × OI × RI × Option Nat × OI × RI × Option Nat) (k' : Nat) (r : Option Value) (M' : va_W) => k' = out.1 ∧ (k' = 0 → r = some (.int out.2.1)) ∧ M' = pf [xW cI cZ o ad I R rf, aW cQ (rf 0) ra ta ea wa, lW cI cZ (rf 2) adq out.2.2.1 out.2.2.2.1 out.2.2.2.2.1, lW cI cZ (rf 3) adc out.2.2.2.2.2.1 out.2.2.2.2.2.2.1 out.2.2.2.2.2.2.2, pW AL AI AR]) o9) t9) 3 18 (f_X5_changed_l47 N AL I R ta ea wa AI AR  n9 Iq Rq cmq Ic Rc cmc x4 x5) (pf [xW cI cZ o ad I R rf, aW cQ (rf 0) ra ta ea wa, lW cI cZ (rf 2) adq Iq Rq cmq, lW cI cZ (rf 3) adc Ic Rc cmc, pW AL AI AR]) 47 [(0, .ref o), (4, .int x4), (5, .int x5)] [] := by
    intro  n9
    induction n9 with
    | zero => intro Iq Rq cmq Ic Rc cmc x4 x5; exact VJ.fnone rfl
    | succ n9 i47 =>
      intro Iq Rq cmq Ic Rc cmc x4 x5
      refine VJ.eqf (f' := f_X5_changed_l47b N AL I R ta ea wa AI AR  (f_X5_changed_l47 N AL I R ta ea wa AI AR  n9) Iq Rq cmq Ic Rc cmc x4 x5) rfl ?_
      generalize f_X5_changed_l47 N AL I R ta ea wa AI AR  n9 = k47 at i47 ⊢
      unfold f_X5_changed_l47b
      refine VJ.iload C 2 dX5_changed_47 rfl ?_
      refine VJ.aload_n C 0 dX5_changed_49 rfl ?_
      refine VJ.get (C0 := RX5) (T := TX5) (N := 11) (ci := 5) C in_X5_changed_X5 0 rfl rfl 9 (Nat.le_of_ble_eq_true rfl) (C.1.2.2.2.2 _ (List.mem_of_getElem? (i := 4) rfl)) (fun _ h9 => h9) (v := .int (I 1)) rfl dX5_changed_50 ?_
      refine VJ.icmp_ge C 81 dX5_changed_53 (by decide) (fun _ => ?_) (fun _ => ?_)
      · refine VJ.iload C 1 dX5_changed_81 rfl ?_
        exact VJ.iretP C rmX5_changed.cells rmX5_changed.slots (fun _ h9 => h9) ⟨rfl, fun _ => rfl, rfl⟩ hret (Nat.le_of_ble_eq_true rfl) (Nat.le_of_ble_eq_true rfl) dX5_changed_83
      · refine VJ.aload_n C 0 dX5_changed_56 rfl ?_
        refine VJ.get (C0 := RX5) (T := TX5) (N := 11) (ci := 5) C in_X5_changed_X5 0 rfl rfl 2 (Nat.le_of_ble_eq_true rfl) (C.1.2.2.2.2 _ (List.mem_of_getElem? (i := 1) rfl)) (fun _ h9 => h9) (v := .ref (rf 2)) rfl dX5_changed_57 ?_
        refine VJ.aload_n C 0 dX5_changed_60 rfl ?_
        refine VJ.get (C0 := RX5) (T := TX5) (N := 11) (ci := 5) C in_X5_changed_X5 0 rfl rfl 3 (Nat.le_of_ble_eq_true rfl) (C.1.2.2.2.2 _ (List.mem_of_getElem? (i := 3) rfl)) (fun _ h9 => h9) (v := .ref (rf 3)) rfl dX5_changed_61 ?_
        refine VJ.iload C 2 dX5_changed_64 rfl ?_
        refine VJ.callVN1 C [.ref (rf 3), .int x5] (pf [lW cI cZ (rf 2) adq Iq Rq cmq, lW cI cZ (rf 3) adc Ic Rc cmc]) (pf [xW cI cZ o ad I R rf, aW cQ (rf 0) ra ta ea wa, pW AL AI AR]) (fun r7 => some (.int r7)) (fun r7 => pf [lW cI cZ (rf 2) adq Iq Rq cmq, lW cI cZ (rf 3) adc Ic Rc cmc]) (fun r7 => pf [xW cI cZ o ad I R rf, aW cQ (rf 0) ra ta ea wa, lW cI cZ (rf 2) adq Iq Rq cmq, lW cI cZ (rf 3) adc Ic Rc cmc, pW AL AI AR]) (fun r7 => [.int r7]) 3 18 (fun _ h9 => c_X2_isSameIn l G cI cZ cQ cU cJ (rf 2) adq Iq Rq cmq (rf 3) adc Ic Rc cmc x5 _ h9) (vj_pf 5 [2, 3, 0, 1, 4] rfl rfl dp_2_3_0_1_4) (fun _ => (vj_pf 5 [2, 3, 0, 1, 4] rfl rfl dp_2_3_0_1_4).symm) 0 rfl rfl (⟨va_cnB 2 C.1.2.2.2.2 gX5_changed_X2_isSameIn_n168 rfl rfl rfl (C.nestM (List.mem_of_getElem? (i := 49) rfl)) (C.1.2.2.2.2 _ (List.mem_of_getElem? (i := 17) rfl)) hy_X2_isSameIn ⟨Nat.le_of_ble_eq_true rfl, Nat.le_of_ble_eq_true rfl⟩, (C.1.2.2.2.2 _ (List.mem_of_getElem? (i := 101) rfl)), (C.1.2.2.2.2 _ (List.mem_of_getElem? (i := 102) rfl))⟩) rfl rfl (fun _ => rfl) (Nat.le_of_ble_eq_true rfl) dX5_changed_66 ⟨Nat.le_of_ble_eq_true rfl, Nat.le_of_ble_eq_true rfl⟩ ⟨rfl, rfl⟩ (fun r7 => ?_)
        refine VJ.if_ne C 75 dX5_changed_69 (by decide) (fun _ => ?_) (fun _ => ?_)
        · refine VJ.iincN C 2 (fun v8 => [(5, .int v8), (0, .ref o), (4, .int x4)]) dX5_changed_75 rfl (Nat.le_of_ble_eq_true rfl) (fun _ => rfl) (fun v8 => ?_)
          refine VJ.goto C 47 dX5_changed_78 (by decide) ?_
          refine VJ.sub [1, 2, 0] rfl ?_
          exact i47 Iq Rq cmq Ic Rc cmc x4 v8
        · refine VJ.iincN C 1 (fun v9 => [(4, .int v9), (0, .ref o), (5, .int x5)]) dX5_changed_72 rfl (Nat.le_of_ble_eq_true rfl) (fun _ => rfl) (fun v9 => ?_)
          refine VJ.iincN C 2 (fun v10 => [(5, .int v10), (4, .int v9), (0, .ref o)]) dX5_changed_75 rfl (Nat.le_of_ble_eq_true rfl) (fun _ => rfl) (fun v10 => ?_)
          refine VJ.goto C 47 dX5_changed_78 (by decide) ?_
          refine VJ.sub [2, 1, 0] rfl ?_
          exact i47 Iq Rq cmq Ic Rc cmc v9 v10
  unfold f_X5_changed
  refine VJ.aload_n C 0 dX5_changed_0 rfl ?_
  refine VJ.iload_n C 1 dX5_changed_1 rfl ?_
  refine VJ.reqV (T := (fun k9 => (k9, 0, Iq, Rq, cmq, Ic, Rc, cmc))) (P := fun k9 => (fun (out : Nat × Int32 × OI × RI × Option Nat × OI × RI × Option Nat) (k' : Nat) (r : Option Value) (M' : va_W) => k' = out.1 ∧ (k' = 0 → r = some (.int out.2.1)) ∧ M' = pf [xW cI cZ o ad I R rf, aW cQ (rf 0) ra ta ea wa, lW cI cZ (rf 2) adq out.2.2.1 out.2.2.2.1 out.2.2.2.2.1, lW cI cZ (rf 3) adc out.2.2.2.2.2.1 out.2.2.2.2.2.2.1 out.2.2.2.2.2.2.2, pW AL AI AR]) (k9, 0, Iq, Rq, cmq, Ic, Rc, cmc)) CX [.int x1] (pf [xW cI cZ o ad I R rf]) (pf [aW cQ (rf 0) ra ta ea wa, lW cI cZ (rf 2) adq Iq Rq cmq, lW cI cZ (rf 3) adc Ic Rc cmc, pW AL AI AR]) 1 6 rmX5_changed.cells rmX5_changed.slots hE (fun _ h9 => c_X5_requireDay l hl9 G cI cZ cQ cU cJ o ad rf I R x1 _ h9) (vj_pf 5 [0, 1, 2, 3, 4] rfl rfl dp_0_1_2_3_4) 0 rfl rfl (cwV 1 C.1.2.2.2.2 gX5_changed_X5_requireDay rfl rfl rfl hyV_X5_requireDay ⟨Nat.le_of_ble_eq_true rfl, Nat.le_of_ble_eq_true rfl⟩) rfl rfl (Nat.le_of_ble_eq_true rfl) dX5_changed_2 ⟨Nat.le_of_ble_eq_true rfl, Nat.le_of_ble_eq_true rfl⟩ ⟨rfl, rfl⟩ ⟨Nat.le_of_ble_eq_true rfl, Nat.le_of_ble_eq_true rfl⟩ (fun _ _ h9 => h9) (fun _ => ⟨rfl, fun h9 => absurd h9 (Nat.succ_ne_zero _), rfl⟩) ?_
  refine VJ.aload_n C 0 dX5_changed_5 rfl ?_
  refine VJ.iload_n C 2 dX5_changed_6 rfl ?_
  refine VJ.reqV (T := (fun k9 => (k9, 0, Iq, Rq, cmq, Ic, Rc, cmc))) (P := fun k9 => (fun (out : Nat × Int32 × OI × RI × Option Nat × OI × RI × Option Nat) (k' : Nat) (r : Option Value) (M' : va_W) => k' = out.1 ∧ (k' = 0 → r = some (.int out.2.1)) ∧ M' = pf [xW cI cZ o ad I R rf, aW cQ (rf 0) ra ta ea wa, lW cI cZ (rf 2) adq out.2.2.1 out.2.2.2.1 out.2.2.2.2.1, lW cI cZ (rf 3) adc out.2.2.2.2.2.1 out.2.2.2.2.2.2.1 out.2.2.2.2.2.2.2, pW AL AI AR]) (k9, 0, Iq, Rq, cmq, Ic, Rc, cmc)) CX [.int x2] (pf [xW cI cZ o ad I R rf]) (pf [aW cQ (rf 0) ra ta ea wa, lW cI cZ (rf 2) adq Iq Rq cmq, lW cI cZ (rf 3) adc Ic Rc cmc, pW AL AI AR]) 2 12 rmX5_changed.cells rmX5_changed.slots hE (fun _ h9 => c_X5_requireDay l hl9 G cI cZ cQ cU cJ o ad rf I R x2 _ h9) (vj_pf 5 [0, 1, 2, 3, 4] rfl rfl dp_0_1_2_3_4) 0 rfl rfl (cwV 1 C.1.2.2.2.2 gX5_changed_X5_requireDay rfl rfl rfl hyV_X5_requireDay ⟨Nat.le_of_ble_eq_true rfl, Nat.le_of_ble_eq_true rfl⟩) rfl rfl (Nat.le_of_ble_eq_true rfl) dX5_changed_7 ⟨Nat.le_of_ble_eq_true rfl, Nat.le_of_ble_eq_true rfl⟩ ⟨rfl, rfl⟩ ⟨Nat.le_of_ble_eq_true rfl, Nat.le_of_ble_eq_true rfl⟩ (fun _ _ h9 => h9) (fun _ => ⟨rfl, fun h9 => absurd h9 (Nat.succ_ne_zero _), rfl⟩) ?_
  refine VJ.aload_n C 0 dX5_changed_10 rfl ?_
  refine VJ.iload_n C 3 dX5_changed_11 rfl ?_
  refine VJ.reqV (T := (fun k9 => (k9, 0, Iq, Rq, cmq, Ic, Rc, cmc))) (P := fun k9 => (fun (out : Nat × Int32 × OI × RI × Option Nat × OI × RI × Option Nat) (k' : Nat) (r : Option Value) (M' : va_W) => k' = out.1 ∧ (k' = 0 → r = some (.int out.2.1)) ∧ M' = pf [xW cI cZ o ad I R rf, aW cQ (rf 0) ra ta ea wa, lW cI cZ (rf 2) adq out.2.2.1 out.2.2.2.1 out.2.2.2.2.1, lW cI cZ (rf 3) adc out.2.2.2.2.2.1 out.2.2.2.2.2.2.1 out.2.2.2.2.2.2.2, pW AL AI AR]) (k9, 0, Iq, Rq, cmq, Ic, Rc, cmc)) CX [.int x3] (pf [xW cI cZ o ad I R rf]) (pf [aW cQ (rf 0) ra ta ea wa, lW cI cZ (rf 2) adq Iq Rq cmq, lW cI cZ (rf 3) adc Ic Rc cmc, pW AL AI AR]) 3 18 rmX5_changed.cells rmX5_changed.slots hE (fun _ h9 => c_X5_requireDay l hl9 G cI cZ cQ cU cJ o ad rf I R x3 _ h9) (vj_pf 5 [0, 1, 2, 3, 4] rfl rfl dp_0_1_2_3_4) 0 rfl rfl (cwV 1 C.1.2.2.2.2 gX5_changed_X5_requireDay rfl rfl rfl hyV_X5_requireDay ⟨Nat.le_of_ble_eq_true rfl, Nat.le_of_ble_eq_true rfl⟩) rfl rfl (Nat.le_of_ble_eq_true rfl) dX5_changed_12 ⟨Nat.le_of_ble_eq_true rfl, Nat.le_of_ble_eq_true rfl⟩ ⟨rfl, rfl⟩ ⟨Nat.le_of_ble_eq_true rfl, Nat.le_of_ble_eq_true rfl⟩ (fun _ _ h9 => h9) (fun _ => ⟨rfl, fun h9 => absurd h9 (Nat.succ_ne_zero _), rfl⟩) ?_
  refine VJ.aload_n C 0 dX5_changed_15 rfl ?_
  refine VJ.get (C0 := RX5) (T := TX5) (N := 11) (ci := 5) C in_X5_changed_X5 0 rfl rfl 2 (Nat.le_of_ble_eq_true rfl) (C.1.2.2.2.2 _ (List.mem_of_getElem? (i := 1) rfl)) (fun _ h9 => h9) (v := .ref (rf 2)) rfl dX5_changed_16 ?_
  refine VJ.aload_n C 0 dX5_changed_19 rfl ?_
  refine VJ.get (C0 := RX5) (T := TX5) (N := 11) (ci := 5) C in_X5_changed_X5 0 rfl rfl 0 (Nat.le_of_ble_eq_true rfl) (C.1.2.2.2.2 _ (List.mem_of_getElem? (i := 2) rfl)) (fun _ h9 => h9) (v := .ref (rf 0)) rfl dX5_changed_20 ?_
  refine VJ.iload_n C 1 dX5_changed_23 rfl ?_
  refine VJ.iload_n C 2 dX5_changed_24 rfl ?_
  refine VJ.callVN3 C [.ref (rf 0), .int x1, .int x2] (pf [lW cI cZ (rf 2) adq Iq Rq cmq, aW cQ (rf 0) ra ta ea wa, pW AL AI AR]) (pf [xW cI cZ o ad I R rf, lW cI cZ (rf 3) adc Ic Rc cmc]) (fun Iq1 Rq2 cmq3 => none) (fun Iq1 Rq2 cmq3 => pf [lW cI cZ (rf 2) adq Iq1 Rq2 cmq3, aW cQ (rf 0) ra ta ea wa, pW AL AI AR]) (fun Iq1 Rq2 cmq3 => pf [xW cI cZ o ad I R rf, aW cQ (rf 0) ra ta ea wa, lW cI cZ (rf 2) adq Iq1 Rq2 cmq3, lW cI cZ (rf 3) adc Ic Rc cmc, pW AL AI AR]) (fun Iq1 Rq2 cmq3 => []) 3 18 (fun _ h9 => c_X2_find l G cI cZ cQ cU cJ N (rf 2) adq Iq Rq cmq (rf 0) ra ta ea wa AL AI AR x1 x2 _ h9) (vj_pf 5 [2, 1, 4, 0, 3] rfl rfl dp_2_1_4_0_3) (fun _ _ _ => (vj_pf 5 [2, 1, 4, 0, 3] rfl rfl dp_2_1_4_0_3).symm) 0 rfl rfl (⟨va_cnB 3 C.1.2.2.2.2 gX5_changed_X2_find_n54 rfl rfl rfl (C.nestM (List.mem_of_getElem? (i := 31) rfl)) (C.1.2.2.2.2 _ (List.mem_of_getElem? (i := 17) rfl)) hy_X2_find ⟨Nat.le_of_ble_eq_true rfl, Nat.le_of_ble_eq_true rfl⟩, (C.1.2.2.2.2 _ (List.mem_of_getElem? (i := 16) rfl)), (C.1.2.2.2.2 _ (List.mem_of_getElem? (i := 18) rfl))⟩) rfl rfl (fun _ _ _ => rfl) (Nat.le_of_ble_eq_true rfl) dX5_changed_25 ⟨Nat.le_of_ble_eq_true rfl, Nat.le_of_ble_eq_true rfl⟩ ⟨rfl, rfl⟩ (fun Iq1 Rq2 cmq3 => ?_)
  refine VJ.aload_n C 0 dX5_changed_28 rfl ?_
  refine VJ.get (C0 := RX5) (T := TX5) (N := 11) (ci := 5) C in_X5_changed_X5 0 rfl rfl 3 (Nat.le_of_ble_eq_true rfl) (C.1.2.2.2.2 _ (List.mem_of_getElem? (i := 3) rfl)) (fun _ h9 => h9) (v := .ref (rf 3)) rfl dX5_changed_29 ?_
  refine VJ.aload_n C 0 dX5_changed_32 rfl ?_
  refine VJ.get (C0 := RX5) (T := TX5) (N := 11) (ci := 5) C in_X5_changed_X5 0 rfl rfl 0 (Nat.le_of_ble_eq_true rfl) (C.1.2.2.2.2 _ (List.mem_of_getElem? (i := 2) rfl)) (fun _ h9 => h9) (v := .ref (rf 0)) rfl dX5_changed_33 ?_
  refine VJ.iload_n C 1 dX5_changed_36 rfl ?_
  refine VJ.iload_n C 3 dX5_changed_37 rfl ?_
  refine VJ.callVN3 C [.ref (rf 0), .int x1, .int x3] (pf [lW cI cZ (rf 3) adc Ic Rc cmc, aW cQ (rf 0) ra ta ea wa, pW AL AI AR]) (pf [xW cI cZ o ad I R rf, lW cI cZ (rf 2) adq Iq1 Rq2 cmq3]) (fun Ic4 Rc5 cmc6 => none) (fun Ic4 Rc5 cmc6 => pf [lW cI cZ (rf 3) adc Ic4 Rc5 cmc6, aW cQ (rf 0) ra ta ea wa, pW AL AI AR]) (fun Ic4 Rc5 cmc6 => pf [xW cI cZ o ad I R rf, aW cQ (rf 0) ra ta ea wa, lW cI cZ (rf 2) adq Iq1 Rq2 cmq3, lW cI cZ (rf 3) adc Ic4 Rc5 cmc6, pW AL AI AR]) (fun Ic4 Rc5 cmc6 => []) 3 18 (fun _ h9 => c_X2_find l G cI cZ cQ cU cJ N (rf 3) adc Ic Rc cmc (rf 0) ra ta ea wa AL AI AR x1 x3 _ h9) (vj_pf 5 [3, 1, 4, 0, 2] rfl rfl dp_3_1_4_0_2) (fun _ _ _ => (vj_pf 5 [3, 1, 4, 0, 2] rfl rfl dp_3_1_4_0_2).symm) 0 rfl rfl (⟨va_cnB 3 C.1.2.2.2.2 gX5_changed_X2_find_n54 rfl rfl rfl (C.nestM (List.mem_of_getElem? (i := 31) rfl)) (C.1.2.2.2.2 _ (List.mem_of_getElem? (i := 17) rfl)) hy_X2_find ⟨Nat.le_of_ble_eq_true rfl, Nat.le_of_ble_eq_true rfl⟩, (C.1.2.2.2.2 _ (List.mem_of_getElem? (i := 16) rfl)), (C.1.2.2.2.2 _ (List.mem_of_getElem? (i := 18) rfl))⟩) rfl rfl (fun _ _ _ => rfl) (Nat.le_of_ble_eq_true rfl) dX5_changed_38 ⟨Nat.le_of_ble_eq_true rfl, Nat.le_of_ble_eq_true rfl⟩ ⟨rfl, rfl⟩ (fun Ic4 Rc5 cmc6 => ?_)
  refine VJ.iconst (v := 0) C dX5_changed_41 (by decide) ?_
  refine VJ.istore C [(4, .int 0), (0, .ref o), (1, .int x1), (2, .int x2), (3, .int x3)] dX5_changed_42 (Nat.le_of_ble_eq_true rfl) rfl ?_
  refine VJ.iconst (v := 0) C dX5_changed_44 (by decide) ?_
  refine VJ.istore C [(5, .int 0), (4, .int 0), (0, .ref o), (1, .int x1), (2, .int x2), (3, .int x3)] dX5_changed_45 (Nat.le_of_ble_eq_true rfl) rfl ?_
  refine VJ.sub [2, 1, 0] rfl ?_
  exact j47 N Iq1 Rq2 cmq3 Ic4 Rc5 cmc6 0 0

def f_X5_origin (I : OI) (R : RI) (Ik : OI) (Rk : RI) (cmk : Option Nat) (x1 : Int32) (x2 : Int32) : Option (Nat × Int32) :=
  obc (f_X5_requirePerson I R x1) (fun k9 => (k9, 0)) (obc (f_X5_requirePersonOrNone I R x2) (fun k9 => (k9, 0)) (ob1 (f_X2_originFor Ik Rk cmk x1 x2) (fun r1 => some (0, r1))))
abbrev rmX5_origin : Room := { frames := 8, cells := 2, slots := 12, locals := 132 }
theorem in_X5_origin_X5 : ∀ w ∈ u_ws RX5 TX5 11, w ∈ wsX5_origin := in_of 26 rfl
theorem hy_X5_origin : yX5_origin.cls ≠ "java/lang/invoke/MethodHandle" ∧ yX5_origin.cls ≠ "java/lang/invoke/VarHandle" ∧ (parseMethodDescriptor yX5_origin.desc).map (fun d => d.parameters.length) = some 2 := by decide +kernel
theorem hyV_X5_origin : yX5_origin.cls = RX5 ∧ yX5_origin.cls ≠ "java/lang/invoke/MethodHandle" ∧ yX5_origin.cls ≠ "java/lang/invoke/VarHandle" ∧ (parseMethodDescriptor yX5_origin.desc).map (fun d => d.parameters.length) = some 2 := ⟨rfl, hy_X5_origin⟩
set_option maxHeartbeats 8000000 in
set_option maxRecDepth 100000 in
theorem c_X5_origin (l : Launch) (hl9 : l.stackTraces = false) (G : va_G) (cI cZ cQ cU cJ : ClassId) (o : Nat) (ad : Nat → Nat) (rf : Nat → Nat) (I : OI) (R : RI) (adk : Nat → Nat) (Ik : OI) (Rk : RI) (cmk : Option Nat) (x1 : Int32) (x2 : Int32) (out : Nat × Int32) (hf : f_X5_origin I R Ik Rk cmk x1 x2 = some out) : ConX l yX5_origin wsX5_origin rmX5_origin G vwCl (tys cI cZ cQ cU cJ) nws strs [.ref o, .int x1, .int x2] (pf [xW cI cZ o ad I R rf, lW cI cZ (rf 1) adk Ik Rk cmk]) (fun k' r M' => k' = out.1 ∧ (k' = 0 → r = some (.int out.2)) ∧ M' = pf [xW cI cZ o ad I R rf, lW cI cZ (rf 1) adk Ik Rk cmk]) := by
  refine conX_of (Qf := fun (o9 : Nat × Int32) below A args s t9 => QP below G vwCl A args s rmX5_origin.cells rmX5_origin.slots ((fun (out : Nat × Int32) (k' : Nat) (r : Option Value) (M' : va_W) => k' = out.1 ∧ (k' = 0 → r = some (.int out.2)) ∧ M' = pf [xW cI cZ o ad I R rf, lW cI cZ (rf 1) adk Ik Rk cmk]) o9) t9) (maxL := 3) (own := RX5) hl9 rfl (by decide +kernel) rfl (Nat.le_of_ble_eq_true rfl) (fun _ _ _ _ _ h9 => h9) ?_ hf
  intro p e s m args below meth c A CX hret hE
  have C := CX.1
  unfold f_X5_origin
  refine VJ.aload_n C 0 dX5_origin_0 rfl ?_
  refine VJ.iload_n C 1 dX5_origin_1 rfl ?_
  refine VJ.reqV (T := (fun k9 => (k9, 0))) (P := fun k9 => (fun (out : Nat × Int32) (k' : Nat) (r : Option Value) (M' : va_W) => k' = out.1 ∧ (k' = 0 → r = some (.int out.2)) ∧ M' = pf [xW cI cZ o ad I R rf, lW cI cZ (rf 1) adk Ik Rk cmk]) (k9, 0)) CX [.int x1] (pf [xW cI cZ o ad I R rf]) (pf [lW cI cZ (rf 1) adk Ik Rk cmk]) 1 6 rmX5_origin.cells rmX5_origin.slots hE (fun _ h9 => c_X5_requirePerson l hl9 G cI cZ cQ cU cJ o ad rf I R x1 _ h9) (vj_pf 2 [0, 1] rfl rfl dp_0_1) 0 rfl rfl (cwV 1 C.1.2.2.2.2 gX5_origin_X5_requirePerson rfl rfl rfl hyV_X5_requirePerson ⟨Nat.le_of_ble_eq_true rfl, Nat.le_of_ble_eq_true rfl⟩) rfl rfl (Nat.le_of_ble_eq_true rfl) dX5_origin_2 ⟨Nat.le_of_ble_eq_true rfl, Nat.le_of_ble_eq_true rfl⟩ ⟨rfl, rfl⟩ ⟨Nat.le_of_ble_eq_true rfl, Nat.le_of_ble_eq_true rfl⟩ (fun _ _ h9 => h9) (fun _ => ⟨rfl, fun h9 => absurd h9 (Nat.succ_ne_zero _), rfl⟩) ?_
  refine VJ.aload_n C 0 dX5_origin_5 rfl ?_
  refine VJ.iload_n C 2 dX5_origin_6 rfl ?_
  refine VJ.reqV (T := (fun k9 => (k9, 0))) (P := fun k9 => (fun (out : Nat × Int32) (k' : Nat) (r : Option Value) (M' : va_W) => k' = out.1 ∧ (k' = 0 → r = some (.int out.2)) ∧ M' = pf [xW cI cZ o ad I R rf, lW cI cZ (rf 1) adk Ik Rk cmk]) (k9, 0)) CX [.int x2] (pf [xW cI cZ o ad I R rf]) (pf [lW cI cZ (rf 1) adk Ik Rk cmk]) 2 12 rmX5_origin.cells rmX5_origin.slots hE (fun _ h9 => c_X5_requirePersonOrNone l hl9 G cI cZ cQ cU cJ o ad rf I R x2 _ h9) (vj_pf 2 [0, 1] rfl rfl dp_0_1) 0 rfl rfl (cwV 1 C.1.2.2.2.2 gX5_origin_X5_requirePersonOrNone rfl rfl rfl hyV_X5_requirePersonOrNone ⟨Nat.le_of_ble_eq_true rfl, Nat.le_of_ble_eq_true rfl⟩) rfl rfl (Nat.le_of_ble_eq_true rfl) dX5_origin_7 ⟨Nat.le_of_ble_eq_true rfl, Nat.le_of_ble_eq_true rfl⟩ ⟨rfl, rfl⟩ ⟨Nat.le_of_ble_eq_true rfl, Nat.le_of_ble_eq_true rfl⟩ (fun _ _ h9 => h9) (fun _ => ⟨rfl, fun h9 => absurd h9 (Nat.succ_ne_zero _), rfl⟩) ?_
  refine VJ.aload_n C 0 dX5_origin_10 rfl ?_
  refine VJ.get (C0 := RX5) (T := TX5) (N := 11) (ci := 5) C in_X5_origin_X5 0 rfl rfl 1 (Nat.le_of_ble_eq_true rfl) (C.1.2.2.2.2 _ (List.mem_of_getElem? (i := 1) rfl)) (fun _ h9 => h9) (v := .ref (rf 1)) rfl dX5_origin_11 ?_
  refine VJ.iload_n C 1 dX5_origin_14 rfl ?_
  refine VJ.iload_n C 2 dX5_origin_15 rfl ?_
  refine VJ.callVN1 C [.int x1, .int x2] (pf [lW cI cZ (rf 1) adk Ik Rk cmk]) (pf [xW cI cZ o ad I R rf]) (fun r1 => some (.int r1)) (fun r1 => pf [lW cI cZ (rf 1) adk Ik Rk cmk]) (fun r1 => pf [xW cI cZ o ad I R rf, lW cI cZ (rf 1) adk Ik Rk cmk]) (fun r1 => [.int r1]) 2 12 (fun _ h9 => c_X2_originFor l G cI cZ cQ cU cJ (rf 1) adk Ik Rk cmk x1 x2 _ h9) (vj_pf 2 [1, 0] rfl rfl dp_1_0) (fun _ => (vj_pf 2 [1, 0] rfl rfl dp_1_0).symm) 0 rfl rfl (⟨va_cnB 2 C.1.2.2.2.2 gX5_origin_X2_originFor_n172 rfl rfl rfl (C.nestM (List.mem_of_getElem? (i := 50) rfl)) (C.1.2.2.2.2 _ (List.mem_of_getElem? (i := 15) rfl)) hy_X2_originFor ⟨Nat.le_of_ble_eq_true rfl, Nat.le_of_ble_eq_true rfl⟩, (C.1.2.2.2.2 _ (List.mem_of_getElem? (i := 14) rfl)), (C.1.2.2.2.2 _ (List.mem_of_getElem? (i := 16) rfl))⟩) rfl rfl (fun _ => rfl) (Nat.le_of_ble_eq_true rfl) dX5_origin_16 ⟨Nat.le_of_ble_eq_true rfl, Nat.le_of_ble_eq_true rfl⟩ ⟨rfl, rfl⟩ (fun r1 => ?_)
  exact VJ.iretP C rmX5_origin.cells rmX5_origin.slots (fun _ h9 => h9) ⟨rfl, fun _ => rfl, rfl⟩ hret (Nat.le_of_ble_eq_true rfl) (Nat.le_of_ble_eq_true rfl) dX5_origin_19

def f_X5_likeness (I : OI) (R : RI) (Ik : OI) (Rk : RI) (cmk : Option Nat) (x1 : Int32) (x2 : Int32) : Option (Nat × Int32) :=
  obc (f_X5_requirePerson I R x1) (fun k9 => (k9, 0)) (obc (f_X5_requirePerson I R x2) (fun k9 => (k9, 0)) (obc (f_X5_requireUnlike x1 x2) (fun k9 => (k9, 0)) (ob1 (f_X2_countLikeness Ik Rk cmk x1 x2) (fun r1 => some (0, r1)))))
abbrev rmX5_likeness : Room := { frames := 7, cells := 3, slots := 18, locals := 111 }
theorem in_X5_likeness_X5 : ∀ w ∈ u_ws RX5 TX5 11, w ∈ wsX5_likeness := in_of 41 rfl
theorem hy_X5_likeness : yX5_likeness.cls ≠ "java/lang/invoke/MethodHandle" ∧ yX5_likeness.cls ≠ "java/lang/invoke/VarHandle" ∧ (parseMethodDescriptor yX5_likeness.desc).map (fun d => d.parameters.length) = some 2 := by decide +kernel
theorem hyV_X5_likeness : yX5_likeness.cls = RX5 ∧ yX5_likeness.cls ≠ "java/lang/invoke/MethodHandle" ∧ yX5_likeness.cls ≠ "java/lang/invoke/VarHandle" ∧ (parseMethodDescriptor yX5_likeness.desc).map (fun d => d.parameters.length) = some 2 := ⟨rfl, hy_X5_likeness⟩
set_option maxHeartbeats 8000000 in
set_option maxRecDepth 100000 in
theorem c_X5_likeness (l : Launch) (hl9 : l.stackTraces = false) (G : va_G) (cI cZ cQ cU cJ : ClassId) (o : Nat) (ad : Nat → Nat) (rf : Nat → Nat) (I : OI) (R : RI) (adk : Nat → Nat) (Ik : OI) (Rk : RI) (cmk : Option Nat) (x1 : Int32) (x2 : Int32) (out : Nat × Int32) (hf : f_X5_likeness I R Ik Rk cmk x1 x2 = some out) : ConX l yX5_likeness wsX5_likeness rmX5_likeness G vwCl (tys cI cZ cQ cU cJ) nws strs [.ref o, .int x1, .int x2] (pf [xW cI cZ o ad I R rf, lW cI cZ (rf 1) adk Ik Rk cmk]) (fun k' r M' => k' = out.1 ∧ (k' = 0 → r = some (.int out.2)) ∧ M' = pf [xW cI cZ o ad I R rf, lW cI cZ (rf 1) adk Ik Rk cmk]) := by
  refine conX_of (Qf := fun (o9 : Nat × Int32) below A args s t9 => QP below G vwCl A args s rmX5_likeness.cells rmX5_likeness.slots ((fun (out : Nat × Int32) (k' : Nat) (r : Option Value) (M' : va_W) => k' = out.1 ∧ (k' = 0 → r = some (.int out.2)) ∧ M' = pf [xW cI cZ o ad I R rf, lW cI cZ (rf 1) adk Ik Rk cmk]) o9) t9) (maxL := 3) (own := RX5) hl9 rfl (by decide +kernel) rfl (Nat.le_of_ble_eq_true rfl) (fun _ _ _ _ _ h9 => h9) ?_ hf
  intro p e s m args below meth c A CX hret hE
  have C := CX.1
  unfold f_X5_likeness
  refine VJ.aload_n C 0 dX5_likeness_0 rfl ?_
  refine VJ.iload_n C 1 dX5_likeness_1 rfl ?_
  refine VJ.reqV (T := (fun k9 => (k9, 0))) (P := fun k9 => (fun (out : Nat × Int32) (k' : Nat) (r : Option Value) (M' : va_W) => k' = out.1 ∧ (k' = 0 → r = some (.int out.2)) ∧ M' = pf [xW cI cZ o ad I R rf, lW cI cZ (rf 1) adk Ik Rk cmk]) (k9, 0)) CX [.int x1] (pf [xW cI cZ o ad I R rf]) (pf [lW cI cZ (rf 1) adk Ik Rk cmk]) 1 6 rmX5_likeness.cells rmX5_likeness.slots hE (fun _ h9 => c_X5_requirePerson l hl9 G cI cZ cQ cU cJ o ad rf I R x1 _ h9) (vj_pf 2 [0, 1] rfl rfl dp_0_1) 0 rfl rfl (cwV 1 C.1.2.2.2.2 gX5_likeness_X5_requirePerson rfl rfl rfl hyV_X5_requirePerson ⟨Nat.le_of_ble_eq_true rfl, Nat.le_of_ble_eq_true rfl⟩) rfl rfl (Nat.le_of_ble_eq_true rfl) dX5_likeness_2 ⟨Nat.le_of_ble_eq_true rfl, Nat.le_of_ble_eq_true rfl⟩ ⟨rfl, rfl⟩ ⟨Nat.le_of_ble_eq_true rfl, Nat.le_of_ble_eq_true rfl⟩ (fun _ _ h9 => h9) (fun _ => ⟨rfl, fun h9 => absurd h9 (Nat.succ_ne_zero _), rfl⟩) ?_
  refine VJ.aload_n C 0 dX5_likeness_5 rfl ?_
  refine VJ.iload_n C 2 dX5_likeness_6 rfl ?_
  refine VJ.reqV (T := (fun k9 => (k9, 0))) (P := fun k9 => (fun (out : Nat × Int32) (k' : Nat) (r : Option Value) (M' : va_W) => k' = out.1 ∧ (k' = 0 → r = some (.int out.2)) ∧ M' = pf [xW cI cZ o ad I R rf, lW cI cZ (rf 1) adk Ik Rk cmk]) (k9, 0)) CX [.int x2] (pf [xW cI cZ o ad I R rf]) (pf [lW cI cZ (rf 1) adk Ik Rk cmk]) 2 12 rmX5_likeness.cells rmX5_likeness.slots hE (fun _ h9 => c_X5_requirePerson l hl9 G cI cZ cQ cU cJ o ad rf I R x2 _ h9) (vj_pf 2 [0, 1] rfl rfl dp_0_1) 0 rfl rfl (cwV 1 C.1.2.2.2.2 gX5_likeness_X5_requirePerson rfl rfl rfl hyV_X5_requirePerson ⟨Nat.le_of_ble_eq_true rfl, Nat.le_of_ble_eq_true rfl⟩) rfl rfl (Nat.le_of_ble_eq_true rfl) dX5_likeness_7 ⟨Nat.le_of_ble_eq_true rfl, Nat.le_of_ble_eq_true rfl⟩ ⟨rfl, rfl⟩ ⟨Nat.le_of_ble_eq_true rfl, Nat.le_of_ble_eq_true rfl⟩ (fun _ _ h9 => h9) (fun _ => ⟨rfl, fun h9 => absurd h9 (Nat.succ_ne_zero _), rfl⟩) ?_
  refine VJ.iload_n C 1 dX5_likeness_10 rfl ?_
  refine VJ.iload_n C 2 dX5_likeness_11 rfl ?_
  refine VJ.reqS (T := (fun k9 => (k9, 0))) (P := fun k9 => (fun (out : Nat × Int32) (k' : Nat) (r : Option Value) (M' : va_W) => k' = out.1 ∧ (k' = 0 → r = some (.int out.2)) ∧ M' = pf [xW cI cZ o ad I R rf, lW cI cZ (rf 1) adk Ik Rk cmk]) (k9, 0)) CX [.int x1, .int x2] (pf []) (pf [xW cI cZ o ad I R rf, lW cI cZ (rf 1) adk Ik Rk cmk]) 3 18 rmX5_likeness.cells rmX5_likeness.slots hE (fun _ h9 => c_X5_requireUnlike l hl9 G cI cZ cQ cU cJ x1 x2 _ h9) (vj_pn _) (va_cwS 2 C.1.2.2.2.2 gX5_likeness_X5_requireUnlike rfl rfl rfl hy_X5_requireUnlike ⟨Nat.le_of_ble_eq_true rfl, Nat.le_of_ble_eq_true rfl⟩) rfl rfl (Nat.le_of_ble_eq_true rfl) dX5_likeness_12 ⟨Nat.le_of_ble_eq_true rfl, Nat.le_of_ble_eq_true rfl⟩ ⟨rfl, rfl⟩ ⟨Nat.le_of_ble_eq_true rfl, Nat.le_of_ble_eq_true rfl⟩ (fun _ _ h9 => h9) (fun _ => ⟨rfl, fun h9 => absurd h9 (Nat.succ_ne_zero _), rfl⟩) ?_
  refine VJ.aload_n C 0 dX5_likeness_15 rfl ?_
  refine VJ.get (C0 := RX5) (T := TX5) (N := 11) (ci := 5) C in_X5_likeness_X5 0 rfl rfl 1 (Nat.le_of_ble_eq_true rfl) (C.1.2.2.2.2 _ (List.mem_of_getElem? (i := 1) rfl)) (fun _ h9 => h9) (v := .ref (rf 1)) rfl dX5_likeness_16 ?_
  refine VJ.iload_n C 1 dX5_likeness_19 rfl ?_
  refine VJ.iload_n C 2 dX5_likeness_20 rfl ?_
  refine VJ.callVN1 C [.int x1, .int x2] (pf [lW cI cZ (rf 1) adk Ik Rk cmk]) (pf [xW cI cZ o ad I R rf]) (fun r1 => some (.int r1)) (fun r1 => pf [lW cI cZ (rf 1) adk Ik Rk cmk]) (fun r1 => pf [xW cI cZ o ad I R rf, lW cI cZ (rf 1) adk Ik Rk cmk]) (fun r1 => [.int r1]) 3 18 (fun _ h9 => c_X2_countLikeness l G cI cZ cQ cU cJ (rf 1) adk Ik Rk cmk x1 x2 _ h9) (vj_pf 2 [1, 0] rfl rfl dp_1_0) (fun _ => (vj_pf 2 [1, 0] rfl rfl dp_1_0).symm) 0 rfl rfl (⟨va_cnB 2 C.1.2.2.2.2 gX5_likeness_X2_countLikeness_n175 rfl rfl rfl (C.nestM (List.mem_of_getElem? (i := 52) rfl)) (C.1.2.2.2.2 _ (List.mem_of_getElem? (i := 16) rfl)) hy_X2_countLikeness ⟨Nat.le_of_ble_eq_true rfl, Nat.le_of_ble_eq_true rfl⟩, (C.1.2.2.2.2 _ (List.mem_of_getElem? (i := 15) rfl)), (C.1.2.2.2.2 _ (List.mem_of_getElem? (i := 17) rfl))⟩) rfl rfl (fun _ => rfl) (Nat.le_of_ble_eq_true rfl) dX5_likeness_21 ⟨Nat.le_of_ble_eq_true rfl, Nat.le_of_ble_eq_true rfl⟩ ⟨rfl, rfl⟩ (fun r1 => ?_)
  exact VJ.iretP C rmX5_likeness.cells rmX5_likeness.slots (fun _ h9 => h9) ⟨rfl, fun _ => rfl, rfl⟩ hret (Nat.le_of_ble_eq_true rfl) (Nat.le_of_ble_eq_true rfl) dX5_likeness_24

set_option maxHeartbeats 4000000 in
set_option maxRecDepth 100000 in
def f_X5_doubleOf_l7b (N : Nat) (I : OI) (R : RI) (Ik : OI) (Rk : RI) (cmk : Option Nat) (k7 : Int32 → Int32 → Option (Nat × Int32)) (x1 : Int32) (x2 : Int32) : Option (Nat × Int32) :=
  if (I 1) ≤ x2 then (some (0, (-1))) else (if x2 = x1 then (ol (x2 + Int32.ofInt 1) (fun v1 => k7 x1 v1)) else (ob1 (f_X2_countLikeness Ik Rk cmk x1 x2) (fun r2 => if r2 < 8 then (ol (x2 + Int32.ofInt 1) (fun v3 => k7 x1 v3)) else (some (0, x2)))))
set_option maxHeartbeats 4000000 in
set_option maxRecDepth 100000 in
def f_X5_doubleOf_l7 (N : Nat) (I : OI) (R : RI) (Ik : OI) (Rk : RI) (cmk : Option Nat) : Nat → Int32 → Int32 → Option (Nat × Int32)
  | 0 => fun _ _ => none
  | n9 + 1 => f_X5_doubleOf_l7b N I R Ik Rk cmk (f_X5_doubleOf_l7 N I R Ik Rk cmk n9)
def f_X5_doubleOf (N : Nat) (I : OI) (R : RI) (Ik : OI) (Rk : RI) (cmk : Option Nat) (x1 : Int32) : Option (Nat × Int32) :=
  obc (f_X5_requirePerson I R x1) (fun k9 => (k9, 0)) (f_X5_doubleOf_l7 N I R Ik Rk cmk N x1 0)
abbrev rmX5_doubleOf : Room := { frames := 7, cells := 1, slots := 6, locals := 111 }
theorem in_X5_doubleOf_X5 : ∀ w ∈ u_ws RX5 TX5 11, w ∈ wsX5_doubleOf := in_of 36 rfl
theorem hy_X5_doubleOf : yX5_doubleOf.cls ≠ "java/lang/invoke/MethodHandle" ∧ yX5_doubleOf.cls ≠ "java/lang/invoke/VarHandle" ∧ (parseMethodDescriptor yX5_doubleOf.desc).map (fun d => d.parameters.length) = some 1 := by decide +kernel
theorem hyV_X5_doubleOf : yX5_doubleOf.cls = RX5 ∧ yX5_doubleOf.cls ≠ "java/lang/invoke/MethodHandle" ∧ yX5_doubleOf.cls ≠ "java/lang/invoke/VarHandle" ∧ (parseMethodDescriptor yX5_doubleOf.desc).map (fun d => d.parameters.length) = some 1 := ⟨rfl, hy_X5_doubleOf⟩
set_option maxHeartbeats 8000000 in
set_option maxRecDepth 100000 in
theorem c_X5_doubleOf (l : Launch) (hl9 : l.stackTraces = false) (G : va_G) (cI cZ cQ cU cJ : ClassId) (N : Nat) (o : Nat) (ad : Nat → Nat) (rf : Nat → Nat) (I : OI) (R : RI) (adk : Nat → Nat) (Ik : OI) (Rk : RI) (cmk : Option Nat) (x1 : Int32) (out : Nat × Int32) (hf : f_X5_doubleOf N I R Ik Rk cmk x1 = some out) : ConX l yX5_doubleOf wsX5_doubleOf rmX5_doubleOf G vwCl (tys cI cZ cQ cU cJ) nws strs [.ref o, .int x1] (pf [xW cI cZ o ad I R rf, lW cI cZ (rf 1) adk Ik Rk cmk]) (fun k' r M' => k' = out.1 ∧ (k' = 0 → r = some (.int out.2)) ∧ M' = pf [xW cI cZ o ad I R rf, lW cI cZ (rf 1) adk Ik Rk cmk]) := by
  refine conX_of (Qf := fun (o9 : Nat × Int32) below A args s t9 => QP below G vwCl A args s rmX5_doubleOf.cells rmX5_doubleOf.slots ((fun (out : Nat × Int32) (k' : Nat) (r : Option Value) (M' : va_W) => k' = out.1 ∧ (k' = 0 → r = some (.int out.2)) ∧ M' = pf [xW cI cZ o ad I R rf, lW cI cZ (rf 1) adk Ik Rk cmk]) o9) t9) (maxL := 3) (own := RX5) hl9 rfl (by decide +kernel) rfl (Nat.le_of_ble_eq_true rfl) (fun _ _ _ _ _ h9 => h9) ?_ hf
  intro p e s m args below meth c A CX hret hE
  have C := CX.1
  have j7 : ∀ (n9 : Nat) (x1 : Int32) (x2 : Int32), VJ p l e rmX5_doubleOf s m args below meth c 3 G vwCl A (fun (o9 : Nat × Int32) (t9 : State) => QP below G vwCl A args s rmX5_doubleOf.cells rmX5_doubleOf.slots ((fun (out : Nat × Int32) (k' : Nat) (r : Option Value) (M' : va_W) => k' = out.1 ∧ (k' = 0 → r = some (.int out.2)) ∧ M' = pf [xW cI cZ o ad I R rf, lW cI cZ (rf 1) adk Ik Rk cmk]) o9) t9) 1 6 (f_X5_doubleOf_l7 N I R Ik Rk cmk  n9 x1 x2) (pf [xW cI cZ o ad I R rf, lW cI cZ (rf 1) adk Ik Rk cmk]) 7 [(0, .ref o), (1, .int x1), (2, .int x2)] [] := by
    intro  n9
    induction n9 with
    | zero => intro x1 x2; exact VJ.fnone rfl
    | succ n9 i7 =>
      intro x1 x2
      refine VJ.eqf (f' := f_X5_doubleOf_l7b N I R Ik Rk cmk  (f_X5_doubleOf_l7 N I R Ik Rk cmk  n9) x1 x2) rfl ?_
      generalize f_X5_doubleOf_l7 N I R Ik Rk cmk  n9 = k7 at i7 ⊢
      unfold f_X5_doubleOf_l7b
      refine VJ.iload_n C 2 dX5_doubleOf_7 rfl ?_
      refine VJ.aload_n C 0 dX5_doubleOf_8 rfl ?_
      refine VJ.get (C0 := RX5) (T := TX5) (N := 11) (ci := 5) C in_X5_doubleOf_X5 0 rfl rfl 9 (Nat.le_of_ble_eq_true rfl) (C.1.2.2.2.2 _ (List.mem_of_getElem? (i := 1) rfl)) (fun _ h9 => h9) (v := .int (I 1)) rfl dX5_doubleOf_9 ?_
      refine VJ.icmp_ge C 42 dX5_doubleOf_12 (by decide) (fun _ => ?_) (fun _ => ?_)
      · refine VJ.iconst (v := (-1)) C dX5_doubleOf_42 (by decide) ?_
        exact VJ.iretP C rmX5_doubleOf.cells rmX5_doubleOf.slots (fun _ h9 => h9) ⟨rfl, fun _ => rfl, rfl⟩ hret (Nat.le_of_ble_eq_true rfl) (Nat.le_of_ble_eq_true rfl) dX5_doubleOf_43
      · refine VJ.iload_n C 2 dX5_doubleOf_15 rfl ?_
        refine VJ.iload_n C 1 dX5_doubleOf_16 rfl ?_
        refine VJ.icmp_eq C 36 dX5_doubleOf_17 (by decide) (fun _ => ?_) (fun _ => ?_)
        · refine VJ.iincN C 2 (fun v1 => [(2, .int v1), (0, .ref o), (1, .int x1)]) dX5_doubleOf_36 rfl (Nat.le_of_ble_eq_true rfl) (fun _ => rfl) (fun v1 => ?_)
          refine VJ.goto C 7 dX5_doubleOf_39 (by decide) ?_
          refine VJ.sub [1, 2, 0] rfl ?_
          exact i7 x1 v1
        · refine VJ.aload_n C 0 dX5_doubleOf_20 rfl ?_
          refine VJ.get (C0 := RX5) (T := TX5) (N := 11) (ci := 5) C in_X5_doubleOf_X5 0 rfl rfl 1 (Nat.le_of_ble_eq_true rfl) (C.1.2.2.2.2 _ (List.mem_of_getElem? (i := 2) rfl)) (fun _ h9 => h9) (v := .ref (rf 1)) rfl dX5_doubleOf_21 ?_
          refine VJ.iload_n C 1 dX5_doubleOf_24 rfl ?_
          refine VJ.iload_n C 2 dX5_doubleOf_25 rfl ?_
          refine VJ.callVN1 C [.int x1, .int x2] (pf [lW cI cZ (rf 1) adk Ik Rk cmk]) (pf [xW cI cZ o ad I R rf]) (fun r2 => some (.int r2)) (fun r2 => pf [lW cI cZ (rf 1) adk Ik Rk cmk]) (fun r2 => pf [xW cI cZ o ad I R rf, lW cI cZ (rf 1) adk Ik Rk cmk]) (fun r2 => [.int r2]) 1 6 (fun _ h9 => c_X2_countLikeness l G cI cZ cQ cU cJ (rf 1) adk Ik Rk cmk x1 x2 _ h9) (vj_pf 2 [1, 0] rfl rfl dp_1_0) (fun _ => (vj_pf 2 [1, 0] rfl rfl dp_1_0).symm) 0 rfl rfl (⟨va_cnB 2 C.1.2.2.2.2 gX5_doubleOf_X2_countLikeness_n175 rfl rfl rfl (C.nestM (List.mem_of_getElem? (i := 52) rfl)) (C.1.2.2.2.2 _ (List.mem_of_getElem? (i := 11) rfl)) hy_X2_countLikeness ⟨Nat.le_of_ble_eq_true rfl, Nat.le_of_ble_eq_true rfl⟩, (C.1.2.2.2.2 _ (List.mem_of_getElem? (i := 10) rfl)), (C.1.2.2.2.2 _ (List.mem_of_getElem? (i := 12) rfl))⟩) rfl rfl (fun _ => rfl) (Nat.le_of_ble_eq_true rfl) dX5_doubleOf_26 ⟨Nat.le_of_ble_eq_true rfl, Nat.le_of_ble_eq_true rfl⟩ ⟨rfl, rfl⟩ (fun r2 => ?_)
          refine VJ.bipush (v := 8) C dX5_doubleOf_29 (by decide) ?_
          refine VJ.icmp_lt C 36 dX5_doubleOf_31 (by decide) (fun _ => ?_) (fun _ => ?_)
          · refine VJ.iincN C 2 (fun v3 => [(2, .int v3), (0, .ref o), (1, .int x1)]) dX5_doubleOf_36 rfl (Nat.le_of_ble_eq_true rfl) (fun _ => rfl) (fun v3 => ?_)
            refine VJ.goto C 7 dX5_doubleOf_39 (by decide) ?_
            refine VJ.sub [1, 2, 0] rfl ?_
            exact i7 x1 v3
          · refine VJ.iload_n C 2 dX5_doubleOf_34 rfl ?_
            exact VJ.iretP C rmX5_doubleOf.cells rmX5_doubleOf.slots (fun _ h9 => h9) ⟨rfl, fun _ => rfl, rfl⟩ hret (Nat.le_of_ble_eq_true rfl) (Nat.le_of_ble_eq_true rfl) dX5_doubleOf_35
  unfold f_X5_doubleOf
  refine VJ.aload_n C 0 dX5_doubleOf_0 rfl ?_
  refine VJ.iload_n C 1 dX5_doubleOf_1 rfl ?_
  refine VJ.reqV (T := (fun k9 => (k9, 0))) (P := fun k9 => (fun (out : Nat × Int32) (k' : Nat) (r : Option Value) (M' : va_W) => k' = out.1 ∧ (k' = 0 → r = some (.int out.2)) ∧ M' = pf [xW cI cZ o ad I R rf, lW cI cZ (rf 1) adk Ik Rk cmk]) (k9, 0)) CX [.int x1] (pf [xW cI cZ o ad I R rf]) (pf [lW cI cZ (rf 1) adk Ik Rk cmk]) 1 6 rmX5_doubleOf.cells rmX5_doubleOf.slots hE (fun _ h9 => c_X5_requirePerson l hl9 G cI cZ cQ cU cJ o ad rf I R x1 _ h9) (vj_pf 2 [0, 1] rfl rfl dp_0_1) 0 rfl rfl (cwV 1 C.1.2.2.2.2 gX5_doubleOf_X5_requirePerson rfl rfl rfl hyV_X5_requirePerson ⟨Nat.le_of_ble_eq_true rfl, Nat.le_of_ble_eq_true rfl⟩) rfl rfl (Nat.le_of_ble_eq_true rfl) dX5_doubleOf_2 ⟨Nat.le_of_ble_eq_true rfl, Nat.le_of_ble_eq_true rfl⟩ ⟨rfl, rfl⟩ ⟨Nat.le_of_ble_eq_true rfl, Nat.le_of_ble_eq_true rfl⟩ (fun _ _ h9 => h9) (fun _ => ⟨rfl, fun h9 => absurd h9 (Nat.succ_ne_zero _), rfl⟩) ?_
  refine VJ.iconst (v := 0) C dX5_doubleOf_5 (by decide) ?_
  refine VJ.istore_n C [(2, .int 0), (0, .ref o), (1, .int x1)] dX5_doubleOf_6 (Nat.le_of_ble_eq_true rfl) rfl ?_
  refine VJ.sub [1, 2, 0] rfl ?_
  exact j7 N x1 0

def f_X5_renumber (N : Nat) (I : OI) (R : RI) (In : OI) (Rn : RI) (x1 : Int32) : Option (Nat × Int32 × OI × RI) :=
  obc (f_X5_requirePerson I R x1) (fun k9 => (k9, 0, In, Rn)) (obc (f_X5_requireNumberLeft I R In Rn) (fun k9 => (k9, 0, In, Rn)) (ob3 (f_X3_give N In Rn x1) (fun r1 In2 Rn3 => some (0, r1, In2, Rn3))))
abbrev rmX5_renumber : Room := { frames := 7, cells := 2, slots := 12, locals := 111 }
theorem in_X5_renumber_X5 : ∀ w ∈ u_ws RX5 TX5 11, w ∈ wsX5_renumber := in_of 33 rfl
theorem hy_X5_renumber : yX5_renumber.cls ≠ "java/lang/invoke/MethodHandle" ∧ yX5_renumber.cls ≠ "java/lang/invoke/VarHandle" ∧ (parseMethodDescriptor yX5_renumber.desc).map (fun d => d.parameters.length) = some 1 := by decide +kernel
theorem hyV_X5_renumber : yX5_renumber.cls = RX5 ∧ yX5_renumber.cls ≠ "java/lang/invoke/MethodHandle" ∧ yX5_renumber.cls ≠ "java/lang/invoke/VarHandle" ∧ (parseMethodDescriptor yX5_renumber.desc).map (fun d => d.parameters.length) = some 1 := ⟨rfl, hy_X5_renumber⟩
set_option maxHeartbeats 8000000 in
set_option maxRecDepth 100000 in
theorem c_X5_renumber (l : Launch) (hl9 : l.stackTraces = false) (G : va_G) (cI cZ cQ cU cJ : ClassId) (N : Nat) (o : Nat) (ad : Nat → Nat) (rf : Nat → Nat) (I : OI) (R : RI) (adn : Nat → Nat) (In : OI) (Rn : RI) (x1 : Int32) (out : Nat × Int32 × OI × RI) (hf : f_X5_renumber N I R In Rn x1 = some out) : ConX l yX5_renumber wsX5_renumber rmX5_renumber G vwCl (tys cI cZ cQ cU cJ) nws strs [.ref o, .int x1] (pf [xW cI cZ o ad I R rf, nW cI cZ (rf 4) adn In Rn]) (fun k' r M' => k' = out.1 ∧ (k' = 0 → r = some (.int out.2.1)) ∧ M' = pf [xW cI cZ o ad I R rf, nW cI cZ (rf 4) adn out.2.2.1 out.2.2.2]) := by
  refine conX_of (Qf := fun (o9 : Nat × Int32 × OI × RI) below A args s t9 => QP below G vwCl A args s rmX5_renumber.cells rmX5_renumber.slots ((fun (out : Nat × Int32 × OI × RI) (k' : Nat) (r : Option Value) (M' : va_W) => k' = out.1 ∧ (k' = 0 → r = some (.int out.2.1)) ∧ M' = pf [xW cI cZ o ad I R rf, nW cI cZ (rf 4) adn out.2.2.1 out.2.2.2]) o9) t9) (maxL := 2) (own := RX5) hl9 rfl (by decide +kernel) rfl (Nat.le_of_ble_eq_true rfl) (fun _ _ _ _ _ h9 => h9) ?_ hf
  intro p e s m args below meth c A CX hret hE
  have C := CX.1
  unfold f_X5_renumber
  refine VJ.aload_n C 0 dX5_renumber_0 rfl ?_
  refine VJ.iload_n C 1 dX5_renumber_1 rfl ?_
  refine VJ.reqV (T := (fun k9 => (k9, 0, In, Rn))) (P := fun k9 => (fun (out : Nat × Int32 × OI × RI) (k' : Nat) (r : Option Value) (M' : va_W) => k' = out.1 ∧ (k' = 0 → r = some (.int out.2.1)) ∧ M' = pf [xW cI cZ o ad I R rf, nW cI cZ (rf 4) adn out.2.2.1 out.2.2.2]) (k9, 0, In, Rn)) CX [.int x1] (pf [xW cI cZ o ad I R rf]) (pf [nW cI cZ (rf 4) adn In Rn]) 1 6 rmX5_renumber.cells rmX5_renumber.slots hE (fun _ h9 => c_X5_requirePerson l hl9 G cI cZ cQ cU cJ o ad rf I R x1 _ h9) (vj_pf 2 [0, 1] rfl rfl dp_0_1) 0 rfl rfl (cwV 1 C.1.2.2.2.2 gX5_renumber_X5_requirePerson rfl rfl rfl hyV_X5_requirePerson ⟨Nat.le_of_ble_eq_true rfl, Nat.le_of_ble_eq_true rfl⟩) rfl rfl (Nat.le_of_ble_eq_true rfl) dX5_renumber_2 ⟨Nat.le_of_ble_eq_true rfl, Nat.le_of_ble_eq_true rfl⟩ ⟨rfl, rfl⟩ ⟨Nat.le_of_ble_eq_true rfl, Nat.le_of_ble_eq_true rfl⟩ (fun _ _ h9 => h9) (fun _ => ⟨rfl, fun h9 => absurd h9 (Nat.succ_ne_zero _), rfl⟩) ?_
  refine VJ.aload_n C 0 dX5_renumber_5 rfl ?_
  refine VJ.reqV (T := (fun k9 => (k9, 0, In, Rn))) (P := fun k9 => (fun (out : Nat × Int32 × OI × RI) (k' : Nat) (r : Option Value) (M' : va_W) => k' = out.1 ∧ (k' = 0 → r = some (.int out.2.1)) ∧ M' = pf [xW cI cZ o ad I R rf, nW cI cZ (rf 4) adn out.2.2.1 out.2.2.2]) (k9, 0, In, Rn)) CX [] (pf [xW cI cZ o ad I R rf, nW cI cZ (rf 4) adn In Rn]) ([]) 2 12 rmX5_renumber.cells rmX5_renumber.slots hE (fun _ h9 => c_X5_requireNumberLeft l hl9 G cI cZ cQ cU cJ o ad rf I R adn In Rn _ h9) (vj_p0 _) 0 rfl rfl (cwV 0 C.1.2.2.2.2 gX5_renumber_X5_requireNumberLeft rfl rfl rfl hyV_X5_requireNumberLeft ⟨Nat.le_of_ble_eq_true rfl, Nat.le_of_ble_eq_true rfl⟩) rfl rfl (Nat.le_of_ble_eq_true rfl) dX5_renumber_6 ⟨Nat.le_of_ble_eq_true rfl, Nat.le_of_ble_eq_true rfl⟩ ⟨rfl, rfl⟩ ⟨Nat.le_of_ble_eq_true rfl, Nat.le_of_ble_eq_true rfl⟩ (fun _ _ h9 => h9) (fun _ => ⟨rfl, fun h9 => absurd h9 (Nat.succ_ne_zero _), rfl⟩) ?_
  refine VJ.aload_n C 0 dX5_renumber_9 rfl ?_
  refine VJ.get (C0 := RX5) (T := TX5) (N := 11) (ci := 5) C in_X5_renumber_X5 0 rfl rfl 4 (Nat.le_of_ble_eq_true rfl) (C.1.2.2.2.2 _ (List.mem_of_getElem? (i := 1) rfl)) (fun _ h9 => h9) (v := .ref (rf 4)) rfl dX5_renumber_10 ?_
  refine VJ.iload_n C 1 dX5_renumber_13 rfl ?_
  refine VJ.callVN3 C [.int x1] (pf [nW cI cZ (rf 4) adn In Rn]) (pf [xW cI cZ o ad I R rf]) (fun r1 In2 Rn3 => some (.int r1)) (fun r1 In2 Rn3 => pf [nW cI cZ (rf 4) adn In2 Rn3]) (fun r1 In2 Rn3 => pf [xW cI cZ o ad I R rf, nW cI cZ (rf 4) adn In2 Rn3]) (fun r1 In2 Rn3 => [.int r1]) 2 12 (fun _ h9 => c_X3_give l G cI cZ cQ cU cJ N (rf 4) adn In Rn x1 _ h9) (vj_pf 2 [1, 0] rfl rfl dp_1_0) (fun _ _ _ => (vj_pf 2 [1, 0] rfl rfl dp_1_0).symm) 0 rfl rfl (⟨va_cnB 1 C.1.2.2.2.2 gX5_renumber_X3_give_n93 rfl rfl rfl (C.nestM (List.mem_of_getElem? (i := 38) rfl)) (C.1.2.2.2.2 _ (List.mem_of_getElem? (i := 17) rfl)) hy_X3_give ⟨Nat.le_of_ble_eq_true rfl, Nat.le_of_ble_eq_true rfl⟩, (C.1.2.2.2.2 _ (List.mem_of_getElem? (i := 16) rfl)), (C.1.2.2.2.2 _ (List.mem_of_getElem? (i := 18) rfl))⟩) rfl rfl (fun _ _ _ => rfl) (Nat.le_of_ble_eq_true rfl) dX5_renumber_14 ⟨Nat.le_of_ble_eq_true rfl, Nat.le_of_ble_eq_true rfl⟩ ⟨rfl, rfl⟩ (fun r1 In2 Rn3 => ?_)
  exact VJ.iretP C rmX5_renumber.cells rmX5_renumber.slots (fun _ h9 => h9) ⟨rfl, fun _ => rfl, rfl⟩ hret (Nat.le_of_ble_eq_true rfl) (Nat.le_of_ble_eq_true rfl) dX5_renumber_17

def f_X5_number (N : Nat) (I : OI) (R : RI) (In : OI) (Rn : RI) (x1 : Int32) : Option (Nat × Int32) :=
  obc (f_X5_requirePerson I R x1) (fun k9 => (k9, 0)) (ob1 (f_X3_lastOf N In Rn x1) (fun r1 => some (0, r1)))
abbrev rmX5_number : Room := { frames := 7, cells := 1, slots := 6, locals := 111 }
theorem in_X5_number_X5 : ∀ w ∈ u_ws RX5 TX5 11, w ∈ wsX5_number := in_of 19 rfl
theorem hy_X5_number : yX5_number.cls ≠ "java/lang/invoke/MethodHandle" ∧ yX5_number.cls ≠ "java/lang/invoke/VarHandle" ∧ (parseMethodDescriptor yX5_number.desc).map (fun d => d.parameters.length) = some 1 := by decide +kernel
theorem hyV_X5_number : yX5_number.cls = RX5 ∧ yX5_number.cls ≠ "java/lang/invoke/MethodHandle" ∧ yX5_number.cls ≠ "java/lang/invoke/VarHandle" ∧ (parseMethodDescriptor yX5_number.desc).map (fun d => d.parameters.length) = some 1 := ⟨rfl, hy_X5_number⟩
set_option maxHeartbeats 8000000 in
set_option maxRecDepth 100000 in
theorem c_X5_number (l : Launch) (hl9 : l.stackTraces = false) (G : va_G) (cI cZ cQ cU cJ : ClassId) (N : Nat) (o : Nat) (ad : Nat → Nat) (rf : Nat → Nat) (I : OI) (R : RI) (adn : Nat → Nat) (In : OI) (Rn : RI) (x1 : Int32) (out : Nat × Int32) (hf : f_X5_number N I R In Rn x1 = some out) : ConX l yX5_number wsX5_number rmX5_number G vwCl (tys cI cZ cQ cU cJ) nws strs [.ref o, .int x1] (pf [xW cI cZ o ad I R rf, nW cI cZ (rf 4) adn In Rn]) (fun k' r M' => k' = out.1 ∧ (k' = 0 → r = some (.int out.2)) ∧ M' = pf [xW cI cZ o ad I R rf, nW cI cZ (rf 4) adn In Rn]) := by
  refine conX_of (Qf := fun (o9 : Nat × Int32) below A args s t9 => QP below G vwCl A args s rmX5_number.cells rmX5_number.slots ((fun (out : Nat × Int32) (k' : Nat) (r : Option Value) (M' : va_W) => k' = out.1 ∧ (k' = 0 → r = some (.int out.2)) ∧ M' = pf [xW cI cZ o ad I R rf, nW cI cZ (rf 4) adn In Rn]) o9) t9) (maxL := 2) (own := RX5) hl9 rfl (by decide +kernel) rfl (Nat.le_of_ble_eq_true rfl) (fun _ _ _ _ _ h9 => h9) ?_ hf
  intro p e s m args below meth c A CX hret hE
  have C := CX.1
  unfold f_X5_number
  refine VJ.aload_n C 0 dX5_number_0 rfl ?_
  refine VJ.iload_n C 1 dX5_number_1 rfl ?_
  refine VJ.reqV (T := (fun k9 => (k9, 0))) (P := fun k9 => (fun (out : Nat × Int32) (k' : Nat) (r : Option Value) (M' : va_W) => k' = out.1 ∧ (k' = 0 → r = some (.int out.2)) ∧ M' = pf [xW cI cZ o ad I R rf, nW cI cZ (rf 4) adn In Rn]) (k9, 0)) CX [.int x1] (pf [xW cI cZ o ad I R rf]) (pf [nW cI cZ (rf 4) adn In Rn]) 1 6 rmX5_number.cells rmX5_number.slots hE (fun _ h9 => c_X5_requirePerson l hl9 G cI cZ cQ cU cJ o ad rf I R x1 _ h9) (vj_pf 2 [0, 1] rfl rfl dp_0_1) 0 rfl rfl (cwV 1 C.1.2.2.2.2 gX5_number_X5_requirePerson rfl rfl rfl hyV_X5_requirePerson ⟨Nat.le_of_ble_eq_true rfl, Nat.le_of_ble_eq_true rfl⟩) rfl rfl (Nat.le_of_ble_eq_true rfl) dX5_number_2 ⟨Nat.le_of_ble_eq_true rfl, Nat.le_of_ble_eq_true rfl⟩ ⟨rfl, rfl⟩ ⟨Nat.le_of_ble_eq_true rfl, Nat.le_of_ble_eq_true rfl⟩ (fun _ _ h9 => h9) (fun _ => ⟨rfl, fun h9 => absurd h9 (Nat.succ_ne_zero _), rfl⟩) ?_
  refine VJ.aload_n C 0 dX5_number_5 rfl ?_
  refine VJ.get (C0 := RX5) (T := TX5) (N := 11) (ci := 5) C in_X5_number_X5 0 rfl rfl 4 (Nat.le_of_ble_eq_true rfl) (C.1.2.2.2.2 _ (List.mem_of_getElem? (i := 1) rfl)) (fun _ h9 => h9) (v := .ref (rf 4)) rfl dX5_number_6 ?_
  refine VJ.iload_n C 1 dX5_number_9 rfl ?_
  refine VJ.callVN1 C [.int x1] (pf [nW cI cZ (rf 4) adn In Rn]) (pf [xW cI cZ o ad I R rf]) (fun r1 => some (.int r1)) (fun r1 => pf [nW cI cZ (rf 4) adn In Rn]) (fun r1 => pf [xW cI cZ o ad I R rf, nW cI cZ (rf 4) adn In Rn]) (fun r1 => [.int r1]) 1 6 (fun _ h9 => c_X3_lastOf l G cI cZ cQ cU cJ N (rf 4) adn In Rn x1 _ h9) (vj_pf 2 [1, 0] rfl rfl dp_1_0) (fun _ => (vj_pf 2 [1, 0] rfl rfl dp_1_0).symm) 0 rfl rfl (⟨va_cnB 1 C.1.2.2.2.2 gX5_number_X3_lastOf_n178 rfl rfl rfl (C.nestM (List.mem_of_getElem? (i := 53) rfl)) (C.1.2.2.2.2 _ (List.mem_of_getElem? (i := 11) rfl)) hy_X3_lastOf ⟨Nat.le_of_ble_eq_true rfl, Nat.le_of_ble_eq_true rfl⟩, (C.1.2.2.2.2 _ (List.mem_of_getElem? (i := 10) rfl)), (C.1.2.2.2.2 _ (List.mem_of_getElem? (i := 12) rfl))⟩) rfl rfl (fun _ => rfl) (Nat.le_of_ble_eq_true rfl) dX5_number_10 ⟨Nat.le_of_ble_eq_true rfl, Nat.le_of_ble_eq_true rfl⟩ ⟨rfl, rfl⟩ (fun r1 => ?_)
  exact VJ.iretP C rmX5_number.cells rmX5_number.slots (fun _ h9 => h9) ⟨rfl, fun _ => rfl, rfl⟩ hret (Nat.le_of_ble_eq_true rfl) (Nat.le_of_ble_eq_true rfl) dX5_number_13

def f_X5_bearer (N : Nat) (I : OI) (R : RI) (In : OI) (Rn : RI) (x1 : Int32) : Option (Nat × Int32) :=
  obc (f_X5_requireWithin x1 10000 99999) (fun k9 => (k9, 0)) (ob1 (f_X3_isOfSerial x1) (fun r1 => if r1 = 0 then (some (2, 0)) else (ob1 (f_X3_personOf N In Rn x1) (fun r2 => some (0, r2)))))
abbrev rmX5_bearer : Room := { frames := 7, cells := 2, slots := 12, locals := 112 }
theorem in_X5_bearer_X5 : ∀ w ∈ u_ws RX5 TX5 11, w ∈ wsX5_bearer := in_of 23 rfl
theorem hy_X5_bearer : yX5_bearer.cls ≠ "java/lang/invoke/MethodHandle" ∧ yX5_bearer.cls ≠ "java/lang/invoke/VarHandle" ∧ (parseMethodDescriptor yX5_bearer.desc).map (fun d => d.parameters.length) = some 1 := by decide +kernel
theorem hyV_X5_bearer : yX5_bearer.cls = RX5 ∧ yX5_bearer.cls ≠ "java/lang/invoke/MethodHandle" ∧ yX5_bearer.cls ≠ "java/lang/invoke/VarHandle" ∧ (parseMethodDescriptor yX5_bearer.desc).map (fun d => d.parameters.length) = some 1 := ⟨rfl, hy_X5_bearer⟩
set_option maxHeartbeats 8000000 in
set_option maxRecDepth 100000 in
theorem c_X5_bearer (l : Launch) (hl9 : l.stackTraces = false) (G : va_G) (cI cZ cQ cU cJ : ClassId) (N : Nat) (o : Nat) (ad : Nat → Nat) (rf : Nat → Nat) (I : OI) (R : RI) (adn : Nat → Nat) (In : OI) (Rn : RI) (x1 : Int32) (out : Nat × Int32) (hf : f_X5_bearer N I R In Rn x1 = some out) : ConX l yX5_bearer wsX5_bearer rmX5_bearer G vwCl (tys cI cZ cQ cU cJ) nws strs [.ref o, .int x1] (pf [xW cI cZ o ad I R rf, nW cI cZ (rf 4) adn In Rn]) (fun k' r M' => k' = out.1 ∧ (k' = 0 → r = some (.int out.2)) ∧ M' = pf [xW cI cZ o ad I R rf, nW cI cZ (rf 4) adn In Rn]) := by
  refine conX_of (Qf := fun (o9 : Nat × Int32) below A args s t9 => QP below G vwCl A args s rmX5_bearer.cells rmX5_bearer.slots ((fun (out : Nat × Int32) (k' : Nat) (r : Option Value) (M' : va_W) => k' = out.1 ∧ (k' = 0 → r = some (.int out.2)) ∧ M' = pf [xW cI cZ o ad I R rf, nW cI cZ (rf 4) adn In Rn]) o9) t9) (maxL := 2) (own := RX5) hl9 rfl (by decide +kernel) rfl (Nat.le_of_ble_eq_true rfl) (fun _ _ _ _ _ h9 => h9) ?_ hf
  intro p e s m args below meth c A CX hret hE
  have C := CX.1
  unfold f_X5_bearer
  refine VJ.iload_n C 1 dX5_bearer_0 rfl ?_
  refine VJ.sipush (v := 10000) C dX5_bearer_1 (by decide) ?_
  refine VJ.ldc (v := 99999) C (C.1.2.2.2.2 _ (List.mem_of_getElem? (i := 3) rfl)) dX5_bearer_4 ?_
  refine VJ.reqS (T := (fun k9 => (k9, 0))) (P := fun k9 => (fun (out : Nat × Int32) (k' : Nat) (r : Option Value) (M' : va_W) => k' = out.1 ∧ (k' = 0 → r = some (.int out.2)) ∧ M' = pf [xW cI cZ o ad I R rf, nW cI cZ (rf 4) adn In Rn]) (k9, 0)) CX [.int x1, .int 10000, .int 99999] (pf []) (pf [xW cI cZ o ad I R rf, nW cI cZ (rf 4) adn In Rn]) 1 6 rmX5_bearer.cells rmX5_bearer.slots hE (fun _ h9 => c_X5_requireWithin l hl9 G cI cZ cQ cU cJ x1 10000 99999 _ h9) (vj_pn _) (va_cwS 3 C.1.2.2.2.2 gX5_bearer_X5_requireWithin rfl rfl rfl hy_X5_requireWithin ⟨Nat.le_of_ble_eq_true rfl, Nat.le_of_ble_eq_true rfl⟩) rfl rfl (Nat.le_of_ble_eq_true rfl) dX5_bearer_6 ⟨Nat.le_of_ble_eq_true rfl, Nat.le_of_ble_eq_true rfl⟩ ⟨rfl, rfl⟩ ⟨Nat.le_of_ble_eq_true rfl, Nat.le_of_ble_eq_true rfl⟩ (fun _ _ h9 => h9) (fun _ => ⟨rfl, fun h9 => absurd h9 (Nat.succ_ne_zero _), rfl⟩) ?_
  refine VJ.iload_n C 1 dX5_bearer_9 rfl ?_
  refine VJ.callSN1 C [.int x1] (pf []) (pf [xW cI cZ o ad I R rf, nW cI cZ (rf 4) adn In Rn]) (fun r1 => some (.int r1)) (fun r1 => pf []) (fun r1 => pf [xW cI cZ o ad I R rf, nW cI cZ (rf 4) adn In Rn]) (fun r1 => [.int r1]) 1 6 (fun _ h9 => c_X3_isOfSerial l G cI cZ cQ cU cJ x1 _ h9) (vj_pn _) (fun _ => vj_pn' _) (⟨va_cnB 1 C.1.2.2.2.2 gX5_bearer_X3_isOfSerial_n182 rfl rfl rfl (C.nestM (List.mem_of_getElem? (i := 55) rfl)) (C.1.2.2.2.2 _ (List.mem_of_getElem? (i := 10) rfl)) hy_X3_isOfSerial ⟨Nat.le_of_ble_eq_true rfl, Nat.le_of_ble_eq_true rfl⟩, (C.1.2.2.2.2 _ (List.mem_of_getElem? (i := 9) rfl)), trivial⟩) rfl rfl (fun _ => rfl) (Nat.le_of_ble_eq_true rfl) dX5_bearer_10 ⟨Nat.le_of_ble_eq_true rfl, Nat.le_of_ble_eq_true rfl⟩ ⟨rfl, rfl⟩ (fun r1 => ?_)
  refine VJ.if_ne C 26 dX5_bearer_13 (by decide) (fun _ => ?_) (fun _ => ?_)
  · refine VJ.aload_n C 0 dX5_bearer_26 rfl ?_
    refine VJ.get (C0 := RX5) (T := TX5) (N := 11) (ci := 5) C in_X5_bearer_X5 0 rfl rfl 4 (Nat.le_of_ble_eq_true rfl) (C.1.2.2.2.2 _ (List.mem_of_getElem? (i := 4) rfl)) (fun _ h9 => h9) (v := .ref (rf 4)) rfl dX5_bearer_27 ?_
    refine VJ.iload_n C 1 dX5_bearer_30 rfl ?_
    refine VJ.callVN1 C [.int x1] (pf [nW cI cZ (rf 4) adn In Rn]) (pf [xW cI cZ o ad I R rf]) (fun r2 => some (.int r2)) (fun r2 => pf [nW cI cZ (rf 4) adn In Rn]) (fun r2 => pf [xW cI cZ o ad I R rf, nW cI cZ (rf 4) adn In Rn]) (fun r2 => [.int r2]) 1 6 (fun _ h9 => c_X3_personOf l G cI cZ cQ cU cJ N (rf 4) adn In Rn x1 _ h9) (vj_pf 2 [1, 0] rfl rfl dp_1_0) (fun _ => (vj_pf 2 [1, 0] rfl rfl dp_1_0).symm) 0 rfl rfl (⟨va_cnB 1 C.1.2.2.2.2 gX5_bearer_X3_personOf_n188 rfl rfl rfl (C.nestM (List.mem_of_getElem? (i := 56) rfl)) (C.1.2.2.2.2 _ (List.mem_of_getElem? (i := 10) rfl)) hy_X3_personOf ⟨Nat.le_of_ble_eq_true rfl, Nat.le_of_ble_eq_true rfl⟩, (C.1.2.2.2.2 _ (List.mem_of_getElem? (i := 15) rfl)), (C.1.2.2.2.2 _ (List.mem_of_getElem? (i := 16) rfl))⟩) rfl rfl (fun _ => rfl) (Nat.le_of_ble_eq_true rfl) dX5_bearer_31 ⟨Nat.le_of_ble_eq_true rfl, Nat.le_of_ble_eq_true rfl⟩ ⟨rfl, rfl⟩ (fun r2 => ?_)
    exact VJ.iretP C rmX5_bearer.cells rmX5_bearer.slots (fun _ h9 => h9) ⟨rfl, fun _ => rfl, rfl⟩ hret (Nat.le_of_ble_eq_true rfl) (Nat.le_of_ble_eq_true rfl) dX5_bearer_34
  · exact VJ.throwS (r := none) CX 1 rmX5_bearer.cells rmX5_bearer.slots (text := "no number of a serial") hE (fun _ h9 => h9) ⟨rfl, fun h9 => absurd h9 (Nat.succ_ne_zero _), rfl⟩ xf1 (C.1.2.2.2.2 _ (List.mem_of_getElem? (i := 1) rfl)) (C.1.2.2.2.2 _ (List.mem_of_getElem? (i := 2) rfl)) (List.mem_of_getElem? (i := 5) rfl) (vj_hat C (fun w h9 => List.mem_cons_of_mem _ (List.mem_append_right _ h9)) xh1 xi1) xg1 dX5_bearer_16 dX5_bearer_19 dX5_bearer_20 dX5_bearer_22 dX5_bearer_25 (Nat.le_of_ble_eq_true rfl) (Nat.le_of_ble_eq_true rfl) (Nat.le_of_ble_eq_true rfl) (Nat.le_of_ble_eq_true rfl) (Nat.le_of_ble_eq_true rfl) (Nat.le_of_ble_eq_true rfl)

def f_X5_bar (I : OI) (R : RI) (x1 : Int32) (x2 : Int32) : Option (Nat × Int32 × RI) :=
  obc (f_X5_requirePerson I R x1) (fun k9 => (k9, 0, R)) (ol (isv 24 (R 0) x1) (fun v1 => ol (va_up R 0 (setv 24 (R 0) x1 x2)) (fun R2 => oz v1 (some (0, v1, R2)))))
abbrev rmX5_bar : Room := { frames := 7, cells := 1, slots := 6, locals := 111 }
theorem in_X5_bar_X5 : ∀ w ∈ u_ws RX5 TX5 11, w ∈ wsX5_bar := in_of 16 rfl
theorem hy_X5_bar : yX5_bar.cls ≠ "java/lang/invoke/MethodHandle" ∧ yX5_bar.cls ≠ "java/lang/invoke/VarHandle" ∧ (parseMethodDescriptor yX5_bar.desc).map (fun d => d.parameters.length) = some 2 := by decide +kernel
theorem hyV_X5_bar : yX5_bar.cls = RX5 ∧ yX5_bar.cls ≠ "java/lang/invoke/MethodHandle" ∧ yX5_bar.cls ≠ "java/lang/invoke/VarHandle" ∧ (parseMethodDescriptor yX5_bar.desc).map (fun d => d.parameters.length) = some 2 := ⟨rfl, hy_X5_bar⟩
set_option maxHeartbeats 8000000 in
set_option maxRecDepth 100000 in
theorem c_X5_bar (l : Launch) (hl9 : l.stackTraces = false) (G : va_G) (cI cZ cQ cU cJ : ClassId) (o : Nat) (ad : Nat → Nat) (rf : Nat → Nat) (I : OI) (R : RI) (x1 : Int32) (x2 : Int32) (out : Nat × Int32 × RI) (hf : f_X5_bar I R x1 x2 = some out) : ConX l yX5_bar wsX5_bar rmX5_bar G vwCl (tys cI cZ cQ cU cJ) nws strs [.ref o, .int x1, .int x2] (pf [xW cI cZ o ad I R rf]) (fun k' r M' => k' = out.1 ∧ (k' = 0 → r = some (.int out.2.1)) ∧ M' = pf [xW cI cZ o ad I out.2.2 rf]) := by
  refine conX_of (Qf := fun (o9 : Nat × Int32 × RI) below A args s t9 => QP below G vwCl A args s rmX5_bar.cells rmX5_bar.slots ((fun (out : Nat × Int32 × RI) (k' : Nat) (r : Option Value) (M' : va_W) => k' = out.1 ∧ (k' = 0 → r = some (.int out.2.1)) ∧ M' = pf [xW cI cZ o ad I out.2.2 rf]) o9) t9) (maxL := 4) (own := RX5) hl9 rfl (by decide +kernel) rfl (Nat.le_of_ble_eq_true rfl) (fun _ _ _ _ _ h9 => h9) ?_ hf
  intro p e s m args below meth c A CX hret hE
  have C := CX.1
  unfold f_X5_bar
  refine VJ.aload_n C 0 dX5_bar_0 rfl ?_
  refine VJ.iload_n C 1 dX5_bar_1 rfl ?_
  refine VJ.reqV (T := (fun k9 => (k9, 0, R))) (P := fun k9 => (fun (out : Nat × Int32 × RI) (k' : Nat) (r : Option Value) (M' : va_W) => k' = out.1 ∧ (k' = 0 → r = some (.int out.2.1)) ∧ M' = pf [xW cI cZ o ad I out.2.2 rf]) (k9, 0, R)) CX [.int x1] (pf [xW cI cZ o ad I R rf]) ([]) 1 6 rmX5_bar.cells rmX5_bar.slots hE (fun _ h9 => c_X5_requirePerson l hl9 G cI cZ cQ cU cJ o ad rf I R x1 _ h9) (vj_p0 _) 0 rfl rfl (cwV 1 C.1.2.2.2.2 gX5_bar_X5_requirePerson rfl rfl rfl hyV_X5_requirePerson ⟨Nat.le_of_ble_eq_true rfl, Nat.le_of_ble_eq_true rfl⟩) rfl rfl (Nat.le_of_ble_eq_true rfl) dX5_bar_2 ⟨Nat.le_of_ble_eq_true rfl, Nat.le_of_ble_eq_true rfl⟩ ⟨rfl, rfl⟩ ⟨Nat.le_of_ble_eq_true rfl, Nat.le_of_ble_eq_true rfl⟩ (fun _ _ h9 => h9) (fun _ => ⟨rfl, fun h9 => absurd h9 (Nat.succ_ne_zero _), rfl⟩) ?_
  refine VJ.aload_n C 0 dX5_bar_5 rfl ?_
  refine VJ.get (C0 := RX5) (T := TX5) (N := 11) (ci := 5) C in_X5_bar_X5 0 rfl rfl 6 (Nat.le_of_ble_eq_true rfl) (C.1.2.2.2.2 _ (List.mem_of_getElem? (i := 1) rfl)) (fun _ h9 => h9) (v := .ref (ad 0)) rfl dX5_bar_6 ?_
  refine VJ.iload_n C 1 dX5_bar_9 rfl ?_
  refine VJ.atS (q0 := 1) C rfl (c_X5_isSett l G cI cZ cQ cU cJ (ad 0) 24 (Nat.le_of_ble_eq_true rfl) (R 0) x1) (va_cwS 2 C.1.2.2.2.2 gX5_bar_X5_isSet rfl rfl rfl hy_X5_isSet ⟨Nat.le_of_ble_eq_true rfl, Nat.le_of_ble_eq_true rfl⟩) rfl (Nat.le_of_ble_eq_true rfl) dX5_bar_10 ⟨Nat.le_of_ble_eq_true rfl, Nat.le_of_ble_eq_true rfl⟩ ⟨rfl, rfl⟩ ?_
  refine VJ.topi C (fun v1 => ?_)
  refine VJ.istore_n C [(3, .int v1), (0, .ref o), (1, .int x1), (2, .int x2)] dX5_bar_13 (Nat.le_of_ble_eq_true rfl) rfl ?_
  refine VJ.aload_n C 1 dX5_bar_14 rfl ?_
  refine VJ.get (C0 := RX5) (T := TX5) (N := 11) (ci := 5) C in_X5_bar_X5 0 rfl rfl 6 (Nat.le_of_ble_eq_true rfl) (C.1.2.2.2.2 _ (List.mem_of_getElem? (i := 1) rfl)) (fun _ h9 => h9) (v := .ref (ad 0)) rfl dX5_bar_15 ?_
  refine VJ.iload_n C 2 dX5_bar_18 rfl ?_
  refine VJ.iload_n C 3 dX5_bar_19 rfl ?_
  refine VJ.putS (q0 := 1) C R 0 (fun R2 => pf [xW cI cZ o ad I R2 rf]) rfl (fun _ => rfl) (c_X5_sett l G cI cZ cQ cU cJ (ad 0) 24 (Nat.le_of_ble_eq_true rfl) (R 0) x1 x2) (va_cwS 3 C.1.2.2.2.2 gX5_bar_X5_set rfl rfl rfl hy_X5_set ⟨Nat.le_of_ble_eq_true rfl, Nat.le_of_ble_eq_true rfl⟩) rfl (Nat.le_of_ble_eq_true rfl) dX5_bar_20 ⟨Nat.le_of_ble_eq_true rfl, Nat.le_of_ble_eq_true rfl⟩ ⟨rfl, rfl⟩ (fun R2 => ?_)
  refine VJ.iload_n C 0 dX5_bar_23 rfl ?_
  refine VJ.roz (fun h8 => ?_)
  exact VJ.zretP C rmX5_bar.cells rmX5_bar.slots (vj_nz h8) (fun _ h9 => h9) ⟨rfl, fun _ => rfl, rfl⟩ hret (Nat.le_of_ble_eq_true rfl) (Nat.le_of_ble_eq_true rfl) dX5_bar_24

set_option maxHeartbeats 4000000 in
set_option maxRecDepth 100000 in
def f_X5_look_j47 (I : OI) (Ik : OI) (Rk : RI) (cmk : Option Nat) (R : RI) (x2 : Int32) : Option (Nat × Int32 × RI) :=
  ob1 (f_X2_dwellingOf Ik Rk cmk x2) (fun r2 => some (0, r2, R))
def f_X5_look (I : OI) (Ik : OI) (Rk : RI) (cmk : Option Nat) (R : RI) (x1 : Int32) (x2 : Int32) : Option (Nat × Int32 × RI) :=
  obc (f_X5_requirePerson I R x2) (fun k9 => (k9, 0, R)) (obc (f_X5_requireWithin x1 0 3) (fun k9 => (k9, 0, R)) (ol (va_up R 1 (putv 24 (R 1) x2 ((atv 24 (R 1) x2) + 1))) (fun R1 => if x1 = 0 then (f_X5_look_j47 I Ik Rk cmk R1 x2) else (if (isv 24 (R1 0) x2) = 0 then (f_X5_look_j47 I Ik Rk cmk R1 x2) else (some (0, (-2), R1))))))
abbrev rmX5_look : Room := { frames := 7, cells := 2, slots := 12, locals := 112 }
theorem in_X5_look_X5 : ∀ w ∈ u_ws RX5 TX5 11, w ∈ wsX5_look := in_of 31 rfl
theorem hy_X5_look : yX5_look.cls ≠ "java/lang/invoke/MethodHandle" ∧ yX5_look.cls ≠ "java/lang/invoke/VarHandle" ∧ (parseMethodDescriptor yX5_look.desc).map (fun d => d.parameters.length) = some 2 := by decide +kernel
theorem hyV_X5_look : yX5_look.cls = RX5 ∧ yX5_look.cls ≠ "java/lang/invoke/MethodHandle" ∧ yX5_look.cls ≠ "java/lang/invoke/VarHandle" ∧ (parseMethodDescriptor yX5_look.desc).map (fun d => d.parameters.length) = some 2 := ⟨rfl, hy_X5_look⟩
set_option maxHeartbeats 8000000 in
set_option maxRecDepth 100000 in
theorem c_X5_look (l : Launch) (hl9 : l.stackTraces = false) (G : va_G) (cI cZ cQ cU cJ : ClassId) (o : Nat) (ad : Nat → Nat) (rf : Nat → Nat) (I : OI) (R : RI) (adk : Nat → Nat) (Ik : OI) (Rk : RI) (cmk : Option Nat) (x1 : Int32) (x2 : Int32) (out : Nat × Int32 × RI) (hf : f_X5_look I Ik Rk cmk R x1 x2 = some out) : ConX l yX5_look wsX5_look rmX5_look G vwCl (tys cI cZ cQ cU cJ) nws strs [.ref o, .int x1, .int x2] (pf [xW cI cZ o ad I R rf, lW cI cZ (rf 1) adk Ik Rk cmk]) (fun k' r M' => k' = out.1 ∧ (k' = 0 → r = some (.int out.2.1)) ∧ M' = pf [xW cI cZ o ad I out.2.2 rf, lW cI cZ (rf 1) adk Ik Rk cmk]) := by
  refine conX_of (Qf := fun (o9 : Nat × Int32 × RI) below A args s t9 => QP below G vwCl A args s rmX5_look.cells rmX5_look.slots ((fun (out : Nat × Int32 × RI) (k' : Nat) (r : Option Value) (M' : va_W) => k' = out.1 ∧ (k' = 0 → r = some (.int out.2.1)) ∧ M' = pf [xW cI cZ o ad I out.2.2 rf, lW cI cZ (rf 1) adk Ik Rk cmk]) o9) t9) (maxL := 3) (own := RX5) hl9 rfl (by decide +kernel) rfl (Nat.le_of_ble_eq_true rfl) (fun _ _ _ _ _ h9 => h9) ?_ hf
  intro p e s m args below meth c A CX hret hE
  have C := CX.1
  have j47 : ∀ (R : RI) (x2 : Int32), VJ p l e rmX5_look s m args below meth c 3 G vwCl A (fun (o9 : Nat × Int32 × RI) (t9 : State) => QP below G vwCl A args s rmX5_look.cells rmX5_look.slots ((fun (out : Nat × Int32 × RI) (k' : Nat) (r : Option Value) (M' : va_W) => k' = out.1 ∧ (k' = 0 → r = some (.int out.2.1)) ∧ M' = pf [xW cI cZ o ad I out.2.2 rf, lW cI cZ (rf 1) adk Ik Rk cmk]) o9) t9) 2 12 (f_X5_look_j47 I Ik Rk cmk  R x2) (pf [xW cI cZ o ad I R rf, lW cI cZ (rf 1) adk Ik Rk cmk]) 47 [(0, .ref o), (2, .int x2)] [] := by
    intro  R x2
    unfold f_X5_look_j47
    refine VJ.aload_n C 0 dX5_look_47 rfl ?_
    refine VJ.get (C0 := RX5) (T := TX5) (N := 11) (ci := 5) C in_X5_look_X5 0 rfl rfl 1 (Nat.le_of_ble_eq_true rfl) (C.1.2.2.2.2 _ (List.mem_of_getElem? (i := 3) rfl)) (fun _ h9 => h9) (v := .ref (rf 1)) rfl dX5_look_48 ?_
    refine VJ.iload_n C 1 dX5_look_51 rfl ?_
    refine VJ.callVN1 C [.int x2] (pf [lW cI cZ (rf 1) adk Ik Rk cmk]) (pf [xW cI cZ o ad I R rf]) (fun r2 => some (.int r2)) (fun r2 => pf [lW cI cZ (rf 1) adk Ik Rk cmk]) (fun r2 => pf [xW cI cZ o ad I R rf, lW cI cZ (rf 1) adk Ik Rk cmk]) (fun r2 => [.int r2]) 2 12 (fun _ h9 => c_X2_dwellingOf l G cI cZ cQ cU cJ (rf 1) adk Ik Rk cmk x2 _ h9) (vj_pf 2 [1, 0] rfl rfl dp_1_0) (fun _ => (vj_pf 2 [1, 0] rfl rfl dp_1_0).symm) 0 rfl rfl (⟨va_cnB 1 C.1.2.2.2.2 gX5_look_X2_dwellingOf_n242 rfl rfl rfl (C.nestM (List.mem_of_getElem? (i := 60) rfl)) (C.1.2.2.2.2 _ (List.mem_of_getElem? (i := 27) rfl)) hy_X2_dwellingOf ⟨Nat.le_of_ble_eq_true rfl, Nat.le_of_ble_eq_true rfl⟩, (C.1.2.2.2.2 _ (List.mem_of_getElem? (i := 26) rfl)), (C.1.2.2.2.2 _ (List.mem_of_getElem? (i := 28) rfl))⟩) rfl rfl (fun _ => rfl) (Nat.le_of_ble_eq_true rfl) dX5_look_52 ⟨Nat.le_of_ble_eq_true rfl, Nat.le_of_ble_eq_true rfl⟩ ⟨rfl, rfl⟩ (fun r2 => ?_)
    exact VJ.iretP C rmX5_look.cells rmX5_look.slots (fun _ h9 => h9) ⟨rfl, fun _ => rfl, rfl⟩ hret (Nat.le_of_ble_eq_true rfl) (Nat.le_of_ble_eq_true rfl) dX5_look_55
  unfold f_X5_look
  refine VJ.aload_n C 0 dX5_look_0 rfl ?_
  refine VJ.iload_n C 2 dX5_look_1 rfl ?_
  refine VJ.reqV (T := (fun k9 => (k9, 0, R))) (P := fun k9 => (fun (out : Nat × Int32 × RI) (k' : Nat) (r : Option Value) (M' : va_W) => k' = out.1 ∧ (k' = 0 → r = some (.int out.2.1)) ∧ M' = pf [xW cI cZ o ad I out.2.2 rf, lW cI cZ (rf 1) adk Ik Rk cmk]) (k9, 0, R)) CX [.int x2] (pf [xW cI cZ o ad I R rf]) (pf [lW cI cZ (rf 1) adk Ik Rk cmk]) 1 6 rmX5_look.cells rmX5_look.slots hE (fun _ h9 => c_X5_requirePerson l hl9 G cI cZ cQ cU cJ o ad rf I R x2 _ h9) (vj_pf 2 [0, 1] rfl rfl dp_0_1) 0 rfl rfl (cwV 1 C.1.2.2.2.2 gX5_look_X5_requirePerson rfl rfl rfl hyV_X5_requirePerson ⟨Nat.le_of_ble_eq_true rfl, Nat.le_of_ble_eq_true rfl⟩) rfl rfl (Nat.le_of_ble_eq_true rfl) dX5_look_2 ⟨Nat.le_of_ble_eq_true rfl, Nat.le_of_ble_eq_true rfl⟩ ⟨rfl, rfl⟩ ⟨Nat.le_of_ble_eq_true rfl, Nat.le_of_ble_eq_true rfl⟩ (fun _ _ h9 => h9) (fun _ => ⟨rfl, fun h9 => absurd h9 (Nat.succ_ne_zero _), rfl⟩) ?_
  refine VJ.iload_n C 1 dX5_look_5 rfl ?_
  refine VJ.iconst (v := 0) C dX5_look_6 (by decide) ?_
  refine VJ.iconst (v := 3) C dX5_look_7 (by decide) ?_
  refine VJ.reqS (T := (fun k9 => (k9, 0, R))) (P := fun k9 => (fun (out : Nat × Int32 × RI) (k' : Nat) (r : Option Value) (M' : va_W) => k' = out.1 ∧ (k' = 0 → r = some (.int out.2.1)) ∧ M' = pf [xW cI cZ o ad I out.2.2 rf, lW cI cZ (rf 1) adk Ik Rk cmk]) (k9, 0, R)) CX [.int x1, .int 0, .int 3] (pf []) (pf [xW cI cZ o ad I R rf, lW cI cZ (rf 1) adk Ik Rk cmk]) 2 12 rmX5_look.cells rmX5_look.slots hE (fun _ h9 => c_X5_requireWithin l hl9 G cI cZ cQ cU cJ x1 0 3 _ h9) (vj_pn _) (va_cwS 3 C.1.2.2.2.2 gX5_look_X5_requireWithin rfl rfl rfl hy_X5_requireWithin ⟨Nat.le_of_ble_eq_true rfl, Nat.le_of_ble_eq_true rfl⟩) rfl rfl (Nat.le_of_ble_eq_true rfl) dX5_look_8 ⟨Nat.le_of_ble_eq_true rfl, Nat.le_of_ble_eq_true rfl⟩ ⟨rfl, rfl⟩ ⟨Nat.le_of_ble_eq_true rfl, Nat.le_of_ble_eq_true rfl⟩ (fun _ _ h9 => h9) (fun _ => ⟨rfl, fun h9 => absurd h9 (Nat.succ_ne_zero _), rfl⟩) ?_
  refine VJ.aload_n C 0 dX5_look_11 rfl ?_
  refine VJ.get (C0 := RX5) (T := TX5) (N := 11) (ci := 5) C in_X5_look_X5 0 rfl rfl 7 (Nat.le_of_ble_eq_true rfl) (C.1.2.2.2.2 _ (List.mem_of_getElem? (i := 1) rfl)) (fun _ h9 => h9) (v := .ref (ad 1)) rfl dX5_look_12 ?_
  refine VJ.iload_n C 2 dX5_look_15 rfl ?_
  refine VJ.aload_n C 0 dX5_look_16 rfl ?_
  refine VJ.get (C0 := RX5) (T := TX5) (N := 11) (ci := 5) C in_X5_look_X5 0 rfl rfl 7 (Nat.le_of_ble_eq_true rfl) (C.1.2.2.2.2 _ (List.mem_of_getElem? (i := 1) rfl)) (fun _ h9 => h9) (v := .ref (ad 1)) rfl dX5_look_17 ?_
  refine VJ.iload_n C 2 dX5_look_20 rfl ?_
  refine VJ.atS (q0 := 2) C rfl (c_X5_att l G cI cZ cQ cU cJ (ad 1) 24 (Nat.le_of_ble_eq_true rfl) (R 1) x2) (va_cwS 2 C.1.2.2.2.2 gX5_look_X5_at rfl rfl rfl hy_X5_at ⟨Nat.le_of_ble_eq_true rfl, Nat.le_of_ble_eq_true rfl⟩) rfl (Nat.le_of_ble_eq_true rfl) dX5_look_21 ⟨Nat.le_of_ble_eq_true rfl, Nat.le_of_ble_eq_true rfl⟩ ⟨rfl, rfl⟩ ?_
  refine VJ.iconst (v := 1) C dX5_look_24 (by decide) ?_
  refine VJ.iadd C dX5_look_25 ?_
  refine VJ.putS (q0 := 2) C R 1 (fun R1 => pf [xW cI cZ o ad I R1 rf, lW cI cZ (rf 1) adk Ik Rk cmk]) rfl (fun _ => rfl) (c_X5_putt l G cI cZ cQ cU cJ (ad 1) 24 (Nat.le_of_ble_eq_true rfl) (R 1) x2 ((atv 24 (R 1) x2) + 1)) (va_cwS 3 C.1.2.2.2.2 gX5_look_X5_put rfl rfl rfl hy_X5_put ⟨Nat.le_of_ble_eq_true rfl, Nat.le_of_ble_eq_true rfl⟩) rfl (Nat.le_of_ble_eq_true rfl) dX5_look_26 ⟨Nat.le_of_ble_eq_true rfl, Nat.le_of_ble_eq_true rfl⟩ ⟨rfl, rfl⟩ (fun R1 => ?_)
  refine VJ.iload_n C 1 dX5_look_29 rfl ?_
  refine VJ.if_eq C 47 dX5_look_30 (by decide) (fun _ => ?_) (fun _ => ?_)
  · refine VJ.sub [0, 2] rfl ?_
    exact j47 R1 x2
  · refine VJ.aload_n C 0 dX5_look_33 rfl ?_
    refine VJ.get (C0 := RX5) (T := TX5) (N := 11) (ci := 5) C in_X5_look_X5 0 rfl rfl 6 (Nat.le_of_ble_eq_true rfl) (C.1.2.2.2.2 _ (List.mem_of_getElem? (i := 2) rfl)) (fun _ h9 => h9) (v := .ref (ad 0)) rfl dX5_look_34 ?_
    refine VJ.iload_n C 2 dX5_look_37 rfl ?_
    refine VJ.atS (q0 := 1) C rfl (c_X5_isSett l G cI cZ cQ cU cJ (ad 0) 24 (Nat.le_of_ble_eq_true rfl) (R1 0) x2) (va_cwS 2 C.1.2.2.2.2 gX5_look_X5_isSet rfl rfl rfl hy_X5_isSet ⟨Nat.le_of_ble_eq_true rfl, Nat.le_of_ble_eq_true rfl⟩) rfl (Nat.le_of_ble_eq_true rfl) dX5_look_38 ⟨Nat.le_of_ble_eq_true rfl, Nat.le_of_ble_eq_true rfl⟩ ⟨rfl, rfl⟩ ?_
    refine VJ.if_eq C 47 dX5_look_41 (by decide) (fun _ => ?_) (fun _ => ?_)
    · refine VJ.sub [0, 2] rfl ?_
      exact j47 R1 x2
    · refine VJ.bipush (v := (-2)) C dX5_look_44 (by decide) ?_
      exact VJ.iretP C rmX5_look.cells rmX5_look.slots (fun _ h9 => h9) ⟨rfl, fun _ => rfl, rfl⟩ hret (Nat.le_of_ble_eq_true rfl) (Nat.le_of_ble_eq_true rfl) dX5_look_46

def f_X5_looks (I : OI) (R : RI) (x1 : Int32) : Option (Nat × Int32) :=
  obc (f_X5_requirePerson I R x1) (fun k9 => (k9, 0)) (some (0, atv 24 (R 1) x1))
abbrev rmX5_looks : Room := { frames := 7, cells := 1, slots := 6, locals := 111 }
theorem in_X5_looks_X5 : ∀ w ∈ u_ws RX5 TX5 11, w ∈ wsX5_looks := in_of 13 rfl
theorem hy_X5_looks : yX5_looks.cls ≠ "java/lang/invoke/MethodHandle" ∧ yX5_looks.cls ≠ "java/lang/invoke/VarHandle" ∧ (parseMethodDescriptor yX5_looks.desc).map (fun d => d.parameters.length) = some 1 := by decide +kernel
theorem hyV_X5_looks : yX5_looks.cls = RX5 ∧ yX5_looks.cls ≠ "java/lang/invoke/MethodHandle" ∧ yX5_looks.cls ≠ "java/lang/invoke/VarHandle" ∧ (parseMethodDescriptor yX5_looks.desc).map (fun d => d.parameters.length) = some 1 := ⟨rfl, hy_X5_looks⟩
set_option maxHeartbeats 8000000 in
set_option maxRecDepth 100000 in
theorem c_X5_looks (l : Launch) (hl9 : l.stackTraces = false) (G : va_G) (cI cZ cQ cU cJ : ClassId) (o : Nat) (ad : Nat → Nat) (rf : Nat → Nat) (I : OI) (R : RI) (x1 : Int32) (out : Nat × Int32) (hf : f_X5_looks I R x1 = some out) : ConX l yX5_looks wsX5_looks rmX5_looks G vwCl (tys cI cZ cQ cU cJ) nws strs [.ref o, .int x1] (pf [xW cI cZ o ad I R rf]) (fun k' r M' => k' = out.1 ∧ (k' = 0 → r = some (.int out.2)) ∧ M' = pf [xW cI cZ o ad I R rf]) := by
  refine conX_of (Qf := fun (o9 : Nat × Int32) below A args s t9 => QP below G vwCl A args s rmX5_looks.cells rmX5_looks.slots ((fun (out : Nat × Int32) (k' : Nat) (r : Option Value) (M' : va_W) => k' = out.1 ∧ (k' = 0 → r = some (.int out.2)) ∧ M' = pf [xW cI cZ o ad I R rf]) o9) t9) (maxL := 2) (own := RX5) hl9 rfl (by decide +kernel) rfl (Nat.le_of_ble_eq_true rfl) (fun _ _ _ _ _ h9 => h9) ?_ hf
  intro p e s m args below meth c A CX hret hE
  have C := CX.1
  unfold f_X5_looks
  refine VJ.aload_n C 0 dX5_looks_0 rfl ?_
  refine VJ.iload_n C 1 dX5_looks_1 rfl ?_
  refine VJ.reqV (T := (fun k9 => (k9, 0))) (P := fun k9 => (fun (out : Nat × Int32) (k' : Nat) (r : Option Value) (M' : va_W) => k' = out.1 ∧ (k' = 0 → r = some (.int out.2)) ∧ M' = pf [xW cI cZ o ad I R rf]) (k9, 0)) CX [.int x1] (pf [xW cI cZ o ad I R rf]) ([]) 1 6 rmX5_looks.cells rmX5_looks.slots hE (fun _ h9 => c_X5_requirePerson l hl9 G cI cZ cQ cU cJ o ad rf I R x1 _ h9) (vj_p0 _) 0 rfl rfl (cwV 1 C.1.2.2.2.2 gX5_looks_X5_requirePerson rfl rfl rfl hyV_X5_requirePerson ⟨Nat.le_of_ble_eq_true rfl, Nat.le_of_ble_eq_true rfl⟩) rfl rfl (Nat.le_of_ble_eq_true rfl) dX5_looks_2 ⟨Nat.le_of_ble_eq_true rfl, Nat.le_of_ble_eq_true rfl⟩ ⟨rfl, rfl⟩ ⟨Nat.le_of_ble_eq_true rfl, Nat.le_of_ble_eq_true rfl⟩ (fun _ _ h9 => h9) (fun _ => ⟨rfl, fun h9 => absurd h9 (Nat.succ_ne_zero _), rfl⟩) ?_
  refine VJ.aload_n C 0 dX5_looks_5 rfl ?_
  refine VJ.get (C0 := RX5) (T := TX5) (N := 11) (ci := 5) C in_X5_looks_X5 0 rfl rfl 7 (Nat.le_of_ble_eq_true rfl) (C.1.2.2.2.2 _ (List.mem_of_getElem? (i := 1) rfl)) (fun _ h9 => h9) (v := .ref (ad 1)) rfl dX5_looks_6 ?_
  refine VJ.iload_n C 1 dX5_looks_9 rfl ?_
  refine VJ.atS (q0 := 2) C rfl (c_X5_att l G cI cZ cQ cU cJ (ad 1) 24 (Nat.le_of_ble_eq_true rfl) (R 1) x1) (va_cwS 2 C.1.2.2.2.2 gX5_looks_X5_at rfl rfl rfl hy_X5_at ⟨Nat.le_of_ble_eq_true rfl, Nat.le_of_ble_eq_true rfl⟩) rfl (Nat.le_of_ble_eq_true rfl) dX5_looks_10 ⟨Nat.le_of_ble_eq_true rfl, Nat.le_of_ble_eq_true rfl⟩ ⟨rfl, rfl⟩ ?_
  exact VJ.iretP C rmX5_looks.cells rmX5_looks.slots (fun _ h9 => h9) ⟨rfl, fun _ => rfl, rfl⟩ hret (Nat.le_of_ble_eq_true rfl) (Nat.le_of_ble_eq_true rfl) dX5_looks_13

