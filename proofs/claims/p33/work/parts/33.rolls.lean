theorem dp_0_1_3_2 : ([0, 1, 3, 2] : List Nat).Perm (List.range 4) := by decide +kernel
theorem dp_0_2_1_3 : ([0, 2, 1, 3] : List Nat).Perm (List.range 4) := by decide +kernel
set_option maxHeartbeats 4000000 in
set_option maxRecDepth 100000 in
def f_X5_requireRoll_j23 (I : OI) (R : RI) (rs : OO) (y0 : Option Nat) : Option (Nat × Nat) :=
  oc y0 (some (1, 0)) (fun a1 => some (0, a1))
def f_X5_requireRoll (I : OI) (R : RI) (rs : OO) (x1 : Int32) : Option (Nat × Nat) :=
  if x1 < 0 then (f_X5_requireRoll_j23 I R rs none) else (if 5 ≤ x1 then (f_X5_requireRoll_j23 I R rs none) else (og x1 5 (f_X5_requireRoll_j23 I R rs (rs x1.toNatClampNeg))))
abbrev rmX5_requireRoll : Room := { frames := 6, cells := 1, slots := 6, locals := 90 }
theorem in_X5_requireRoll_X5 : ∀ w ∈ u_ws RX5 TX5 11, w ∈ wsX5_requireRoll := in_of 4 rfl
theorem hy_X5_requireRoll : yX5_requireRoll.cls ≠ "java/lang/invoke/MethodHandle" ∧ yX5_requireRoll.cls ≠ "java/lang/invoke/VarHandle" ∧ (parseMethodDescriptor yX5_requireRoll.desc).map (fun d => d.parameters.length) = some 1 := by decide +kernel
theorem hyV_X5_requireRoll : yX5_requireRoll.cls = RX5 ∧ yX5_requireRoll.cls ≠ "java/lang/invoke/MethodHandle" ∧ yX5_requireRoll.cls ≠ "java/lang/invoke/VarHandle" ∧ (parseMethodDescriptor yX5_requireRoll.desc).map (fun d => d.parameters.length) = some 1 := ⟨rfl, hy_X5_requireRoll⟩
set_option maxHeartbeats 8000000 in
set_option maxRecDepth 100000 in
theorem c_X5_requireRoll (l : Launch) (hl9 : l.stackTraces = false) (G : va_G) (cI cZ cQ cU cJ : ClassId) (o : Nat) (ad : Nat → Nat) (rf : Nat → Nat) (I : OI) (R : RI) (rs : OO) (x1 : Int32) (out : Nat × Nat) (hf : f_X5_requireRoll I R rs x1 = some out) : ConX l yX5_requireRoll wsX5_requireRoll rmX5_requireRoll G vwCl (tys cI cZ cQ cU cJ) nws strs [.ref o, .int x1] (pf [xW cI cZ o ad I R rf, qW cU (rf 5) rs]) (fun k' r M' => k' = out.1 ∧ r = some (.ref out.2) ∧ M' = pf [xW cI cZ o ad I R rf, qW cU (rf 5) rs]) := by
  refine conX_of (Qf := fun (o9 : Nat × Nat) below A args s t9 => QP below G vwCl A args s rmX5_requireRoll.cells rmX5_requireRoll.slots ((fun (out : Nat × Nat) (k' : Nat) (r : Option Value) (M' : va_W) => k' = out.1 ∧ r = some (.ref out.2) ∧ M' = pf [xW cI cZ o ad I R rf, qW cU (rf 5) rs]) o9) t9) (maxL := 3) (own := RX5) hl9 rfl (by decide +kernel) rfl (Nat.le_of_ble_eq_true rfl) (fun _ _ _ _ _ h9 => h9) ?_ hf
  intro p e s m args below meth c A CX hret hE
  have C := CX.1
  have j23 : ∀ (y0 : Option Nat), VJ p l e rmX5_requireRoll s m args below meth c 3 G vwCl A (fun (o9 : Nat × Nat) (t9 : State) => QP below G vwCl A args s rmX5_requireRoll.cells rmX5_requireRoll.slots ((fun (out : Nat × Nat) (k' : Nat) (r : Option Value) (M' : va_W) => k' = out.1 ∧ r = some (.ref out.2) ∧ M' = pf [xW cI cZ o ad I R rf, qW cU (rf 5) rs]) o9) t9) 0 0 (f_X5_requireRoll_j23 I R rs  y0) (pf [xW cI cZ o ad I R rf, qW cU (rf 5) rs]) 23 [] [va_rf y0] := by
    intro  y0
    unfold f_X5_requireRoll_j23
    refine VJ.astore_nq C [(2, va_rf y0)] dX5_requireRoll_23 (Nat.le_of_ble_eq_true rfl) rfl ?_
    refine VJ.aload_nq C 0 dX5_requireRoll_24 rfl ?_
    refine VJ.ifnonnull C 38 dX5_requireRoll_25 (by decide) (fun e9 => ?_) (fun a1 e9 => ?_)
    · subst e9
      exact VJ.throwS CX 0 rmX5_requireRoll.cells rmX5_requireRoll.slots (text := "no such ROLL") hE (fun _ h9 => h9) ⟨rfl, rfl, rfl⟩ xf0 (C.1.2.2.2.2 _ (List.mem_of_getElem? (i := 1) rfl)) (C.1.2.2.2.2 _ (List.mem_of_getElem? (i := 2) rfl)) (List.mem_of_getElem? (i := 12) rfl) (vj_hat C (fun w h9 => List.mem_cons_of_mem _ (List.mem_append_right _ h9)) xh0 xi0) xg0 dX5_requireRoll_28 dX5_requireRoll_31 dX5_requireRoll_32 dX5_requireRoll_34 dX5_requireRoll_37 (Nat.le_of_ble_eq_true rfl) (Nat.le_of_ble_eq_true rfl) (Nat.le_of_ble_eq_true rfl) (Nat.le_of_ble_eq_true rfl) (Nat.le_of_ble_eq_true rfl) (Nat.le_of_ble_eq_true rfl)
    · subst e9
      refine VJ.aload_n C 0 dX5_requireRoll_38 rfl ?_
      exact VJ.aretP C rmX5_requireRoll.cells rmX5_requireRoll.slots (fun _ h9 => h9) ⟨rfl, rfl, rfl⟩ hret (Nat.le_of_ble_eq_true rfl) (Nat.le_of_ble_eq_true rfl) dX5_requireRoll_39
  unfold f_X5_requireRoll
  refine VJ.iload_n C 1 dX5_requireRoll_0 rfl ?_
  refine VJ.if_lt C 22 dX5_requireRoll_1 (by decide) (fun _ => ?_) (fun _ => ?_)
  · refine VJ.null C dX5_requireRoll_22 ?_
    refine VJ.sub [] rfl ?_
    exact j23 none
  · refine VJ.iload_n C 1 dX5_requireRoll_4 rfl ?_
    refine VJ.aload_n C 0 dX5_requireRoll_5 rfl ?_
    refine VJ.get (C0 := RX5) (T := TX5) (N := 11) (ci := 5) C in_X5_requireRoll_X5 0 rfl rfl 5 (Nat.le_of_ble_eq_true rfl) (C.1.2.2.2.2 _ (List.mem_of_getElem? (i := 3) rfl)) (fun _ h9 => h9) (v := .ref (rf 5)) rfl dX5_requireRoll_6 ?_
    refine VJ.alen C 3 3 (v := 5) rfl rfl (show Int32.ofNat 5 = 5 by decide) dX5_requireRoll_9 ?_
    refine VJ.icmp_ge C 22 dX5_requireRoll_10 (by decide) (fun _ => ?_) (fun _ => ?_)
    · refine VJ.null C dX5_requireRoll_22 ?_
      refine VJ.sub [] rfl ?_
      exact j23 none
    · refine VJ.aload_n C 0 dX5_requireRoll_13 rfl ?_
      refine VJ.get (C0 := RX5) (T := TX5) (N := 11) (ci := 5) C in_X5_requireRoll_X5 0 rfl rfl 5 (Nat.le_of_ble_eq_true rfl) (C.1.2.2.2.2 _ (List.mem_of_getElem? (i := 3) rfl)) (fun _ h9 => h9) (v := .ref (rf 5)) rfl dX5_requireRoll_14 ?_
      refine VJ.iload_n C 1 dX5_requireRoll_17 rfl ?_
      refine VJ.aaldq (C0 := "Residentroll$Roll") C 3 3 rfl rfl dX5_requireRoll_18 ?_
      refine VJ.goto C 23 dX5_requireRoll_19 (by decide) ?_
      refine VJ.sub [] rfl ?_
      exact j23 (rs x1.toNatClampNeg)

set_option maxHeartbeats 4000000 in
set_option maxRecDepth 100000 in
def f_X5_owes_l11b (N : Nat) (nr : Nat) (or : Nat) (I : OI) (R : RI) (Ik : OI) (Rk : RI) (cmk : Option Nat) (rs : OO) (Ir : OI) (Rr : RI) (k11 : Int32 → Int32 → Option (Nat × Int32)) (x3 : Int32) (x4 : Int32) : Option (Nat × Int32) :=
  if (I 1) ≤ x4 then (some (0, x3)) else (ob1 (f_X5_dueTo nr I R Ik Rk cmk Ir Rr x4) (fun r2 => if r2 = (-1) then (ol (x4 + Int32.ofInt 1) (fun v3 => k11 x3 v3)) else (ol (x3 + Int32.ofInt 1) (fun v4 => ol (x4 + Int32.ofInt 1) (fun v5 => k11 v4 v5)))))
set_option maxHeartbeats 4000000 in
set_option maxRecDepth 100000 in
def f_X5_owes_l11 (N : Nat) (nr : Nat) (or : Nat) (I : OI) (R : RI) (Ik : OI) (Rk : RI) (cmk : Option Nat) (rs : OO) (Ir : OI) (Rr : RI) : Nat → Int32 → Int32 → Option (Nat × Int32)
  | 0 => fun _ _ => none
  | n9 + 1 => f_X5_owes_l11b N nr or I R Ik Rk cmk rs Ir Rr (f_X5_owes_l11 N nr or I R Ik Rk cmk rs Ir Rr n9)
def f_X5_owes (N : Nat) (nr : Nat) (or : Nat) (I : OI) (R : RI) (Ik : OI) (Rk : RI) (cmk : Option Nat) (rs : OO) (Ir : OI) (Rr : RI) (x1 : Int32) : Option (Nat × Int32) :=
  obr (f_X5_requireRoll I R rs x1) (fun k9 => (k9, 0)) (fun a1 => oe a1 or (f_X5_owes_l11 N nr or I R Ik Rk cmk rs Ir Rr N 0 0))
abbrev rmX5_owes : Room := { frames := 7, cells := 1, slots := 6, locals := 112 }
theorem in_X5_owes_X5 : ∀ w ∈ u_ws RX5 TX5 11, w ∈ wsX5_owes := in_of 48 rfl
theorem hy_X5_owes : yX5_owes.cls ≠ "java/lang/invoke/MethodHandle" ∧ yX5_owes.cls ≠ "java/lang/invoke/VarHandle" ∧ (parseMethodDescriptor yX5_owes.desc).map (fun d => d.parameters.length) = some 1 := by decide +kernel
theorem hyV_X5_owes : yX5_owes.cls = RX5 ∧ yX5_owes.cls ≠ "java/lang/invoke/MethodHandle" ∧ yX5_owes.cls ≠ "java/lang/invoke/VarHandle" ∧ (parseMethodDescriptor yX5_owes.desc).map (fun d => d.parameters.length) = some 1 := ⟨rfl, hy_X5_owes⟩
set_option maxHeartbeats 8000000 in
set_option maxRecDepth 100000 in
theorem c_X5_owes (l : Launch) (hl9 : l.stackTraces = false) (G : va_G) (cI cZ cQ cU cJ : ClassId) (N : Nat) (o : Nat) (ad : Nat → Nat) (rf : Nat → Nat) (I : OI) (R : RI) (adk : Nat → Nat) (Ik : OI) (Rk : RI) (cmk : Option Nat) (rs : OO) (or : Nat) (adr : Nat → Nat) (nr : Nat) (Ir : OI) (Rr : RI) (x1 : Int32) (out : Nat × Int32) (hf : f_X5_owes N nr or I R Ik Rk cmk rs Ir Rr x1 = some out) : ConX l yX5_owes wsX5_owes rmX5_owes G vwCl (tys cI cZ cQ cU cJ) nws strs [.ref o, .int x1] (pf [xW cI cZ o ad I R rf, lW cI cZ (rf 1) adk Ik Rk cmk, qW cU (rf 5) rs, rW cI cZ or adr nr Ir Rr]) (fun k' r M' => k' = out.1 ∧ (k' = 0 → r = some (.int out.2)) ∧ M' = pf [xW cI cZ o ad I R rf, lW cI cZ (rf 1) adk Ik Rk cmk, qW cU (rf 5) rs, rW cI cZ or adr nr Ir Rr]) := by
  refine conX_of (Qf := fun (o9 : Nat × Int32) below A args s t9 => QP below G vwCl A args s rmX5_owes.cells rmX5_owes.slots ((fun (out : Nat × Int32) (k' : Nat) (r : Option Value) (M' : va_W) => k' = out.1 ∧ (k' = 0 → r = some (.int out.2)) ∧ M' = pf [xW cI cZ o ad I R rf, lW cI cZ (rf 1) adk Ik Rk cmk, qW cU (rf 5) rs, rW cI cZ or adr nr Ir Rr]) o9) t9) (maxL := 5) (own := RX5) hl9 rfl (by decide +kernel) rfl (Nat.le_of_ble_eq_true rfl) (fun _ _ _ _ _ h9 => h9) ?_ hf
  intro p e s m args below meth c A CX hret hE
  have C := CX.1
  have j11 : ∀ (n9 : Nat) (x3 : Int32) (x4 : Int32), VJ p l e rmX5_owes s m args below meth c 5 G vwCl A (fun (o9 : Nat × Int32) (t9 : State) => QP below G vwCl A args s rmX5_owes.cells rmX5_owes.slots ((fun (out : Nat × Int32) (k' : Nat) (r : Option Value) (M' : va_W) => k' = out.1 ∧ (k' = 0 → r = some (.int out.2)) ∧ M' = pf [xW cI cZ o ad I R rf, lW cI cZ (rf 1) adk Ik Rk cmk, qW cU (rf 5) rs, rW cI cZ or adr nr Ir Rr]) o9) t9) 1 6 (f_X5_owes_l11 N nr or I R Ik Rk cmk rs Ir Rr  n9 x3 x4) (pf [xW cI cZ o ad I R rf, lW cI cZ (rf 1) adk Ik Rk cmk, qW cU (rf 5) rs, rW cI cZ or adr nr Ir Rr]) 11 [(0, .ref o), (2, .ref or), (3, .int x3), (4, .int x4)] [] := by
    intro  n9
    induction n9 with
    | zero => intro x3 x4; exact VJ.fnone rfl
    | succ n9 i11 =>
      intro x3 x4
      refine VJ.eqf (f' := f_X5_owes_l11b N nr or I R Ik Rk cmk rs Ir Rr  (f_X5_owes_l11 N nr or I R Ik Rk cmk rs Ir Rr  n9) x3 x4) rfl ?_
      generalize f_X5_owes_l11 N nr or I R Ik Rk cmk rs Ir Rr  n9 = k11 at i11 ⊢
      unfold f_X5_owes_l11b
      refine VJ.iload C 3 dX5_owes_11 rfl ?_
      refine VJ.aload_n C 0 dX5_owes_13 rfl ?_
      refine VJ.get (C0 := RX5) (T := TX5) (N := 11) (ci := 5) C in_X5_owes_X5 0 rfl rfl 9 (Nat.le_of_ble_eq_true rfl) (C.1.2.2.2.2 _ (List.mem_of_getElem? (i := 1) rfl)) (fun _ h9 => h9) (v := .int (I 1)) rfl dX5_owes_14 ?_
      refine VJ.icmp_ge C 40 dX5_owes_17 (by decide) (fun _ => ?_) (fun _ => ?_)
      · refine VJ.iload_n C 2 dX5_owes_40 rfl ?_
        exact VJ.iretP C rmX5_owes.cells rmX5_owes.slots (fun _ h9 => h9) ⟨rfl, fun _ => rfl, rfl⟩ hret (Nat.le_of_ble_eq_true rfl) (Nat.le_of_ble_eq_true rfl) dX5_owes_41
      · refine VJ.aload_n C 0 dX5_owes_20 rfl ?_
        refine VJ.aload_n C 1 dX5_owes_21 rfl ?_
        refine VJ.iload C 3 dX5_owes_22 rfl ?_
        refine VJ.callV1 C [.ref or, .int x4] (pf [xW cI cZ o ad I R rf, lW cI cZ (rf 1) adk Ik Rk cmk, rW cI cZ or adr nr Ir Rr]) (pf [qW cU (rf 5) rs]) (fun r2 => some (.int r2)) (fun r2 => pf [xW cI cZ o ad I R rf, lW cI cZ (rf 1) adk Ik Rk cmk, rW cI cZ or adr nr Ir Rr]) (fun r2 => pf [xW cI cZ o ad I R rf, lW cI cZ (rf 1) adk Ik Rk cmk, qW cU (rf 5) rs, rW cI cZ or adr nr Ir Rr]) (fun r2 => [.int r2]) 1 6 (fun _ h9 => c_X5_dueTo l G cI cZ cQ cU cJ o ad rf I R adk Ik Rk cmk or adr nr Ir Rr x4 _ h9) (vj_pf 4 [0, 1, 3, 2] rfl rfl dp_0_1_3_2) (fun _ => (vj_pf 4 [0, 1, 3, 2] rfl rfl dp_0_1_3_2).symm) 0 rfl rfl (cwV 2 C.1.2.2.2.2 gX5_owes_X5_dueTo rfl rfl rfl hyV_X5_dueTo ⟨Nat.le_of_ble_eq_true rfl, Nat.le_of_ble_eq_true rfl⟩) rfl rfl (fun _ => rfl) (Nat.le_of_ble_eq_true rfl) dX5_owes_24 ⟨Nat.le_of_ble_eq_true rfl, Nat.le_of_ble_eq_true rfl⟩ ⟨rfl, rfl⟩ (fun r2 => ?_)
        refine VJ.iconst (v := (-1)) C dX5_owes_27 (by decide) ?_
        refine VJ.icmp_eq C 34 dX5_owes_28 (by decide) (fun _ => ?_) (fun _ => ?_)
        · refine VJ.iincN C 3 (fun v3 => [(4, .int v3), (0, .ref o), (2, .ref or), (3, .int x3)]) dX5_owes_34 rfl (Nat.le_of_ble_eq_true rfl) (fun _ => rfl) (fun v3 => ?_)
          refine VJ.goto C 11 dX5_owes_37 (by decide) ?_
          refine VJ.sub [1, 2, 3, 0] rfl ?_
          exact i11 x3 v3
        · refine VJ.iincN C 2 (fun v4 => [(3, .int v4), (0, .ref o), (2, .ref or), (4, .int x4)]) dX5_owes_31 rfl (Nat.le_of_ble_eq_true rfl) (fun _ => rfl) (fun v4 => ?_)
          refine VJ.iincN C 3 (fun v5 => [(4, .int v5), (3, .int v4), (0, .ref o), (2, .ref or)]) dX5_owes_34 rfl (Nat.le_of_ble_eq_true rfl) (fun _ => rfl) (fun v5 => ?_)
          refine VJ.goto C 11 dX5_owes_37 (by decide) ?_
          refine VJ.sub [2, 3, 1, 0] rfl ?_
          exact i11 v4 v5
  unfold f_X5_owes
  refine VJ.aload_n C 0 dX5_owes_0 rfl ?_
  refine VJ.iload_n C 1 dX5_owes_1 rfl ?_
  refine VJ.reqR (T := (fun k9 => (k9, 0))) (P := fun k9 => (fun (out : Nat × Int32) (k' : Nat) (r : Option Value) (M' : va_W) => k' = out.1 ∧ (k' = 0 → r = some (.int out.2)) ∧ M' = pf [xW cI cZ o ad I R rf, lW cI cZ (rf 1) adk Ik Rk cmk, qW cU (rf 5) rs, rW cI cZ or adr nr Ir Rr]) (k9, 0)) CX [.int x1] (pf [xW cI cZ o ad I R rf, qW cU (rf 5) rs]) (pf [lW cI cZ (rf 1) adk Ik Rk cmk, rW cI cZ or adr nr Ir Rr]) 1 6 rmX5_owes.cells rmX5_owes.slots hE (fun _ h9 => c_X5_requireRoll l hl9 G cI cZ cQ cU cJ o ad rf I R rs x1 _ h9) (vj_pf 4 [0, 2, 1, 3] rfl rfl dp_0_2_1_3) 0 rfl rfl (cwV 1 C.1.2.2.2.2 gX5_owes_X5_requireRoll rfl rfl rfl hyV_X5_requireRoll ⟨Nat.le_of_ble_eq_true rfl, Nat.le_of_ble_eq_true rfl⟩) rfl rfl (Nat.le_of_ble_eq_true rfl) dX5_owes_2 ⟨Nat.le_of_ble_eq_true rfl, Nat.le_of_ble_eq_true rfl⟩ ⟨rfl, rfl⟩ ⟨Nat.le_of_ble_eq_true rfl, Nat.le_of_ble_eq_true rfl⟩ (fun _ _ h9 => h9) (fun _ => ⟨rfl, fun h9 => absurd h9 (Nat.succ_ne_zero _), rfl⟩) (fun a1 => ?_)
  refine VJ.roe (b := or) (fun e9 => ?_)
  subst e9
  refine VJ.astore_n C [(2, .ref or), (0, .ref o), (1, .int x1)] dX5_owes_5 (Nat.le_of_ble_eq_true rfl) rfl ?_
  refine VJ.iconst (v := 0) C dX5_owes_6 (by decide) ?_
  refine VJ.istore_n C [(3, .int 0), (2, .ref or), (0, .ref o), (1, .int x1)] dX5_owes_7 (Nat.le_of_ble_eq_true rfl) rfl ?_
  refine VJ.iconst (v := 0) C dX5_owes_8 (by decide) ?_
  refine VJ.istore C [(4, .int 0), (3, .int 0), (2, .ref or), (0, .ref o), (1, .int x1)] dX5_owes_9 (Nat.le_of_ble_eq_true rfl) rfl ?_
  refine VJ.sub [3, 2, 1, 0] rfl ?_
  exact j11 N 0 0

def f_X5B_owes (I : OI) (R : RI) (Ik : OI) (Rk : RI) (cmk : Option Nat) (rs : OO) (x1 : Int32) : Option (Nat × Int32) :=
  obr (f_X5_requireRoll I R rs x1) (fun k9 => (k9, 0)) (fun _ => none)
abbrev rmX5B_owes : Room := rmX5_owes
theorem hy_X5B_owes : yX5_owes.cls ≠ "java/lang/invoke/MethodHandle" ∧ yX5_owes.cls ≠ "java/lang/invoke/VarHandle" ∧ (parseMethodDescriptor yX5_owes.desc).map (fun d => d.parameters.length) = some 1 := by decide +kernel
theorem hyV_X5B_owes : yX5_owes.cls = RX5 ∧ yX5_owes.cls ≠ "java/lang/invoke/MethodHandle" ∧ yX5_owes.cls ≠ "java/lang/invoke/VarHandle" ∧ (parseMethodDescriptor yX5_owes.desc).map (fun d => d.parameters.length) = some 1 := ⟨rfl, hy_X5B_owes⟩
set_option maxHeartbeats 8000000 in
set_option maxRecDepth 100000 in
theorem c_X5B_owes (l : Launch) (hl9 : l.stackTraces = false) (G : va_G) (cI cZ cQ cU cJ : ClassId) (o : Nat) (ad : Nat → Nat) (rf : Nat → Nat) (I : OI) (R : RI) (adk : Nat → Nat) (Ik : OI) (Rk : RI) (cmk : Option Nat) (rs : OO) (x1 : Int32) (out : Nat × Int32) (hf : f_X5B_owes I R Ik Rk cmk rs x1 = some out) : ConX l yX5_owes wsX5_owes rmX5B_owes G vwCl (tys cI cZ cQ cU cJ) nws strs [.ref o, .int x1] (pf [xW cI cZ o ad I R rf, lW cI cZ (rf 1) adk Ik Rk cmk, qW cU (rf 5) rs]) (fun k' r M' => k' = out.1 ∧ (k' = 0 → r = some (.int out.2)) ∧ M' = pf [xW cI cZ o ad I R rf, lW cI cZ (rf 1) adk Ik Rk cmk, qW cU (rf 5) rs]) := by
  refine conX_of (Qf := fun (o9 : Nat × Int32) below A args s t9 => QP below G vwCl A args s rmX5B_owes.cells rmX5B_owes.slots ((fun (out : Nat × Int32) (k' : Nat) (r : Option Value) (M' : va_W) => k' = out.1 ∧ (k' = 0 → r = some (.int out.2)) ∧ M' = pf [xW cI cZ o ad I R rf, lW cI cZ (rf 1) adk Ik Rk cmk, qW cU (rf 5) rs]) o9) t9) (maxL := 5) (own := RX5) hl9 rfl (by decide +kernel) rfl (Nat.le_of_ble_eq_true rfl) (fun _ _ _ _ _ h9 => h9) ?_ hf
  intro p e s m args below meth c A CX hret hE
  have C := CX.1
  unfold f_X5B_owes
  refine VJ.aload_n C 0 dX5_owes_0 rfl ?_
  refine VJ.iload_n C 1 dX5_owes_1 rfl ?_
  refine VJ.reqR (T := (fun k9 => (k9, 0))) (P := fun k9 => (fun (out : Nat × Int32) (k' : Nat) (r : Option Value) (M' : va_W) => k' = out.1 ∧ (k' = 0 → r = some (.int out.2)) ∧ M' = pf [xW cI cZ o ad I R rf, lW cI cZ (rf 1) adk Ik Rk cmk, qW cU (rf 5) rs]) (k9, 0)) CX [.int x1] (pf [xW cI cZ o ad I R rf, qW cU (rf 5) rs]) (pf [lW cI cZ (rf 1) adk Ik Rk cmk]) 1 6 rmX5B_owes.cells rmX5B_owes.slots hE (fun _ h9 => c_X5_requireRoll l hl9 G cI cZ cQ cU cJ o ad rf I R rs x1 _ h9) (vj_pf 3 [0, 2, 1] rfl rfl dp_0_2_1) 0 rfl rfl (cwV 1 C.1.2.2.2.2 gX5_owes_X5_requireRoll rfl rfl rfl hyV_X5_requireRoll ⟨Nat.le_of_ble_eq_true rfl, Nat.le_of_ble_eq_true rfl⟩) rfl rfl (Nat.le_of_ble_eq_true rfl) dX5_owes_2 ⟨Nat.le_of_ble_eq_true rfl, Nat.le_of_ble_eq_true rfl⟩ ⟨rfl, rfl⟩ ⟨Nat.le_of_ble_eq_true rfl, Nat.le_of_ble_eq_true rfl⟩ (fun _ _ h9 => h9) (fun _ => ⟨rfl, fun h9 => absurd h9 (Nat.succ_ne_zero _), rfl⟩) (fun a1 => ?_)
  exact VJ.fnone rfl

set_option maxHeartbeats 4000000 in
set_option maxRecDepth 100000 in
def f_X5_message_j18 (nr : Nat) (or : Nat) (I : OI) (R : RI) (rs : OO) (Ir : OI) (Rr : RI) : Option (Nat × Int32) :=
  some (1, 0)
def f_X5_message (nr : Nat) (or : Nat) (I : OI) (R : RI) (rs : OO) (Ir : OI) (Rr : RI) (x1 : Int32) (x2 : Int32) : Option (Nat × Int32) :=
  obr (f_X5_requireRoll I R rs x1) (fun k9 => (k9, 0)) (fun a1 => oe a1 or (if x2 < 0 then (f_X5_message_j18 nr or I R rs Ir Rr) else (if x2 < (Ir 2) then (ogn nr (some (0, atv nr (Rr 1) x2))) else (f_X5_message_j18 nr or I R rs Ir Rr))))
abbrev rmX5_message : Room := { frames := 7, cells := 2, slots := 12, locals := 112 }
theorem in_X5_message_X4 : ∀ w ∈ u_ws RX4 TX4 5, w ∈ wsX5_message := in_of 12 rfl
theorem hy_X5_message : yX5_message.cls ≠ "java/lang/invoke/MethodHandle" ∧ yX5_message.cls ≠ "java/lang/invoke/VarHandle" ∧ (parseMethodDescriptor yX5_message.desc).map (fun d => d.parameters.length) = some 2 := by decide +kernel
theorem hyV_X5_message : yX5_message.cls = RX5 ∧ yX5_message.cls ≠ "java/lang/invoke/MethodHandle" ∧ yX5_message.cls ≠ "java/lang/invoke/VarHandle" ∧ (parseMethodDescriptor yX5_message.desc).map (fun d => d.parameters.length) = some 2 := ⟨rfl, hy_X5_message⟩
set_option maxHeartbeats 8000000 in
set_option maxRecDepth 100000 in
theorem c_X5_message (l : Launch) (hl9 : l.stackTraces = false) (G : va_G) (cI cZ cQ cU cJ : ClassId) (o : Nat) (ad : Nat → Nat) (rf : Nat → Nat) (I : OI) (R : RI) (rs : OO) (or : Nat) (adr : Nat → Nat) (nr : Nat) (Ir : OI) (Rr : RI) (x1 : Int32) (x2 : Int32) (out : Nat × Int32) (hf : f_X5_message nr or I R rs Ir Rr x1 x2 = some out) : ConX l yX5_message wsX5_message rmX5_message G vwCl (tys cI cZ cQ cU cJ) nws strs [.ref o, .int x1, .int x2] (pf [xW cI cZ o ad I R rf, qW cU (rf 5) rs, rW cI cZ or adr nr Ir Rr]) (fun k' r M' => k' = out.1 ∧ (k' = 0 → r = some (.int out.2)) ∧ M' = pf [xW cI cZ o ad I R rf, qW cU (rf 5) rs, rW cI cZ or adr nr Ir Rr]) := by
  refine conX_of (Qf := fun (o9 : Nat × Int32) below A args s t9 => QP below G vwCl A args s rmX5_message.cells rmX5_message.slots ((fun (out : Nat × Int32) (k' : Nat) (r : Option Value) (M' : va_W) => k' = out.1 ∧ (k' = 0 → r = some (.int out.2)) ∧ M' = pf [xW cI cZ o ad I R rf, qW cU (rf 5) rs, rW cI cZ or adr nr Ir Rr]) o9) t9) (maxL := 4) (own := RX5) hl9 rfl (by decide +kernel) rfl (Nat.le_of_ble_eq_true rfl) (fun _ _ _ _ _ h9 => h9) ?_ hf
  intro p e s m args below meth c A CX hret hE
  have C := CX.1
  have j18 : VJ p l e rmX5_message s m args below meth c 4 G vwCl A (fun (o9 : Nat × Int32) (t9 : State) => QP below G vwCl A args s rmX5_message.cells rmX5_message.slots ((fun (out : Nat × Int32) (k' : Nat) (r : Option Value) (M' : va_W) => k' = out.1 ∧ (k' = 0 → r = some (.int out.2)) ∧ M' = pf [xW cI cZ o ad I R rf, qW cU (rf 5) rs, rW cI cZ or adr nr Ir Rr]) o9) t9) 1 6 (f_X5_message_j18 nr or I R rs Ir Rr  ) (pf [xW cI cZ o ad I R rf, qW cU (rf 5) rs, rW cI cZ or adr nr Ir Rr]) 18 [] [] := by
    unfold f_X5_message_j18
    exact VJ.throwS (r := none) CX 0 rmX5_message.cells rmX5_message.slots (text := "no such place") hE (fun _ h9 => h9) ⟨rfl, fun h9 => absurd h9 (Nat.succ_ne_zero _), rfl⟩ xf0 (C.1.2.2.2.2 _ (List.mem_of_getElem? (i := 1) rfl)) (C.1.2.2.2.2 _ (List.mem_of_getElem? (i := 2) rfl)) (List.mem_of_getElem? (i := 7) rfl) (vj_hat C (fun w h9 => List.mem_cons_of_mem _ (List.mem_append_right _ h9)) xh0 xi0) xg0 dX5_message_18 dX5_message_21 dX5_message_22 dX5_message_24 dX5_message_27 (Nat.le_of_ble_eq_true rfl) (Nat.le_of_ble_eq_true rfl) (Nat.le_of_ble_eq_true rfl) (Nat.le_of_ble_eq_true rfl) (Nat.le_of_ble_eq_true rfl) (Nat.le_of_ble_eq_true rfl)
  unfold f_X5_message
  refine VJ.aload_n C 0 dX5_message_0 rfl ?_
  refine VJ.iload_n C 1 dX5_message_1 rfl ?_
  refine VJ.reqR (T := (fun k9 => (k9, 0))) (P := fun k9 => (fun (out : Nat × Int32) (k' : Nat) (r : Option Value) (M' : va_W) => k' = out.1 ∧ (k' = 0 → r = some (.int out.2)) ∧ M' = pf [xW cI cZ o ad I R rf, qW cU (rf 5) rs, rW cI cZ or adr nr Ir Rr]) (k9, 0)) CX [.int x1] (pf [xW cI cZ o ad I R rf, qW cU (rf 5) rs]) (pf [rW cI cZ or adr nr Ir Rr]) 1 6 rmX5_message.cells rmX5_message.slots hE (fun _ h9 => c_X5_requireRoll l hl9 G cI cZ cQ cU cJ o ad rf I R rs x1 _ h9) (vj_pf 3 [0, 1, 2] rfl rfl dp_0_1_2) 0 rfl rfl (cwV 1 C.1.2.2.2.2 gX5_message_X5_requireRoll rfl rfl rfl hyV_X5_requireRoll ⟨Nat.le_of_ble_eq_true rfl, Nat.le_of_ble_eq_true rfl⟩) rfl rfl (Nat.le_of_ble_eq_true rfl) dX5_message_2 ⟨Nat.le_of_ble_eq_true rfl, Nat.le_of_ble_eq_true rfl⟩ ⟨rfl, rfl⟩ ⟨Nat.le_of_ble_eq_true rfl, Nat.le_of_ble_eq_true rfl⟩ (fun _ _ h9 => h9) (fun _ => ⟨rfl, fun h9 => absurd h9 (Nat.succ_ne_zero _), rfl⟩) (fun a1 => ?_)
  refine VJ.roe (b := or) (fun e9 => ?_)
  subst e9
  refine VJ.astore_n C [(3, .ref or), (0, .ref o), (1, .int x1), (2, .int x2)] dX5_message_5 (Nat.le_of_ble_eq_true rfl) rfl ?_
  refine VJ.iload_n C 3 dX5_message_6 rfl ?_
  refine VJ.if_lt C 18 dX5_message_7 (by decide) (fun _ => ?_) (fun _ => ?_)
  · refine VJ.sub [] rfl ?_
    exact j18
  · refine VJ.iload_n C 3 dX5_message_10 rfl ?_
    refine VJ.aload_n C 0 dX5_message_11 rfl ?_
    refine VJ.getN (C0 := RX4) (T := TX4) (N := 5) (ci := 4) C in_X5_message_X4 4 rfl rfl 4 (Nat.le_of_ble_eq_true rfl) (C.nest (List.mem_of_getElem? (i := 27) rfl) rfl) (fun _ h9 => h9) (v := .int (Ir 2)) rfl dX5_message_12 ?_
    refine VJ.icmp_lt C 28 dX5_message_15 (by decide) (fun _ => ?_) (fun _ => ?_)
    · refine VJ.aload_n C 0 dX5_message_28 rfl ?_
      refine VJ.getN (C0 := RX4) (T := TX4) (N := 5) (ci := 4) C in_X5_message_X4 4 rfl rfl 3 (Nat.le_of_ble_eq_true rfl) (C.nest (List.mem_of_getElem? (i := 26) rfl) rfl) (fun _ h9 => h9) (v := .ref (adr 1)) rfl dX5_message_29 ?_
      refine VJ.iload_n C 3 dX5_message_32 rfl ?_
      refine VJ.rogn (fun hn9 => ?_)
      refine VJ.atS (q0 := 6) C rfl (c_X5_att l G cI cZ cQ cU cJ (adr 1) nr hn9 (Rr 1) x2) (va_cwS 2 C.1.2.2.2.2 gX5_message_X5_at rfl rfl rfl hy_X5_at ⟨Nat.le_of_ble_eq_true rfl, Nat.le_of_ble_eq_true rfl⟩) rfl (Nat.le_of_ble_eq_true rfl) dX5_message_33 ⟨Nat.le_of_ble_eq_true rfl, Nat.le_of_ble_eq_true rfl⟩ ⟨rfl, rfl⟩ ?_
      exact VJ.iretP C rmX5_message.cells rmX5_message.slots (fun _ h9 => h9) ⟨rfl, fun _ => rfl, rfl⟩ hret (Nat.le_of_ble_eq_true rfl) (Nat.le_of_ble_eq_true rfl) dX5_message_36
    · refine VJ.sub [] rfl ?_
      exact j18

def f_X5B_message (I : OI) (R : RI) (rs : OO) (x1 : Int32) (x2 : Int32) : Option (Nat × Int32) :=
  obr (f_X5_requireRoll I R rs x1) (fun k9 => (k9, 0)) (fun _ => none)
abbrev rmX5B_message : Room := rmX5_message
theorem hy_X5B_message : yX5_message.cls ≠ "java/lang/invoke/MethodHandle" ∧ yX5_message.cls ≠ "java/lang/invoke/VarHandle" ∧ (parseMethodDescriptor yX5_message.desc).map (fun d => d.parameters.length) = some 2 := by decide +kernel
theorem hyV_X5B_message : yX5_message.cls = RX5 ∧ yX5_message.cls ≠ "java/lang/invoke/MethodHandle" ∧ yX5_message.cls ≠ "java/lang/invoke/VarHandle" ∧ (parseMethodDescriptor yX5_message.desc).map (fun d => d.parameters.length) = some 2 := ⟨rfl, hy_X5B_message⟩
set_option maxHeartbeats 8000000 in
set_option maxRecDepth 100000 in
theorem c_X5B_message (l : Launch) (hl9 : l.stackTraces = false) (G : va_G) (cI cZ cQ cU cJ : ClassId) (o : Nat) (ad : Nat → Nat) (rf : Nat → Nat) (I : OI) (R : RI) (rs : OO) (x1 : Int32) (x2 : Int32) (out : Nat × Int32) (hf : f_X5B_message I R rs x1 x2 = some out) : ConX l yX5_message wsX5_message rmX5B_message G vwCl (tys cI cZ cQ cU cJ) nws strs [.ref o, .int x1, .int x2] (pf [xW cI cZ o ad I R rf, qW cU (rf 5) rs]) (fun k' r M' => k' = out.1 ∧ (k' = 0 → r = some (.int out.2)) ∧ M' = pf [xW cI cZ o ad I R rf, qW cU (rf 5) rs]) := by
  refine conX_of (Qf := fun (o9 : Nat × Int32) below A args s t9 => QP below G vwCl A args s rmX5B_message.cells rmX5B_message.slots ((fun (out : Nat × Int32) (k' : Nat) (r : Option Value) (M' : va_W) => k' = out.1 ∧ (k' = 0 → r = some (.int out.2)) ∧ M' = pf [xW cI cZ o ad I R rf, qW cU (rf 5) rs]) o9) t9) (maxL := 4) (own := RX5) hl9 rfl (by decide +kernel) rfl (Nat.le_of_ble_eq_true rfl) (fun _ _ _ _ _ h9 => h9) ?_ hf
  intro p e s m args below meth c A CX hret hE
  have C := CX.1
  unfold f_X5B_message
  refine VJ.aload_n C 0 dX5_message_0 rfl ?_
  refine VJ.iload_n C 1 dX5_message_1 rfl ?_
  refine VJ.reqR (T := (fun k9 => (k9, 0))) (P := fun k9 => (fun (out : Nat × Int32) (k' : Nat) (r : Option Value) (M' : va_W) => k' = out.1 ∧ (k' = 0 → r = some (.int out.2)) ∧ M' = pf [xW cI cZ o ad I R rf, qW cU (rf 5) rs]) (k9, 0)) CX [.int x1] (pf [xW cI cZ o ad I R rf, qW cU (rf 5) rs]) ([]) 1 6 rmX5B_message.cells rmX5B_message.slots hE (fun _ h9 => c_X5_requireRoll l hl9 G cI cZ cQ cU cJ o ad rf I R rs x1 _ h9) (vj_p0 _) 0 rfl rfl (cwV 1 C.1.2.2.2.2 gX5_message_X5_requireRoll rfl rfl rfl hyV_X5_requireRoll ⟨Nat.le_of_ble_eq_true rfl, Nat.le_of_ble_eq_true rfl⟩) rfl rfl (Nat.le_of_ble_eq_true rfl) dX5_message_2 ⟨Nat.le_of_ble_eq_true rfl, Nat.le_of_ble_eq_true rfl⟩ ⟨rfl, rfl⟩ ⟨Nat.le_of_ble_eq_true rfl, Nat.le_of_ble_eq_true rfl⟩ (fun _ _ h9 => h9) (fun _ => ⟨rfl, fun h9 => absurd h9 (Nat.succ_ne_zero _), rfl⟩) (fun a1 => ?_)
  exact VJ.fnone rfl

def f_X5_holds (nr : Nat) (or : Nat) (I : OI) (R : RI) (rs : OO) (Ir : OI) (Rr : RI) (x1 : Int32) (x2 : Int32) : Option (Nat × Int32) :=
  obr (f_X5_requireRoll I R rs x1) (fun k9 => (k9, 0)) (fun a1 => oe a1 or (obc (f_X5_requirePerson I R x2) (fun k9 => (k9, 0)) (some (0, atv 24 (Rr 0) x2))))
abbrev rmX5_holds : Room := { frames := 7, cells := 2, slots := 12, locals := 112 }
theorem in_X5_holds_X4 : ∀ w ∈ u_ws RX4 TX4 5, w ∈ wsX5_holds := in_of 17 rfl
theorem hy_X5_holds : yX5_holds.cls ≠ "java/lang/invoke/MethodHandle" ∧ yX5_holds.cls ≠ "java/lang/invoke/VarHandle" ∧ (parseMethodDescriptor yX5_holds.desc).map (fun d => d.parameters.length) = some 2 := by decide +kernel
theorem hyV_X5_holds : yX5_holds.cls = RX5 ∧ yX5_holds.cls ≠ "java/lang/invoke/MethodHandle" ∧ yX5_holds.cls ≠ "java/lang/invoke/VarHandle" ∧ (parseMethodDescriptor yX5_holds.desc).map (fun d => d.parameters.length) = some 2 := ⟨rfl, hy_X5_holds⟩
set_option maxHeartbeats 8000000 in
set_option maxRecDepth 100000 in
theorem c_X5_holds (l : Launch) (hl9 : l.stackTraces = false) (G : va_G) (cI cZ cQ cU cJ : ClassId) (o : Nat) (ad : Nat → Nat) (rf : Nat → Nat) (I : OI) (R : RI) (rs : OO) (or : Nat) (adr : Nat → Nat) (nr : Nat) (Ir : OI) (Rr : RI) (x1 : Int32) (x2 : Int32) (out : Nat × Int32) (hf : f_X5_holds nr or I R rs Ir Rr x1 x2 = some out) : ConX l yX5_holds wsX5_holds rmX5_holds G vwCl (tys cI cZ cQ cU cJ) nws strs [.ref o, .int x1, .int x2] (pf [xW cI cZ o ad I R rf, qW cU (rf 5) rs, rW cI cZ or adr nr Ir Rr]) (fun k' r M' => k' = out.1 ∧ (k' = 0 → r = some (.int out.2)) ∧ M' = pf [xW cI cZ o ad I R rf, qW cU (rf 5) rs, rW cI cZ or adr nr Ir Rr]) := by
  refine conX_of (Qf := fun (o9 : Nat × Int32) below A args s t9 => QP below G vwCl A args s rmX5_holds.cells rmX5_holds.slots ((fun (out : Nat × Int32) (k' : Nat) (r : Option Value) (M' : va_W) => k' = out.1 ∧ (k' = 0 → r = some (.int out.2)) ∧ M' = pf [xW cI cZ o ad I R rf, qW cU (rf 5) rs, rW cI cZ or adr nr Ir Rr]) o9) t9) (maxL := 4) (own := RX5) hl9 rfl (by decide +kernel) rfl (Nat.le_of_ble_eq_true rfl) (fun _ _ _ _ _ h9 => h9) ?_ hf
  intro p e s m args below meth c A CX hret hE
  have C := CX.1
  unfold f_X5_holds
  refine VJ.aload_n C 0 dX5_holds_0 rfl ?_
  refine VJ.iload_n C 1 dX5_holds_1 rfl ?_
  refine VJ.reqR (T := (fun k9 => (k9, 0))) (P := fun k9 => (fun (out : Nat × Int32) (k' : Nat) (r : Option Value) (M' : va_W) => k' = out.1 ∧ (k' = 0 → r = some (.int out.2)) ∧ M' = pf [xW cI cZ o ad I R rf, qW cU (rf 5) rs, rW cI cZ or adr nr Ir Rr]) (k9, 0)) CX [.int x1] (pf [xW cI cZ o ad I R rf, qW cU (rf 5) rs]) (pf [rW cI cZ or adr nr Ir Rr]) 1 6 rmX5_holds.cells rmX5_holds.slots hE (fun _ h9 => c_X5_requireRoll l hl9 G cI cZ cQ cU cJ o ad rf I R rs x1 _ h9) (vj_pf 3 [0, 1, 2] rfl rfl dp_0_1_2) 0 rfl rfl (cwV 1 C.1.2.2.2.2 gX5_holds_X5_requireRoll rfl rfl rfl hyV_X5_requireRoll ⟨Nat.le_of_ble_eq_true rfl, Nat.le_of_ble_eq_true rfl⟩) rfl rfl (Nat.le_of_ble_eq_true rfl) dX5_holds_2 ⟨Nat.le_of_ble_eq_true rfl, Nat.le_of_ble_eq_true rfl⟩ ⟨rfl, rfl⟩ ⟨Nat.le_of_ble_eq_true rfl, Nat.le_of_ble_eq_true rfl⟩ (fun _ _ h9 => h9) (fun _ => ⟨rfl, fun h9 => absurd h9 (Nat.succ_ne_zero _), rfl⟩) (fun a1 => ?_)
  refine VJ.roe (b := or) (fun e9 => ?_)
  subst e9
  refine VJ.astore_n C [(3, .ref or), (0, .ref o), (1, .int x1), (2, .int x2)] dX5_holds_5 (Nat.le_of_ble_eq_true rfl) rfl ?_
  refine VJ.aload_n C 1 dX5_holds_6 rfl ?_
  refine VJ.iload_n C 3 dX5_holds_7 rfl ?_
  refine VJ.reqV (T := (fun k9 => (k9, 0))) (P := fun k9 => (fun (out : Nat × Int32) (k' : Nat) (r : Option Value) (M' : va_W) => k' = out.1 ∧ (k' = 0 → r = some (.int out.2)) ∧ M' = pf [xW cI cZ o ad I R rf, qW cU (rf 5) rs, rW cI cZ or adr nr Ir Rr]) (k9, 0)) CX [.int x2] (pf [xW cI cZ o ad I R rf]) (pf [qW cU (rf 5) rs, rW cI cZ or adr nr Ir Rr]) 2 12 rmX5_holds.cells rmX5_holds.slots hE (fun _ h9 => c_X5_requirePerson l hl9 G cI cZ cQ cU cJ o ad rf I R x2 _ h9) (vj_pf 3 [0, 1, 2] rfl rfl dp_0_1_2) 0 rfl rfl (cwV 1 C.1.2.2.2.2 gX5_holds_X5_requirePerson rfl rfl rfl hyV_X5_requirePerson ⟨Nat.le_of_ble_eq_true rfl, Nat.le_of_ble_eq_true rfl⟩) rfl rfl (Nat.le_of_ble_eq_true rfl) dX5_holds_8 ⟨Nat.le_of_ble_eq_true rfl, Nat.le_of_ble_eq_true rfl⟩ ⟨rfl, rfl⟩ ⟨Nat.le_of_ble_eq_true rfl, Nat.le_of_ble_eq_true rfl⟩ (fun _ _ h9 => h9) (fun _ => ⟨rfl, fun h9 => absurd h9 (Nat.succ_ne_zero _), rfl⟩) ?_
  refine VJ.aload_n C 0 dX5_holds_11 rfl ?_
  refine VJ.getN (C0 := RX4) (T := TX4) (N := 5) (ci := 4) C in_X5_holds_X4 4 rfl rfl 2 (Nat.le_of_ble_eq_true rfl) (C.nest (List.mem_of_getElem? (i := 25) rfl) rfl) (fun _ h9 => h9) (v := .ref (adr 0)) rfl dX5_holds_12 ?_
  refine VJ.iload_n C 3 dX5_holds_15 rfl ?_
  refine VJ.atS (q0 := 5) C rfl (c_X5_att l G cI cZ cQ cU cJ (adr 0) 24 (Nat.le_of_ble_eq_true rfl) (Rr 0) x2) (va_cwS 2 C.1.2.2.2.2 gX5_holds_X5_at rfl rfl rfl hy_X5_at ⟨Nat.le_of_ble_eq_true rfl, Nat.le_of_ble_eq_true rfl⟩) rfl (Nat.le_of_ble_eq_true rfl) dX5_holds_16 ⟨Nat.le_of_ble_eq_true rfl, Nat.le_of_ble_eq_true rfl⟩ ⟨rfl, rfl⟩ ?_
  exact VJ.iretP C rmX5_holds.cells rmX5_holds.slots (fun _ h9 => h9) ⟨rfl, fun _ => rfl, rfl⟩ hret (Nat.le_of_ble_eq_true rfl) (Nat.le_of_ble_eq_true rfl) dX5_holds_19

def f_X5B_holds (I : OI) (R : RI) (rs : OO) (x1 : Int32) (x2 : Int32) : Option (Nat × Int32) :=
  obr (f_X5_requireRoll I R rs x1) (fun k9 => (k9, 0)) (fun _ => none)
abbrev rmX5B_holds : Room := rmX5_holds
theorem hy_X5B_holds : yX5_holds.cls ≠ "java/lang/invoke/MethodHandle" ∧ yX5_holds.cls ≠ "java/lang/invoke/VarHandle" ∧ (parseMethodDescriptor yX5_holds.desc).map (fun d => d.parameters.length) = some 2 := by decide +kernel
theorem hyV_X5B_holds : yX5_holds.cls = RX5 ∧ yX5_holds.cls ≠ "java/lang/invoke/MethodHandle" ∧ yX5_holds.cls ≠ "java/lang/invoke/VarHandle" ∧ (parseMethodDescriptor yX5_holds.desc).map (fun d => d.parameters.length) = some 2 := ⟨rfl, hy_X5B_holds⟩
set_option maxHeartbeats 8000000 in
set_option maxRecDepth 100000 in
theorem c_X5B_holds (l : Launch) (hl9 : l.stackTraces = false) (G : va_G) (cI cZ cQ cU cJ : ClassId) (o : Nat) (ad : Nat → Nat) (rf : Nat → Nat) (I : OI) (R : RI) (rs : OO) (x1 : Int32) (x2 : Int32) (out : Nat × Int32) (hf : f_X5B_holds I R rs x1 x2 = some out) : ConX l yX5_holds wsX5_holds rmX5B_holds G vwCl (tys cI cZ cQ cU cJ) nws strs [.ref o, .int x1, .int x2] (pf [xW cI cZ o ad I R rf, qW cU (rf 5) rs]) (fun k' r M' => k' = out.1 ∧ (k' = 0 → r = some (.int out.2)) ∧ M' = pf [xW cI cZ o ad I R rf, qW cU (rf 5) rs]) := by
  refine conX_of (Qf := fun (o9 : Nat × Int32) below A args s t9 => QP below G vwCl A args s rmX5B_holds.cells rmX5B_holds.slots ((fun (out : Nat × Int32) (k' : Nat) (r : Option Value) (M' : va_W) => k' = out.1 ∧ (k' = 0 → r = some (.int out.2)) ∧ M' = pf [xW cI cZ o ad I R rf, qW cU (rf 5) rs]) o9) t9) (maxL := 4) (own := RX5) hl9 rfl (by decide +kernel) rfl (Nat.le_of_ble_eq_true rfl) (fun _ _ _ _ _ h9 => h9) ?_ hf
  intro p e s m args below meth c A CX hret hE
  have C := CX.1
  unfold f_X5B_holds
  refine VJ.aload_n C 0 dX5_holds_0 rfl ?_
  refine VJ.iload_n C 1 dX5_holds_1 rfl ?_
  refine VJ.reqR (T := (fun k9 => (k9, 0))) (P := fun k9 => (fun (out : Nat × Int32) (k' : Nat) (r : Option Value) (M' : va_W) => k' = out.1 ∧ (k' = 0 → r = some (.int out.2)) ∧ M' = pf [xW cI cZ o ad I R rf, qW cU (rf 5) rs]) (k9, 0)) CX [.int x1] (pf [xW cI cZ o ad I R rf, qW cU (rf 5) rs]) ([]) 1 6 rmX5B_holds.cells rmX5B_holds.slots hE (fun _ h9 => c_X5_requireRoll l hl9 G cI cZ cQ cU cJ o ad rf I R rs x1 _ h9) (vj_p0 _) 0 rfl rfl (cwV 1 C.1.2.2.2.2 gX5_holds_X5_requireRoll rfl rfl rfl hyV_X5_requireRoll ⟨Nat.le_of_ble_eq_true rfl, Nat.le_of_ble_eq_true rfl⟩) rfl rfl (Nat.le_of_ble_eq_true rfl) dX5_holds_2 ⟨Nat.le_of_ble_eq_true rfl, Nat.le_of_ble_eq_true rfl⟩ ⟨rfl, rfl⟩ ⟨Nat.le_of_ble_eq_true rfl, Nat.le_of_ble_eq_true rfl⟩ (fun _ _ h9 => h9) (fun _ => ⟨rfl, fun h9 => absurd h9 (Nat.succ_ne_zero _), rfl⟩) (fun a1 => ?_)
  exact VJ.fnone rfl

def f_X5_holdsAnew (N : Nat) (nr : Nat) (or : Nat) (I : OI) (R : RI) (rs : OO) (Ir : OI) (Rr : RI) (x1 : Int32) (x2 : Int32) : Option (Nat × Int32) :=
  obr (f_X5_requireRoll I R rs x1) (fun k9 => (k9, 0)) (fun a1 => oe a1 or (obc (f_X5_requirePerson I R x2) (fun k9 => (k9, 0)) (ob1 (f_X4_findAnew N nr Ir Rr x2) (fun r2 => some (0, r2)))))
abbrev rmX5_holdsAnew : Room := { frames := 7, cells := 2, slots := 12, locals := 112 }
theorem hy_X5_holdsAnew : yX5_holdsAnew.cls ≠ "java/lang/invoke/MethodHandle" ∧ yX5_holdsAnew.cls ≠ "java/lang/invoke/VarHandle" ∧ (parseMethodDescriptor yX5_holdsAnew.desc).map (fun d => d.parameters.length) = some 2 := by decide +kernel
theorem hyV_X5_holdsAnew : yX5_holdsAnew.cls = RX5 ∧ yX5_holdsAnew.cls ≠ "java/lang/invoke/MethodHandle" ∧ yX5_holdsAnew.cls ≠ "java/lang/invoke/VarHandle" ∧ (parseMethodDescriptor yX5_holdsAnew.desc).map (fun d => d.parameters.length) = some 2 := ⟨rfl, hy_X5_holdsAnew⟩
set_option maxHeartbeats 8000000 in
set_option maxRecDepth 100000 in
theorem c_X5_holdsAnew (l : Launch) (hl9 : l.stackTraces = false) (G : va_G) (cI cZ cQ cU cJ : ClassId) (N : Nat) (o : Nat) (ad : Nat → Nat) (rf : Nat → Nat) (I : OI) (R : RI) (rs : OO) (or : Nat) (adr : Nat → Nat) (nr : Nat) (Ir : OI) (Rr : RI) (x1 : Int32) (x2 : Int32) (out : Nat × Int32) (hf : f_X5_holdsAnew N nr or I R rs Ir Rr x1 x2 = some out) : ConX l yX5_holdsAnew wsX5_holdsAnew rmX5_holdsAnew G vwCl (tys cI cZ cQ cU cJ) nws strs [.ref o, .int x1, .int x2] (pf [xW cI cZ o ad I R rf, qW cU (rf 5) rs, rW cI cZ or adr nr Ir Rr]) (fun k' r M' => k' = out.1 ∧ (k' = 0 → r = some (.int out.2)) ∧ M' = pf [xW cI cZ o ad I R rf, qW cU (rf 5) rs, rW cI cZ or adr nr Ir Rr]) := by
  refine conX_of (Qf := fun (o9 : Nat × Int32) below A args s t9 => QP below G vwCl A args s rmX5_holdsAnew.cells rmX5_holdsAnew.slots ((fun (out : Nat × Int32) (k' : Nat) (r : Option Value) (M' : va_W) => k' = out.1 ∧ (k' = 0 → r = some (.int out.2)) ∧ M' = pf [xW cI cZ o ad I R rf, qW cU (rf 5) rs, rW cI cZ or adr nr Ir Rr]) o9) t9) (maxL := 4) (own := RX5) hl9 rfl (by decide +kernel) rfl (Nat.le_of_ble_eq_true rfl) (fun _ _ _ _ _ h9 => h9) ?_ hf
  intro p e s m args below meth c A CX hret hE
  have C := CX.1
  unfold f_X5_holdsAnew
  refine VJ.aload_n C 0 dX5_holdsAnew_0 rfl ?_
  refine VJ.iload_n C 1 dX5_holdsAnew_1 rfl ?_
  refine VJ.reqR (T := (fun k9 => (k9, 0))) (P := fun k9 => (fun (out : Nat × Int32) (k' : Nat) (r : Option Value) (M' : va_W) => k' = out.1 ∧ (k' = 0 → r = some (.int out.2)) ∧ M' = pf [xW cI cZ o ad I R rf, qW cU (rf 5) rs, rW cI cZ or adr nr Ir Rr]) (k9, 0)) CX [.int x1] (pf [xW cI cZ o ad I R rf, qW cU (rf 5) rs]) (pf [rW cI cZ or adr nr Ir Rr]) 1 6 rmX5_holdsAnew.cells rmX5_holdsAnew.slots hE (fun _ h9 => c_X5_requireRoll l hl9 G cI cZ cQ cU cJ o ad rf I R rs x1 _ h9) (vj_pf 3 [0, 1, 2] rfl rfl dp_0_1_2) 0 rfl rfl (cwV 1 C.1.2.2.2.2 gX5_holdsAnew_X5_requireRoll rfl rfl rfl hyV_X5_requireRoll ⟨Nat.le_of_ble_eq_true rfl, Nat.le_of_ble_eq_true rfl⟩) rfl rfl (Nat.le_of_ble_eq_true rfl) dX5_holdsAnew_2 ⟨Nat.le_of_ble_eq_true rfl, Nat.le_of_ble_eq_true rfl⟩ ⟨rfl, rfl⟩ ⟨Nat.le_of_ble_eq_true rfl, Nat.le_of_ble_eq_true rfl⟩ (fun _ _ h9 => h9) (fun _ => ⟨rfl, fun h9 => absurd h9 (Nat.succ_ne_zero _), rfl⟩) (fun a1 => ?_)
  refine VJ.roe (b := or) (fun e9 => ?_)
  subst e9
  refine VJ.astore_n C [(3, .ref or), (0, .ref o), (1, .int x1), (2, .int x2)] dX5_holdsAnew_5 (Nat.le_of_ble_eq_true rfl) rfl ?_
  refine VJ.aload_n C 1 dX5_holdsAnew_6 rfl ?_
  refine VJ.iload_n C 3 dX5_holdsAnew_7 rfl ?_
  refine VJ.reqV (T := (fun k9 => (k9, 0))) (P := fun k9 => (fun (out : Nat × Int32) (k' : Nat) (r : Option Value) (M' : va_W) => k' = out.1 ∧ (k' = 0 → r = some (.int out.2)) ∧ M' = pf [xW cI cZ o ad I R rf, qW cU (rf 5) rs, rW cI cZ or adr nr Ir Rr]) (k9, 0)) CX [.int x2] (pf [xW cI cZ o ad I R rf]) (pf [qW cU (rf 5) rs, rW cI cZ or adr nr Ir Rr]) 2 12 rmX5_holdsAnew.cells rmX5_holdsAnew.slots hE (fun _ h9 => c_X5_requirePerson l hl9 G cI cZ cQ cU cJ o ad rf I R x2 _ h9) (vj_pf 3 [0, 1, 2] rfl rfl dp_0_1_2) 0 rfl rfl (cwV 1 C.1.2.2.2.2 gX5_holdsAnew_X5_requirePerson rfl rfl rfl hyV_X5_requirePerson ⟨Nat.le_of_ble_eq_true rfl, Nat.le_of_ble_eq_true rfl⟩) rfl rfl (Nat.le_of_ble_eq_true rfl) dX5_holdsAnew_8 ⟨Nat.le_of_ble_eq_true rfl, Nat.le_of_ble_eq_true rfl⟩ ⟨rfl, rfl⟩ ⟨Nat.le_of_ble_eq_true rfl, Nat.le_of_ble_eq_true rfl⟩ (fun _ _ h9 => h9) (fun _ => ⟨rfl, fun h9 => absurd h9 (Nat.succ_ne_zero _), rfl⟩) ?_
  refine VJ.aload_n C 0 dX5_holdsAnew_11 rfl ?_
  refine VJ.iload_n C 3 dX5_holdsAnew_12 rfl ?_
  refine VJ.callVN1 C [.int x2] (pf [rW cI cZ or adr nr Ir Rr]) (pf [xW cI cZ o ad I R rf, qW cU (rf 5) rs]) (fun r2 => some (.int r2)) (fun r2 => pf [rW cI cZ or adr nr Ir Rr]) (fun r2 => pf [xW cI cZ o ad I R rf, qW cU (rf 5) rs, rW cI cZ or adr nr Ir Rr]) (fun r2 => [.int r2]) 2 12 (fun _ h9 => c_X4_findAnew l G cI cZ cQ cU cJ N or adr nr Ir Rr x2 _ h9) (vj_pf 3 [2, 0, 1] rfl rfl dp_2_0_1) (fun _ => (vj_pf 3 [2, 0, 1] rfl rfl dp_2_0_1).symm) 0 rfl rfl (⟨va_cnB 1 C.1.2.2.2.2 gX5_holdsAnew_X4_findAnew_n227 rfl rfl rfl (C.nestM (List.mem_of_getElem? (i := 64) rfl)) (C.1.2.2.2.2 _ (List.mem_of_getElem? (i := 15) rfl)) hy_X4_findAnew ⟨Nat.le_of_ble_eq_true rfl, Nat.le_of_ble_eq_true rfl⟩, (C.1.2.2.2.2 _ (List.mem_of_getElem? (i := 14) rfl)), (C.1.2.2.2.2 _ (List.mem_of_getElem? (i := 16) rfl))⟩) rfl rfl (fun _ => rfl) (Nat.le_of_ble_eq_true rfl) dX5_holdsAnew_13 ⟨Nat.le_of_ble_eq_true rfl, Nat.le_of_ble_eq_true rfl⟩ ⟨rfl, rfl⟩ (fun r2 => ?_)
  exact VJ.iretP C rmX5_holdsAnew.cells rmX5_holdsAnew.slots (fun _ h9 => h9) ⟨rfl, fun _ => rfl, rfl⟩ hret (Nat.le_of_ble_eq_true rfl) (Nat.le_of_ble_eq_true rfl) dX5_holdsAnew_16

def f_X5B_holdsAnew (I : OI) (R : RI) (rs : OO) (x1 : Int32) (x2 : Int32) : Option (Nat × Int32) :=
  obr (f_X5_requireRoll I R rs x1) (fun k9 => (k9, 0)) (fun _ => none)
abbrev rmX5B_holdsAnew : Room := rmX5_holdsAnew
theorem hy_X5B_holdsAnew : yX5_holdsAnew.cls ≠ "java/lang/invoke/MethodHandle" ∧ yX5_holdsAnew.cls ≠ "java/lang/invoke/VarHandle" ∧ (parseMethodDescriptor yX5_holdsAnew.desc).map (fun d => d.parameters.length) = some 2 := by decide +kernel
theorem hyV_X5B_holdsAnew : yX5_holdsAnew.cls = RX5 ∧ yX5_holdsAnew.cls ≠ "java/lang/invoke/MethodHandle" ∧ yX5_holdsAnew.cls ≠ "java/lang/invoke/VarHandle" ∧ (parseMethodDescriptor yX5_holdsAnew.desc).map (fun d => d.parameters.length) = some 2 := ⟨rfl, hy_X5B_holdsAnew⟩
set_option maxHeartbeats 8000000 in
set_option maxRecDepth 100000 in
theorem c_X5B_holdsAnew (l : Launch) (hl9 : l.stackTraces = false) (G : va_G) (cI cZ cQ cU cJ : ClassId) (o : Nat) (ad : Nat → Nat) (rf : Nat → Nat) (I : OI) (R : RI) (rs : OO) (x1 : Int32) (x2 : Int32) (out : Nat × Int32) (hf : f_X5B_holdsAnew I R rs x1 x2 = some out) : ConX l yX5_holdsAnew wsX5_holdsAnew rmX5B_holdsAnew G vwCl (tys cI cZ cQ cU cJ) nws strs [.ref o, .int x1, .int x2] (pf [xW cI cZ o ad I R rf, qW cU (rf 5) rs]) (fun k' r M' => k' = out.1 ∧ (k' = 0 → r = some (.int out.2)) ∧ M' = pf [xW cI cZ o ad I R rf, qW cU (rf 5) rs]) := by
  refine conX_of (Qf := fun (o9 : Nat × Int32) below A args s t9 => QP below G vwCl A args s rmX5B_holdsAnew.cells rmX5B_holdsAnew.slots ((fun (out : Nat × Int32) (k' : Nat) (r : Option Value) (M' : va_W) => k' = out.1 ∧ (k' = 0 → r = some (.int out.2)) ∧ M' = pf [xW cI cZ o ad I R rf, qW cU (rf 5) rs]) o9) t9) (maxL := 4) (own := RX5) hl9 rfl (by decide +kernel) rfl (Nat.le_of_ble_eq_true rfl) (fun _ _ _ _ _ h9 => h9) ?_ hf
  intro p e s m args below meth c A CX hret hE
  have C := CX.1
  unfold f_X5B_holdsAnew
  refine VJ.aload_n C 0 dX5_holdsAnew_0 rfl ?_
  refine VJ.iload_n C 1 dX5_holdsAnew_1 rfl ?_
  refine VJ.reqR (T := (fun k9 => (k9, 0))) (P := fun k9 => (fun (out : Nat × Int32) (k' : Nat) (r : Option Value) (M' : va_W) => k' = out.1 ∧ (k' = 0 → r = some (.int out.2)) ∧ M' = pf [xW cI cZ o ad I R rf, qW cU (rf 5) rs]) (k9, 0)) CX [.int x1] (pf [xW cI cZ o ad I R rf, qW cU (rf 5) rs]) ([]) 1 6 rmX5B_holdsAnew.cells rmX5B_holdsAnew.slots hE (fun _ h9 => c_X5_requireRoll l hl9 G cI cZ cQ cU cJ o ad rf I R rs x1 _ h9) (vj_p0 _) 0 rfl rfl (cwV 1 C.1.2.2.2.2 gX5_holdsAnew_X5_requireRoll rfl rfl rfl hyV_X5_requireRoll ⟨Nat.le_of_ble_eq_true rfl, Nat.le_of_ble_eq_true rfl⟩) rfl rfl (Nat.le_of_ble_eq_true rfl) dX5_holdsAnew_2 ⟨Nat.le_of_ble_eq_true rfl, Nat.le_of_ble_eq_true rfl⟩ ⟨rfl, rfl⟩ ⟨Nat.le_of_ble_eq_true rfl, Nat.le_of_ble_eq_true rfl⟩ (fun _ _ h9 => h9) (fun _ => ⟨rfl, fun h9 => absurd h9 (Nat.succ_ne_zero _), rfl⟩) (fun a1 => ?_)
  exact VJ.fnone rfl

def f_X5B_deliver (I : OI) (R : RI) (Ik : OI) (Rk : RI) (cmk : Option Nat) (rs : OO) (x1 : Int32) : Option (Nat × Int32) :=
  obr (f_X5_requireRoll I R rs x1) (fun k9 => (k9, 0)) (fun _ => none)
abbrev rmX5B_deliver : Room := { frames := 7, cells := 2, slots := 12294, locals := 112 }
theorem hy_X5B_deliver : yX5_deliver.cls ≠ "java/lang/invoke/MethodHandle" ∧ yX5_deliver.cls ≠ "java/lang/invoke/VarHandle" ∧ (parseMethodDescriptor yX5_deliver.desc).map (fun d => d.parameters.length) = some 1 := by decide +kernel
theorem hyV_X5B_deliver : yX5_deliver.cls = RX5 ∧ yX5_deliver.cls ≠ "java/lang/invoke/MethodHandle" ∧ yX5_deliver.cls ≠ "java/lang/invoke/VarHandle" ∧ (parseMethodDescriptor yX5_deliver.desc).map (fun d => d.parameters.length) = some 1 := ⟨rfl, hy_X5B_deliver⟩
set_option maxHeartbeats 8000000 in
set_option maxRecDepth 100000 in
theorem c_X5B_deliver (l : Launch) (hl9 : l.stackTraces = false) (G : va_G) (cI cZ cQ cU cJ : ClassId) (o : Nat) (ad : Nat → Nat) (rf : Nat → Nat) (I : OI) (R : RI) (adk : Nat → Nat) (Ik : OI) (Rk : RI) (cmk : Option Nat) (rs : OO) (x1 : Int32) (out : Nat × Int32) (hf : f_X5B_deliver I R Ik Rk cmk rs x1 = some out) : ConX l yX5_deliver wsX5_deliver rmX5B_deliver G vwCl (tys cI cZ cQ cU cJ) nws strs [.ref o, .int x1] (pf [xW cI cZ o ad I R rf, lW cI cZ (rf 1) adk Ik Rk cmk, qW cU (rf 5) rs]) (fun k' r M' => k' = out.1 ∧ (k' = 0 → r = some (.int out.2)) ∧ M' = pf [xW cI cZ o ad I R rf, lW cI cZ (rf 1) adk Ik Rk cmk, qW cU (rf 5) rs]) := by
  refine conX_of (Qf := fun (o9 : Nat × Int32) below A args s t9 => QP below G vwCl A args s rmX5B_deliver.cells rmX5B_deliver.slots ((fun (out : Nat × Int32) (k' : Nat) (r : Option Value) (M' : va_W) => k' = out.1 ∧ (k' = 0 → r = some (.int out.2)) ∧ M' = pf [xW cI cZ o ad I R rf, lW cI cZ (rf 1) adk Ik Rk cmk, qW cU (rf 5) rs]) o9) t9) (maxL := 6) (own := RX5) hl9 rfl (by decide +kernel) rfl (Nat.le_of_ble_eq_true rfl) (fun _ _ _ _ _ h9 => h9) ?_ hf
  intro p e s m args below meth c A CX hret hE
  have C := CX.1
  unfold f_X5B_deliver
  refine VJ.aload_n C 0 dX5_deliver_0 rfl ?_
  refine VJ.iload_n C 1 dX5_deliver_1 rfl ?_
  refine VJ.reqR (T := (fun k9 => (k9, 0))) (P := fun k9 => (fun (out : Nat × Int32) (k' : Nat) (r : Option Value) (M' : va_W) => k' = out.1 ∧ (k' = 0 → r = some (.int out.2)) ∧ M' = pf [xW cI cZ o ad I R rf, lW cI cZ (rf 1) adk Ik Rk cmk, qW cU (rf 5) rs]) (k9, 0)) CX [.int x1] (pf [xW cI cZ o ad I R rf, qW cU (rf 5) rs]) (pf [lW cI cZ (rf 1) adk Ik Rk cmk]) 1 6 rmX5B_deliver.cells rmX5B_deliver.slots hE (fun _ h9 => c_X5_requireRoll l hl9 G cI cZ cQ cU cJ o ad rf I R rs x1 _ h9) (vj_pf 3 [0, 2, 1] rfl rfl dp_0_2_1) 0 rfl rfl (cwV 1 C.1.2.2.2.2 gX5_deliver_X5_requireRoll rfl rfl rfl hyV_X5_requireRoll ⟨Nat.le_of_ble_eq_true rfl, Nat.le_of_ble_eq_true rfl⟩) rfl rfl (Nat.le_of_ble_eq_true rfl) dX5_deliver_2 ⟨Nat.le_of_ble_eq_true rfl, Nat.le_of_ble_eq_true rfl⟩ ⟨rfl, rfl⟩ ⟨Nat.le_of_ble_eq_true rfl, Nat.le_of_ble_eq_true rfl⟩ (fun _ _ h9 => h9) (fun _ => ⟨rfl, fun h9 => absurd h9 (Nat.succ_ne_zero _), rfl⟩) (fun a1 => ?_)
  exact VJ.fnone rfl
