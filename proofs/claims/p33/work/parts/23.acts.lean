

set_option maxHeartbeats 4000000 in
set_option maxRecDepth 100000 in
def f_X1_chain_j32 (N : Nat) (AL : List Nat) (ta : Int32) (wa : OO) (AI : Nat → OI) (ea : Option Nat) (AR : Nat → OO) (x1 : Nat) (x2 : Option Nat) : Option (Option Nat × (Nat → OO)) :=
  oc x2 (om x1 AL (some (some x1, upQ AR x1 1 ea))) (fun a2 => om a2 AL (om x1 AL (om a2 AL (some (ea, upQ (upQ AR x1 1 (AR a2 1)) a2 1 (some x1))))))
set_option maxHeartbeats 4000000 in
set_option maxRecDepth 100000 in
def f_X1_chain_l7b (N : Nat) (AL : List Nat) (ta : Int32) (wa : OO) (AI : Nat → OI) (k7 : Option Nat → (Nat → OO) → Nat → Option Nat → Option Nat → Option (Option Nat × (Nat → OO))) (ea : Option Nat) (AR : Nat → OO) (x1 : Nat) (x2 : Option Nat) (x3 : Option Nat) : Option (Option Nat × (Nat → OO)) :=
  oc x3 (f_X1_chain_j32 N AL ta wa AI ea AR x1 x2) (fun a1 => om a1 AL (om x1 AL (if (AI x1 2) < (AI a1 2) then (f_X1_chain_j32 N AL ta wa AI ea AR x1 x2) else (om a1 AL (ol (AR a1 1) (fun q10 => k7 ea AR x1 (some a1) q10))))))
set_option maxHeartbeats 4000000 in
set_option maxRecDepth 100000 in
def f_X1_chain_l7 (N : Nat) (AL : List Nat) (ta : Int32) (wa : OO) (AI : Nat → OI) : Nat → Option Nat → (Nat → OO) → Nat → Option Nat → Option Nat → Option (Option Nat × (Nat → OO))
  | 0 => fun _ _ _ _ _ => none
  | n9 + 1 => f_X1_chain_l7b N AL ta wa AI (f_X1_chain_l7 N AL ta wa AI n9)
def f_X1_chain (N : Nat) (AL : List Nat) (ta : Int32) (wa : OO) (AI : Nat → OI) (ea : Option Nat) (AR : Nat → OO) (x1 : Nat) : Option (Option Nat × (Nat → OO)) :=
  f_X1_chain_l7 N AL ta wa AI N ea AR x1 none ea
abbrev rmX1_chain : Room := { frames := 0, cells := 0, slots := 0, locals := 0 }
theorem in_X1_chain_X0 : ∀ w ∈ u_ws RX0 TX0 10, w ∈ wsX1_chain := in_of 5 rfl
theorem in_X1_chain_X1 : ∀ w ∈ u_ws RX1 TX1 3, w ∈ wsX1_chain := in_of 2 rfl
theorem hy_X1_chain : yX1_chain.cls ≠ "java/lang/invoke/MethodHandle" ∧ yX1_chain.cls ≠ "java/lang/invoke/VarHandle" ∧ (parseMethodDescriptor yX1_chain.desc).map (fun d => d.parameters.length) = some 1 := by decide +kernel
theorem hyV_X1_chain : yX1_chain.cls = RX1 ∧ yX1_chain.cls ≠ "java/lang/invoke/MethodHandle" ∧ yX1_chain.cls ≠ "java/lang/invoke/VarHandle" ∧ (parseMethodDescriptor yX1_chain.desc).map (fun d => d.parameters.length) = some 1 := ⟨rfl, hy_X1_chain⟩
set_option maxHeartbeats 8000000 in
set_option maxRecDepth 100000 in
theorem c_X1_chain (l : Launch) (G : va_G) (cI cZ cQ cU cJ : ClassId) (N : Nat) (oa : Nat) (ra : Nat) (ta : Int32) (ea : Option Nat) (wa : OO) (AL : List Nat) (AI : Nat → OI) (AR : Nat → OO) (x1 : Nat) (out : Option Nat × (Nat → OO)) (hf : f_X1_chain N AL ta wa AI ea AR x1 = some out) : Con l yX1_chain wsX1_chain rmX1_chain G vwCl (tys cI cZ cQ cU cJ) nws [.ref oa, .ref x1] (pf [aW cQ oa ra ta ea wa, pW AL AI AR]) (none) (pf [aW cQ oa ra ta out.1 wa, pW AL AI out.2]) := by
  refine con_of (rv := fun out : Option Nat × (Nat → OO) => none) (Wd := fun out : Option Nat × (Nat → OO) => pf [aW cQ oa ra ta out.1 wa, pW AL AI out.2]) (maxL := 4) (own := RX1) rfl (plainFor_of_name (by decide +kernel)) rfl (Nat.le_of_ble_eq_true rfl) ?_ hf
  intro p e s m args below meth c A C hret hname
  have j32 : ∀ (ea : Option Nat) (AR : Nat → OO) (x1 : Nat) (x2 : Option Nat), VJ p l e rmX1_chain s m args below meth c 4 G vwCl A (QR below G vwCl A args s rmX1_chain.cells rmX1_chain.slots (fun out : Option Nat × (Nat → OO) => none) (fun out : Option Nat × (Nat → OO) => pf [aW cQ oa ra ta out.1 wa, pW AL AI out.2])) 0 0 (f_X1_chain_j32 N AL ta wa AI  ea AR x1 x2) (pf [aW cQ oa ra ta ea wa, pW AL AI AR]) 32 [(0, .ref oa), (1, .ref x1), (2, va_rf x2)] [] := by
    intro  ea AR x1 x2
    unfold f_X1_chain_j32
    refine VJ.aload_nq C 2 dX1_chain_32 rfl ?_
    refine VJ.ifnonnull C 52 dX1_chain_33 (by decide) (fun e9 => ?_) (fun a2 e9 => ?_)
    · subst e9
      refine VJ.aload_n C 1 dX1_chain_36 rfl ?_
      refine VJ.aload_n C 0 dX1_chain_37 rfl ?_
      refine VJ.get (C0 := RX1) (T := TX1) (N := 3) (ci := 1) C in_X1_chain_X1 0 rfl rfl 2 (Nat.le_of_ble_eq_true rfl) (C.1.2.2.2.2 _ (List.mem_of_getElem? (i := 1) rfl)) (fun _ h9 => h9) (v := va_rf ea) rfl dX1_chain_38 ?_
      refine VJ.rom (fun h9 => ?_)
      obtain ⟨p3, ep3⟩ := pool_at (ps := [aW cQ oa ra ta ea wa, pW AL AI AR]) (List.mem_of_getElem? (i := 1) rfl) h9
      refine VJ.putPN (C0 := RX0) (T := TX0) (N := 10) (ci := 0) C in_X1_chain_X0 p3 ep3 rfl 9 (Nat.le_of_ble_eq_true rfl) (C.nest (List.mem_of_getElem? (i := 20) rfl) rfl) (fun _ h9 => h9) (pf [aW cQ oa ra ta ea wa, pW AL AI (upQ AR x1 1 ea)]) tyX0 tyX0_ok nmX0 rfl (fty := .object "Residentroll$Act") rfl (vj_nq _ ea) (vj_fq _ ea) (Nat.le_of_ble_eq_true rfl) (fun hD9 => pool_setQ (X := [aW cQ oa ra ta ea wa]) 1 (by decide) ea h9 ep3 hD9) dX1_chain_41 ?_
      refine VJ.aload_n C 0 dX1_chain_44 rfl ?_
      refine VJ.aload_n C 1 dX1_chain_45 rfl ?_
      refine VJ.put (C0 := RX1) (T := TX1) (N := 3) (ci := 1) C in_X1_chain_X1 0 rfl rfl 2 (Nat.le_of_ble_eq_true rfl) (C.1.2.2.2.2 _ (List.mem_of_getElem? (i := 1) rfl)) (fun _ h9 => h9) (pf [aW cQ oa ra ta (some x1) wa, pW AL AI (upQ AR x1 1 ea)]) tyX1 tyX1_ok nmX1 rfl (fty := .object "Residentroll$Act") rfl (vj_nq _ (some x1)) (vj_fq _ (some x1)) (Nat.le_of_ble_eq_true rfl) rfl dX1_chain_46 ?_
      refine VJ.goto C 65 dX1_chain_49 (by decide) ?_
      exact VJ.vret C hret rfl rfl dX1_chain_65
    · subst e9
      refine VJ.aload_n C 1 dX1_chain_52 rfl ?_
      refine VJ.aload_n C 2 dX1_chain_53 rfl ?_
      refine VJ.rom (fun h9 => ?_)
      obtain ⟨p4, ep4⟩ := pool_at (ps := [aW cQ oa ra ta ea wa, pW AL AI AR]) (List.mem_of_getElem? (i := 1) rfl) h9
      refine VJ.getN (C0 := RX0) (T := TX0) (N := 10) (ci := 0) C in_X1_chain_X0 p4 ep4 rfl 9 (Nat.le_of_ble_eq_true rfl) (C.nest (List.mem_of_getElem? (i := 20) rfl) rfl) (fun _ h9 => h9) rfl dX1_chain_54 ?_
      refine VJ.rom (fun h9 => ?_)
      obtain ⟨p5, ep5⟩ := pool_at (ps := [aW cQ oa ra ta ea wa, pW AL AI AR]) (List.mem_of_getElem? (i := 1) rfl) h9
      refine VJ.putPN (C0 := RX0) (T := TX0) (N := 10) (ci := 0) C in_X1_chain_X0 p5 ep5 rfl 9 (Nat.le_of_ble_eq_true rfl) (C.nest (List.mem_of_getElem? (i := 20) rfl) rfl) (fun _ h9 => h9) (pf [aW cQ oa ra ta ea wa, pW AL AI (upQ AR x1 1 (AR a2 1))]) tyX0 tyX0_ok nmX0 rfl (fty := .object "Residentroll$Act") rfl (vj_nq _ (AR a2 1)) (vj_fq _ (AR a2 1)) (Nat.le_of_ble_eq_true rfl) (fun hD9 => pool_setQ (X := [aW cQ oa ra ta ea wa]) 1 (by decide) (AR a2 1) h9 ep5 hD9) dX1_chain_57 ?_
      refine VJ.aload_n C 2 dX1_chain_60 rfl ?_
      refine VJ.aload_n C 1 dX1_chain_61 rfl ?_
      refine VJ.rom (fun h9 => ?_)
      obtain ⟨p6, ep6⟩ := pool_at (ps := [aW cQ oa ra ta ea wa, pW AL AI (upQ AR x1 1 (AR a2 1))]) (List.mem_of_getElem? (i := 1) rfl) h9
      refine VJ.putPN (C0 := RX0) (T := TX0) (N := 10) (ci := 0) C in_X1_chain_X0 p6 ep6 rfl 9 (Nat.le_of_ble_eq_true rfl) (C.nest (List.mem_of_getElem? (i := 20) rfl) rfl) (fun _ h9 => h9) (pf [aW cQ oa ra ta ea wa, pW AL AI (upQ (upQ AR x1 1 (AR a2 1)) a2 1 (some x1))]) tyX0 tyX0_ok nmX0 rfl (fty := .object "Residentroll$Act") rfl (vj_nq _ (some x1)) (vj_fq _ (some x1)) (Nat.le_of_ble_eq_true rfl) (fun hD9 => pool_setQ (X := [aW cQ oa ra ta ea wa]) 1 (by decide) (some x1) h9 ep6 hD9) dX1_chain_62 ?_
      exact VJ.vret C hret rfl rfl dX1_chain_65
  have j7 : ∀ (n9 : Nat) (ea : Option Nat) (AR : Nat → OO) (x1 : Nat) (x2 : Option Nat) (x3 : Option Nat), VJ p l e rmX1_chain s m args below meth c 4 G vwCl A (QR below G vwCl A args s rmX1_chain.cells rmX1_chain.slots (fun out : Option Nat × (Nat → OO) => none) (fun out : Option Nat × (Nat → OO) => pf [aW cQ oa ra ta out.1 wa, pW AL AI out.2])) 0 0 (f_X1_chain_l7 N AL ta wa AI  n9 ea AR x1 x2 x3) (pf [aW cQ oa ra ta ea wa, pW AL AI AR]) 7 [(0, .ref oa), (1, .ref x1), (2, va_rf x2), (3, va_rf x3)] [] := by
    intro  n9
    induction n9 with
    | zero => intro ea AR x1 x2 x3; exact VJ.fnone rfl
    | succ n9 i7 =>
      intro ea AR x1 x2 x3
      refine VJ.eqf (f' := f_X1_chain_l7b N AL ta wa AI  (f_X1_chain_l7 N AL ta wa AI  n9) ea AR x1 x2 x3) rfl ?_
      generalize f_X1_chain_l7 N AL ta wa AI  n9 = k7 at i7 ⊢
      unfold f_X1_chain_l7b
      refine VJ.aload_nq C 3 dX1_chain_7 rfl ?_
      refine VJ.ifnull C 32 dX1_chain_8 (by decide) (fun e9 => ?_) (fun a1 e9 => ?_)
      · subst e9
        refine VJ.sub [0, 1, 2] rfl ?_
        exact j32 ea AR x1 x2
      · subst e9
        refine VJ.aload_n C 3 dX1_chain_11 rfl ?_
        refine VJ.rom (fun h9 => ?_)
        obtain ⟨p7, ep7⟩ := pool_at (ps := [aW cQ oa ra ta ea wa, pW AL AI AR]) (List.mem_of_getElem? (i := 1) rfl) h9
        refine VJ.getN (C0 := RX0) (T := TX0) (N := 10) (ci := 0) C in_X1_chain_X0 p7 ep7 rfl 2 (Nat.le_of_ble_eq_true rfl) (C.nest (List.mem_of_getElem? (i := 7) rfl) rfl) (fun _ h9 => h9) rfl dX1_chain_12 ?_
        refine VJ.aload_n C 1 dX1_chain_15 rfl ?_
        refine VJ.rom (fun h9 => ?_)
        obtain ⟨p8, ep8⟩ := pool_at (ps := [aW cQ oa ra ta ea wa, pW AL AI AR]) (List.mem_of_getElem? (i := 1) rfl) h9
        refine VJ.getN (C0 := RX0) (T := TX0) (N := 10) (ci := 0) C in_X1_chain_X0 p8 ep8 rfl 2 (Nat.le_of_ble_eq_true rfl) (C.nest (List.mem_of_getElem? (i := 7) rfl) rfl) (fun _ h9 => h9) rfl dX1_chain_16 ?_
        refine VJ.icmp_gt C 32 dX1_chain_19 (by decide) (fun _ => ?_) (fun _ => ?_)
        · refine VJ.sub [0, 1, 2] rfl ?_
          exact j32 ea AR x1 x2
        · refine VJ.aload_n C 3 dX1_chain_22 rfl ?_
          refine VJ.astore_n C [(2, .ref a1), (0, .ref oa), (1, .ref x1), (3, .ref a1)] dX1_chain_23 (Nat.le_of_ble_eq_true rfl) rfl ?_
          refine VJ.aload_n C 3 dX1_chain_24 rfl ?_
          refine VJ.rom (fun h9 => ?_)
          obtain ⟨p9, ep9⟩ := pool_at (ps := [aW cQ oa ra ta ea wa, pW AL AI AR]) (List.mem_of_getElem? (i := 1) rfl) h9
          refine VJ.getN (C0 := RX0) (T := TX0) (N := 10) (ci := 0) C in_X1_chain_X0 p9 ep9 rfl 9 (Nat.le_of_ble_eq_true rfl) (C.nest (List.mem_of_getElem? (i := 20) rfl) rfl) (fun _ h9 => h9) rfl dX1_chain_25 ?_
          refine VJ.topq C (fun q10 => ?_)
          refine VJ.astore_nq C [(3, va_rf q10), (2, .ref a1), (0, .ref oa), (1, .ref x1)] dX1_chain_28 (Nat.le_of_ble_eq_true rfl) rfl ?_
          refine VJ.goto C 7 dX1_chain_29 (by decide) ?_
          refine VJ.sub [2, 3, 1, 0] rfl ?_
          exact i7 ea AR x1 (some a1) q10
  unfold f_X1_chain
  refine VJ.null C dX1_chain_0 ?_
  refine VJ.astore_nq (x := none) C [(2, .null), (0, .ref oa), (1, .ref x1)] dX1_chain_1 (Nat.le_of_ble_eq_true rfl) rfl ?_
  refine VJ.aload_n C 1 dX1_chain_2 rfl ?_
  refine VJ.get (C0 := RX1) (T := TX1) (N := 3) (ci := 1) C in_X1_chain_X1 0 rfl rfl 2 (Nat.le_of_ble_eq_true rfl) (C.1.2.2.2.2 _ (List.mem_of_getElem? (i := 1) rfl)) (fun _ h9 => h9) (v := va_rf ea) rfl dX1_chain_3 ?_
  refine VJ.astore_nq C [(3, va_rf ea), (2, .null), (0, .ref oa), (1, .ref x1)] dX1_chain_6 (Nat.le_of_ble_eq_true rfl) rfl ?_
  refine VJ.sub [2, 3, 1, 0] rfl ?_
  exact j7 N ea AR x1 none ea

def f_X1_add (N : Nat) (AL : List Nat) (ta : Int32) (ea : Option Nat) (wa : OO) (AI : Nat → OI) (AR : Nat → OO) (x1 : Nat) : Option (Int32 × Option Nat × OO × (Nat → OI) × (Nat → OO)) :=
  if ta < 0 then (some (ta, ea, wa, AI, AR)) else (if ta < 150 then (om x1 AL (og ta 150 (ol (va_up wa ta.toNatClampNeg (some x1)) (fun w2 => om x1 AL (om x1 AL (if ((upI AI x1 7 ta) x1 2) = (-1) then (some (ta + 1, ea, w2, upI AI x1 7 ta, AR)) else (ob2 (f_X1_chain N AL (ta + 1) w2 (upI AI x1 7 ta) ea AR x1) (fun ea5 AR6 => some (ta + 1, ea5, w2, upI AI x1 7 ta, AR6))))))))) else (some (ta, ea, wa, AI, AR)))
abbrev rmX1_add : Room := { frames := 1, cells := 0, slots := 0, locals := 23 }
theorem in_X1_add_X0 : ∀ w ∈ u_ws RX0 TX0 10, w ∈ wsX1_add := in_of 12 rfl
theorem in_X1_add_X1 : ∀ w ∈ u_ws RX1 TX1 3, w ∈ wsX1_add := in_of 9 rfl
theorem hy_X1_add : yX1_add.cls ≠ "java/lang/invoke/MethodHandle" ∧ yX1_add.cls ≠ "java/lang/invoke/VarHandle" ∧ (parseMethodDescriptor yX1_add.desc).map (fun d => d.parameters.length) = some 1 := by decide +kernel
theorem hyV_X1_add : yX1_add.cls = RX1 ∧ yX1_add.cls ≠ "java/lang/invoke/MethodHandle" ∧ yX1_add.cls ≠ "java/lang/invoke/VarHandle" ∧ (parseMethodDescriptor yX1_add.desc).map (fun d => d.parameters.length) = some 1 := ⟨rfl, hy_X1_add⟩
set_option maxHeartbeats 8000000 in
set_option maxRecDepth 100000 in
theorem c_X1_add (l : Launch) (G : va_G) (cI cZ cQ cU cJ : ClassId) (N : Nat) (oa : Nat) (ra : Nat) (ta : Int32) (ea : Option Nat) (wa : OO) (AL : List Nat) (AI : Nat → OI) (AR : Nat → OO) (x1 : Nat) (out : Int32 × Option Nat × OO × (Nat → OI) × (Nat → OO)) (hf : f_X1_add N AL ta ea wa AI AR x1 = some out) : Con l yX1_add wsX1_add rmX1_add G vwCl (tys cI cZ cQ cU cJ) nws [.ref oa, .ref x1] (pf [aW cQ oa ra ta ea wa, pW AL AI AR]) (none) (pf [aW cQ oa ra out.1 out.2.1 out.2.2.1, pW AL out.2.2.2.1 out.2.2.2.2]) := by
  refine con_of (rv := fun out : Int32 × Option Nat × OO × (Nat → OI) × (Nat → OO) => none) (Wd := fun out : Int32 × Option Nat × OO × (Nat → OI) × (Nat → OO) => pf [aW cQ oa ra out.1 out.2.1 out.2.2.1, pW AL out.2.2.2.1 out.2.2.2.2]) (maxL := 2) (own := RX1) rfl (plainFor_of_name (by decide +kernel)) rfl (Nat.le_of_ble_eq_true rfl) ?_ hf
  intro p e s m args below meth c A C hret hname
  unfold f_X1_add
  refine VJ.aload_n C 0 dX1_add_0 rfl ?_
  refine VJ.get (C0 := RX1) (T := TX1) (N := 3) (ci := 1) C in_X1_add_X1 0 rfl rfl 1 (Nat.le_of_ble_eq_true rfl) (C.1.2.2.2.2 _ (List.mem_of_getElem? (i := 1) rfl)) (fun _ h9 => h9) (v := .int ta) rfl dX1_add_1 ?_
  refine VJ.if_lt C 19 dX1_add_4 (by decide) (fun _ => ?_) (fun _ => ?_)
  · exact VJ.vret C hret rfl rfl dX1_add_19
  · refine VJ.aload_n C 0 dX1_add_7 rfl ?_
    refine VJ.get (C0 := RX1) (T := TX1) (N := 3) (ci := 1) C in_X1_add_X1 0 rfl rfl 1 (Nat.le_of_ble_eq_true rfl) (C.1.2.2.2.2 _ (List.mem_of_getElem? (i := 1) rfl)) (fun _ h9 => h9) (v := .int ta) rfl dX1_add_8 ?_
    refine VJ.aload_n C 0 dX1_add_11 rfl ?_
    refine VJ.get (C0 := RX1) (T := TX1) (N := 3) (ci := 1) C in_X1_add_X1 0 rfl rfl 0 (Nat.le_of_ble_eq_true rfl) (C.1.2.2.2.2 _ (List.mem_of_getElem? (i := 2) rfl)) (fun _ h9 => h9) (v := .ref ra) rfl dX1_add_12 ?_
    refine VJ.alen C 1 2 (v := 150) rfl rfl (show Int32.ofNat 150 = 150 by decide) dX1_add_15 ?_
    refine VJ.icmp_lt C 20 dX1_add_16 (by decide) (fun _ => ?_) (fun _ => ?_)
    · refine VJ.aload_n C 0 dX1_add_20 rfl ?_
      refine VJ.get (C0 := RX1) (T := TX1) (N := 3) (ci := 1) C in_X1_add_X1 0 rfl rfl 0 (Nat.le_of_ble_eq_true rfl) (C.1.2.2.2.2 _ (List.mem_of_getElem? (i := 2) rfl)) (fun _ h9 => h9) (v := .ref ra) rfl dX1_add_21 ?_
      refine VJ.aload_n C 0 dX1_add_24 rfl ?_
      refine VJ.get (C0 := RX1) (T := TX1) (N := 3) (ci := 1) C in_X1_add_X1 0 rfl rfl 1 (Nat.le_of_ble_eq_true rfl) (C.1.2.2.2.2 _ (List.mem_of_getElem? (i := 1) rfl)) (fun _ h9 => h9) (v := .int ta) rfl dX1_add_25 ?_
      refine VJ.aload_n C 1 dX1_add_28 rfl ?_
      refine VJ.rom (fun h9 => ?_)
      obtain ⟨p1, ep1⟩ := pool_at (ps := [aW cQ oa ra ta ea wa, pW AL AI AR]) (List.mem_of_getElem? (i := 1) rfl) h9
      refine VJ.aastq C 1 2 p1 0 (fun w2 => pf [aW cQ oa ra ta ea w2, pW AL AI AR]) (r := (RX0, TX0, 10)) rfl rfl ep1 rfl (fun _ => rfl) dX1_add_29 (fun w2 => ?_)
      refine VJ.aload_n C 1 dX1_add_30 rfl ?_
      refine VJ.aload_n C 0 dX1_add_31 rfl ?_
      refine VJ.get (C0 := RX1) (T := TX1) (N := 3) (ci := 1) C in_X1_add_X1 0 rfl rfl 1 (Nat.le_of_ble_eq_true rfl) (C.1.2.2.2.2 _ (List.mem_of_getElem? (i := 1) rfl)) (fun _ h9 => h9) (v := .int ta) rfl dX1_add_32 ?_
      refine VJ.rom (fun h9 => ?_)
      obtain ⟨p3, ep3⟩ := pool_at (ps := [aW cQ oa ra ta ea w2, pW AL AI AR]) (List.mem_of_getElem? (i := 1) rfl) h9
      refine VJ.putPN (C0 := RX0) (T := TX0) (N := 10) (ci := 0) C in_X1_add_X0 p3 ep3 rfl 7 (Nat.le_of_ble_eq_true rfl) (C.nest (List.mem_of_getElem? (i := 17) rfl) rfl) (fun _ h9 => h9) (pf [aW cQ oa ra ta ea w2, pW AL (upI AI x1 7 ta) AR]) tyX0 tyX0_ok nmX0 rfl (fty := .int) rfl (vp_nar_int _) rfl (Nat.le_of_ble_eq_true rfl) (fun hD9 => pool_setI (X := [aW cQ oa ra ta ea w2]) 7 (by decide) _ h9 ep3 hD9) dX1_add_35 ?_
      refine VJ.aload_n C 0 dX1_add_38 rfl ?_
      refine VJ.dup C dX1_add_39 rfl ?_
      refine VJ.get (C0 := RX1) (T := TX1) (N := 3) (ci := 1) C in_X1_add_X1 0 rfl rfl 1 (Nat.le_of_ble_eq_true rfl) (C.1.2.2.2.2 _ (List.mem_of_getElem? (i := 1) rfl)) (fun _ h9 => h9) (v := .int ta) rfl dX1_add_40 ?_
      refine VJ.iconst (v := 1) C dX1_add_43 (by decide) ?_
      refine VJ.iadd C dX1_add_44 ?_
      refine VJ.put (C0 := RX1) (T := TX1) (N := 3) (ci := 1) C in_X1_add_X1 0 rfl rfl 1 (Nat.le_of_ble_eq_true rfl) (C.1.2.2.2.2 _ (List.mem_of_getElem? (i := 1) rfl)) (fun _ h9 => h9) (pf [aW cQ oa ra (ta + 1) ea w2, pW AL (upI AI x1 7 ta) AR]) tyX1 tyX1_ok nmX1 rfl (fty := .int) rfl (vp_nar_int _) rfl (Nat.le_of_ble_eq_true rfl) rfl dX1_add_45 ?_
      refine VJ.aload_n C 1 dX1_add_48 rfl ?_
      refine VJ.rom (fun h9 => ?_)
      obtain ⟨p4, ep4⟩ := pool_at (ps := [aW cQ oa ra (ta + 1) ea w2, pW AL (upI AI x1 7 ta) AR]) (List.mem_of_getElem? (i := 1) rfl) h9
      refine VJ.getN (C0 := RX0) (T := TX0) (N := 10) (ci := 0) C in_X1_add_X0 p4 ep4 rfl 2 (Nat.le_of_ble_eq_true rfl) (C.nest (List.mem_of_getElem? (i := 7) rfl) rfl) (fun _ h9 => h9) rfl dX1_add_49 ?_
      refine VJ.iconst (v := (-1)) C dX1_add_52 (by decide) ?_
      refine VJ.icmp_eq C 61 dX1_add_53 (by decide) (fun _ => ?_) (fun _ => ?_)
      · exact VJ.vret C hret rfl rfl dX1_add_61
      · refine VJ.aload_n C 0 dX1_add_56 rfl ?_
        refine VJ.aload_n C 1 dX1_add_57 rfl ?_
        refine VJ.callV2 C [.ref x1] (pf [aW cQ oa ra (ta + 1) ea w2, pW AL (upI AI x1 7 ta) AR]) ([]) (fun ea5 AR6 => none) (fun ea5 AR6 => pf [aW cQ oa ra (ta + 1) ea5 w2, pW AL (upI AI x1 7 ta) AR6]) (fun ea5 AR6 => pf [aW cQ oa ra (ta + 1) ea5 w2, pW AL (upI AI x1 7 ta) AR6]) (fun ea5 AR6 => []) 0 0 (fun _ h9 => c_X1_chain l G cI cZ cQ cU cJ N oa ra (ta + 1) ea w2 AL (upI AI x1 7 ta) AR x1 _ h9) (vj_p0 _) (fun _ _ => vj_p0' _) 0 rfl rfl (cwV 1 C.1.2.2.2.2 gX1_add_X1_chain rfl rfl rfl hyV_X1_chain ⟨Nat.le_of_ble_eq_true rfl, Nat.le_of_ble_eq_true rfl⟩) rfl rfl (fun _ _ => rfl) (Nat.le_of_ble_eq_true rfl) dX1_add_58 ⟨Nat.le_of_ble_eq_true rfl, Nat.le_of_ble_eq_true rfl⟩ ⟨rfl, rfl⟩ (fun ea5 AR6 => ?_)
        exact VJ.vret C hret rfl rfl dX1_add_61
    · exact VJ.vret C hret rfl rfl dX1_add_19

def f_X3_checkOf (x0 : Int32) : Option Int32 :=
  ol (x0 / 1000) (fun v1 => ol (v1 - v1 / 10 * 10) (fun v2 => ol (x0 / 100) (fun v3 => ol (v3 - v3 / 10 * 10) (fun v4 => ol (x0 / 10) (fun v5 => ol (v5 - v5 / 10 * 10) (fun v6 => ol (x0 - x0 / 10 * 10) (fun v7 => ol ((((2 * v2) + (3 * v4)) + (4 * v6)) + (5 * v7)) (fun v8 => some (v8 - v8 / 11 * 11)))))))))
abbrev rmX3_checkOf : Room := { frames := 0, cells := 0, slots := 0, locals := 0 }
theorem hy_X3_checkOf : yX3_checkOf.cls ≠ "java/lang/invoke/MethodHandle" ∧ yX3_checkOf.cls ≠ "java/lang/invoke/VarHandle" ∧ (parseMethodDescriptor yX3_checkOf.desc).map (fun d => d.parameters.length) = some 1 := by decide +kernel
theorem hyV_X3_checkOf : yX3_checkOf.cls = RX3 ∧ yX3_checkOf.cls ≠ "java/lang/invoke/MethodHandle" ∧ yX3_checkOf.cls ≠ "java/lang/invoke/VarHandle" ∧ (parseMethodDescriptor yX3_checkOf.desc).map (fun d => d.parameters.length) = some 1 := ⟨rfl, hy_X3_checkOf⟩
set_option maxHeartbeats 8000000 in
set_option maxRecDepth 100000 in
theorem c_X3_checkOf (l : Launch) (G : va_G) (cI cZ cQ cU cJ : ClassId) (x0 : Int32) (out : Int32) (hf : f_X3_checkOf x0 = some out) : Con l yX3_checkOf wsX3_checkOf rmX3_checkOf G vwCl (tys cI cZ cQ cU cJ) nws [.int x0] (pf []) (some (.int out)) (pf []) := by
  refine con_of (rv := fun out : Int32 => some (.int out)) (Wd := fun out : Int32 => pf []) (maxL := 5) (own := RX3) rfl (plainFor_of_name (by decide +kernel)) rfl (Nat.le_of_ble_eq_true rfl) ?_ hf
  intro p e s m args below meth c A C hret hname
  unfold f_X3_checkOf
  refine VJ.iload_n C 0 dX3_checkOf_0 rfl ?_
  refine VJ.sipush (v := 1000) C dX3_checkOf_1 (by decide) ?_
  refine VJ.idiv C dX3_checkOf_4 (by decide) ?_
  refine VJ.bipush (v := 10) C dX3_checkOf_5 (by decide) ?_
  refine VJ.nami2 C (fun v1 => ?_)
  refine VJ.irem C dX3_checkOf_7 (by decide) ?_
  refine VJ.topi C (fun v2 => ?_)
  refine VJ.istore_n C [(1, .int v2), (0, .int x0)] dX3_checkOf_8 (Nat.le_of_ble_eq_true rfl) rfl ?_
  refine VJ.iload_n C 1 dX3_checkOf_9 rfl ?_
  refine VJ.bipush (v := 100) C dX3_checkOf_10 (by decide) ?_
  refine VJ.idiv C dX3_checkOf_12 (by decide) ?_
  refine VJ.bipush (v := 10) C dX3_checkOf_13 (by decide) ?_
  refine VJ.nami2 C (fun v3 => ?_)
  refine VJ.irem C dX3_checkOf_15 (by decide) ?_
  refine VJ.topi C (fun v4 => ?_)
  refine VJ.istore_n C [(2, .int v4), (1, .int v2), (0, .int x0)] dX3_checkOf_16 (Nat.le_of_ble_eq_true rfl) rfl ?_
  refine VJ.iload_n C 2 dX3_checkOf_17 rfl ?_
  refine VJ.bipush (v := 10) C dX3_checkOf_18 (by decide) ?_
  refine VJ.idiv C dX3_checkOf_20 (by decide) ?_
  refine VJ.bipush (v := 10) C dX3_checkOf_21 (by decide) ?_
  refine VJ.nami2 C (fun v5 => ?_)
  refine VJ.irem C dX3_checkOf_23 (by decide) ?_
  refine VJ.topi C (fun v6 => ?_)
  refine VJ.istore_n C [(3, .int v6), (2, .int v4), (1, .int v2), (0, .int x0)] dX3_checkOf_24 (Nat.le_of_ble_eq_true rfl) rfl ?_
  refine VJ.iload_n C 3 dX3_checkOf_25 rfl ?_
  refine VJ.bipush (v := 10) C dX3_checkOf_26 (by decide) ?_
  refine VJ.irem C dX3_checkOf_28 (by decide) ?_
  refine VJ.topi C (fun v7 => ?_)
  refine VJ.istore C [(4, .int v7), (3, .int v6), (2, .int v4), (1, .int v2), (0, .int x0)] dX3_checkOf_29 (Nat.le_of_ble_eq_true rfl) rfl ?_
  refine VJ.iconst (v := 2) C dX3_checkOf_31 (by decide) ?_
  refine VJ.iload_n C 3 dX3_checkOf_32 rfl ?_
  refine VJ.imul C dX3_checkOf_33 ?_
  refine VJ.iconst (v := 3) C dX3_checkOf_34 (by decide) ?_
  refine VJ.iload_n C 2 dX3_checkOf_35 rfl ?_
  refine VJ.imul C dX3_checkOf_36 ?_
  refine VJ.iadd C dX3_checkOf_37 ?_
  refine VJ.iconst (v := 4) C dX3_checkOf_38 (by decide) ?_
  refine VJ.iload_n C 1 dX3_checkOf_39 rfl ?_
  refine VJ.imul C dX3_checkOf_40 ?_
  refine VJ.iadd C dX3_checkOf_41 ?_
  refine VJ.iconst (v := 5) C dX3_checkOf_42 (by decide) ?_
  refine VJ.iload C 0 dX3_checkOf_43 rfl ?_
  refine VJ.imul C dX3_checkOf_45 ?_
  refine VJ.iadd C dX3_checkOf_46 ?_
  refine VJ.bipush (v := 11) C dX3_checkOf_47 (by decide) ?_
  refine VJ.nami2 C (fun v8 => ?_)
  refine VJ.irem C dX3_checkOf_49 (by decide) ?_
  exact VJ.iret C hret rfl rfl dX3_checkOf_50

def f_X3_isOfSerial (x0 : Int32) : Option Int32 :=
  ol (x0 / 10) (fun v1 => if v1 < 1001 then (some 0) else (if 9999 < v1 then (some 0) else (ob1 (f_X3_checkOf v1) (fun r2 => if (x0 - x0 / 10 * 10) = r2 then (some 1) else (some 0)))))
abbrev rmX3_isOfSerial : Room := { frames := 1, cells := 0, slots := 0, locals := 24 }
theorem hy_X3_isOfSerial : yX3_isOfSerial.cls ≠ "java/lang/invoke/MethodHandle" ∧ yX3_isOfSerial.cls ≠ "java/lang/invoke/VarHandle" ∧ (parseMethodDescriptor yX3_isOfSerial.desc).map (fun d => d.parameters.length) = some 1 := by decide +kernel
theorem hyV_X3_isOfSerial : yX3_isOfSerial.cls = RX3 ∧ yX3_isOfSerial.cls ≠ "java/lang/invoke/MethodHandle" ∧ yX3_isOfSerial.cls ≠ "java/lang/invoke/VarHandle" ∧ (parseMethodDescriptor yX3_isOfSerial.desc).map (fun d => d.parameters.length) = some 1 := ⟨rfl, hy_X3_isOfSerial⟩
set_option maxHeartbeats 8000000 in
set_option maxRecDepth 100000 in
theorem c_X3_isOfSerial (l : Launch) (G : va_G) (cI cZ cQ cU cJ : ClassId) (x0 : Int32) (out : Int32) (hf : f_X3_isOfSerial x0 = some out) : Con l yX3_isOfSerial wsX3_isOfSerial rmX3_isOfSerial G vwCl (tys cI cZ cQ cU cJ) nws [.int x0] (pf []) (some (.int out)) (pf []) := by
  refine con_of (rv := fun out : Int32 => some (.int out)) (Wd := fun out : Int32 => pf []) (maxL := 2) (own := RX3) rfl (plainFor_of_name (by decide +kernel)) rfl (Nat.le_of_ble_eq_true rfl) ?_ hf
  intro p e s m args below meth c A C hret hname
  unfold f_X3_isOfSerial
  refine VJ.iload_n C 0 dX3_isOfSerial_0 rfl ?_
  refine VJ.bipush (v := 10) C dX3_isOfSerial_1 (by decide) ?_
  refine VJ.idiv C dX3_isOfSerial_3 (by decide) ?_
  refine VJ.topi C (fun v1 => ?_)
  refine VJ.istore_n C [(1, .int v1), (0, .int x0)] dX3_isOfSerial_4 (Nat.le_of_ble_eq_true rfl) rfl ?_
  refine VJ.iload_n C 0 dX3_isOfSerial_5 rfl ?_
  refine VJ.sipush (v := 1001) C dX3_isOfSerial_6 (by decide) ?_
  refine VJ.icmp_lt C 34 dX3_isOfSerial_9 (by decide) (fun _ => ?_) (fun _ => ?_)
  · refine VJ.iconst (v := 0) C dX3_isOfSerial_34 (by decide) ?_
    exact VJ.zret C rfl hret rfl rfl dX3_isOfSerial_35
  · refine VJ.iload_n C 0 dX3_isOfSerial_12 rfl ?_
    refine VJ.sipush (v := 9999) C dX3_isOfSerial_13 (by decide) ?_
    refine VJ.icmp_gt C 34 dX3_isOfSerial_16 (by decide) (fun _ => ?_) (fun _ => ?_)
    · refine VJ.iconst (v := 0) C dX3_isOfSerial_34 (by decide) ?_
      exact VJ.zret C rfl hret rfl rfl dX3_isOfSerial_35
    · refine VJ.iload_n C 1 dX3_isOfSerial_19 rfl ?_
      refine VJ.bipush (v := 10) C dX3_isOfSerial_20 (by decide) ?_
      refine VJ.irem C dX3_isOfSerial_22 (by decide) ?_
      refine VJ.iload_n C 0 dX3_isOfSerial_23 rfl ?_
      refine VJ.callS1 C [.int v1] (pf []) (pf []) (fun r2 => some (.int r2)) (fun r2 => pf []) (fun r2 => pf []) (fun r2 => [.int r2, .int (x0 - x0 / 10 * 10)]) 0 0 (fun _ h9 => c_X3_checkOf l G cI cZ cQ cU cJ v1 _ h9) (vj_pn _) (fun _ => vj_pn' _) (va_cwS 1 C.1.2.2.2.2 gX3_isOfSerial_X3_checkOf rfl rfl rfl hy_X3_checkOf ⟨Nat.le_of_ble_eq_true rfl, Nat.le_of_ble_eq_true rfl⟩) rfl rfl (fun _ => rfl) (Nat.le_of_ble_eq_true rfl) dX3_isOfSerial_24 ⟨Nat.le_of_ble_eq_true rfl, Nat.le_of_ble_eq_true rfl⟩ ⟨rfl, rfl⟩ (fun r2 => ?_)
      refine VJ.icmp_ne C 34 dX3_isOfSerial_27 (by decide) (fun _ => ?_) (fun _ => ?_)
      · refine VJ.iconst (v := 0) C dX3_isOfSerial_34 (by decide) ?_
        exact VJ.zret C rfl hret rfl rfl dX3_isOfSerial_35
      · refine VJ.iconst (v := 1) C dX3_isOfSerial_30 (by decide) ?_
        refine VJ.goto C 35 dX3_isOfSerial_31 (by decide) ?_
        exact VJ.zret C rfl hret rfl rfl dX3_isOfSerial_35

set_option maxHeartbeats 4000000 in
set_option maxRecDepth 100000 in
def f_X3_takeNext_l5b (N : Nat) (R : RI) (k5 : OI → Int32 → Option (Int32 × OI)) (I : OI) (x1 : Int32) : Option (Int32 × OI) :=
  if 9999 < x1 then (some ((-1), I)) else (ob1 (f_X3_checkOf x1) (fun r2 => if r2 = 10 then (ol (x1 + Int32.ofInt 1) (fun v3 => k5 I v3)) else (ol (va_up I 1 (x1 + 1)) (fun I4 => ob1 (f_X3_checkOf x1) (fun r5 => some ((10 * x1) + r5, I4))))))
set_option maxHeartbeats 4000000 in
set_option maxRecDepth 100000 in
def f_X3_takeNext_l5 (N : Nat) (R : RI) : Nat → OI → Int32 → Option (Int32 × OI)
  | 0 => fun _ _ => none
  | n9 + 1 => f_X3_takeNext_l5b N R (f_X3_takeNext_l5 N R n9)
def f_X3_takeNext (N : Nat) (R : RI) (I : OI) : Option (Int32 × OI) :=
  ol (I 1) (fun v1 => f_X3_takeNext_l5 N R N I v1)
abbrev rmX3_takeNext : Room := { frames := 1, cells := 0, slots := 0, locals := 24 }
theorem in_X3_takeNext_X3 : ∀ w ∈ u_ws RX3 TX3 4, w ∈ wsX3_takeNext := in_of 6 rfl
theorem hy_X3_takeNext : yX3_takeNext.cls ≠ "java/lang/invoke/MethodHandle" ∧ yX3_takeNext.cls ≠ "java/lang/invoke/VarHandle" ∧ (parseMethodDescriptor yX3_takeNext.desc).map (fun d => d.parameters.length) = some 0 := by decide +kernel
theorem hyV_X3_takeNext : yX3_takeNext.cls = RX3 ∧ yX3_takeNext.cls ≠ "java/lang/invoke/MethodHandle" ∧ yX3_takeNext.cls ≠ "java/lang/invoke/VarHandle" ∧ (parseMethodDescriptor yX3_takeNext.desc).map (fun d => d.parameters.length) = some 0 := ⟨rfl, hy_X3_takeNext⟩
set_option maxHeartbeats 8000000 in
set_option maxRecDepth 100000 in
theorem c_X3_takeNext (l : Launch) (G : va_G) (cI cZ cQ cU cJ : ClassId) (N : Nat) (o : Nat) (ad : Nat → Nat) (I : OI) (R : RI) (out : Int32 × OI) (hf : f_X3_takeNext N R I = some out) : Con l yX3_takeNext wsX3_takeNext rmX3_takeNext G vwCl (tys cI cZ cQ cU cJ) nws [.ref o] (pf [nW cI cZ o ad I R]) (some (.int out.1)) (pf [nW cI cZ o ad out.2 R]) := by
  refine con_of (rv := fun out : Int32 × OI => some (.int out.1)) (Wd := fun out : Int32 × OI => pf [nW cI cZ o ad out.2 R]) (maxL := 2) (own := RX3) rfl (plainFor_of_name (by decide +kernel)) rfl (Nat.le_of_ble_eq_true rfl) ?_ hf
  intro p e s m args below meth c A C hret hname
  have j5 : ∀ (n9 : Nat) (I : OI) (x1 : Int32), VJ p l e rmX3_takeNext s m args below meth c 2 G vwCl A (QR below G vwCl A args s rmX3_takeNext.cells rmX3_takeNext.slots (fun out : Int32 × OI => some (.int out.1)) (fun out : Int32 × OI => pf [nW cI cZ o ad out.2 R])) 0 0 (f_X3_takeNext_l5 N R  n9 I x1) (pf [nW cI cZ o ad I R]) 5 [(0, .ref o), (1, .int x1)] [] := by
    intro  n9
    induction n9 with
    | zero => intro I x1; exact VJ.fnone rfl
    | succ n9 i5 =>
      intro I x1
      refine VJ.eqf (f' := f_X3_takeNext_l5b N R  (f_X3_takeNext_l5 N R  n9) I x1) rfl ?_
      generalize f_X3_takeNext_l5 N R  n9 = k5 at i5 ⊢
      unfold f_X3_takeNext_l5b
      refine VJ.iload_n C 1 dX3_takeNext_5 rfl ?_
      refine VJ.sipush (v := 9999) C dX3_takeNext_6 (by decide) ?_
      refine VJ.icmp_gt C 44 dX3_takeNext_9 (by decide) (fun _ => ?_) (fun _ => ?_)
      · refine VJ.iconst (v := (-1)) C dX3_takeNext_44 (by decide) ?_
        exact VJ.iret C hret rfl rfl dX3_takeNext_45
      · refine VJ.iload_n C 1 dX3_takeNext_12 rfl ?_
        refine VJ.callS1 C [.int x1] (pf []) (pf [nW cI cZ o ad I R]) (fun r2 => some (.int r2)) (fun r2 => pf []) (fun r2 => pf [nW cI cZ o ad I R]) (fun r2 => [.int r2]) 0 0 (fun _ h9 => c_X3_checkOf l G cI cZ cQ cU cJ x1 _ h9) (vj_pn _) (fun _ => vj_pn' _) (va_cwS 1 C.1.2.2.2.2 gX3_takeNext_X3_checkOf rfl rfl rfl hy_X3_checkOf ⟨Nat.le_of_ble_eq_true rfl, Nat.le_of_ble_eq_true rfl⟩) rfl rfl (fun _ => rfl) (Nat.le_of_ble_eq_true rfl) dX3_takeNext_13 ⟨Nat.le_of_ble_eq_true rfl, Nat.le_of_ble_eq_true rfl⟩ ⟨rfl, rfl⟩ (fun r2 => ?_)
        refine VJ.bipush (v := 10) C dX3_takeNext_16 (by decide) ?_
        refine VJ.icmp_eq C 38 dX3_takeNext_18 (by decide) (fun _ => ?_) (fun _ => ?_)
        · refine VJ.iincN C 1 (fun v3 => [(1, .int v3), (0, .ref o)]) dX3_takeNext_38 rfl (Nat.le_of_ble_eq_true rfl) (fun _ => rfl) (fun v3 => ?_)
          refine VJ.goto C 5 dX3_takeNext_41 (by decide) ?_
          refine VJ.sub [1, 0] rfl ?_
          exact i5 I v3
        · refine VJ.aload_n C 0 dX3_takeNext_21 rfl ?_
          refine VJ.iload_n C 1 dX3_takeNext_22 rfl ?_
          refine VJ.iconst (v := 1) C dX3_takeNext_23 (by decide) ?_
          refine VJ.iadd C dX3_takeNext_24 ?_
          refine VJ.putI (C0 := RX3) (T := TX3) (N := 4) (ci := 3) C in_X3_takeNext_X3 0 rfl rfl 3 (Nat.le_of_ble_eq_true rfl) (C.1.2.2.2.2 _ (List.mem_of_getElem? (i := 1) rfl)) (fun _ h9 => h9) (Ii := I) (jj := 1) (fun I4 => pf [nW cI cZ o ad I4 R]) tyX3 tyX3_ok nmX3 rfl rfl (Nat.le_of_ble_eq_true rfl) (fun _ => rfl) dX3_takeNext_25 (fun I4 => ?_)
          refine VJ.bipush (v := 10) C dX3_takeNext_28 (by decide) ?_
          refine VJ.iload_n C 1 dX3_takeNext_30 rfl ?_
          refine VJ.imul C dX3_takeNext_31 ?_
          refine VJ.iload_n C 1 dX3_takeNext_32 rfl ?_
          refine VJ.callS1 C [.int x1] (pf []) (pf [nW cI cZ o ad I4 R]) (fun r5 => some (.int r5)) (fun r5 => pf []) (fun r5 => pf [nW cI cZ o ad I4 R]) (fun r5 => [.int r5, .int (10 * x1)]) 0 0 (fun _ h9 => c_X3_checkOf l G cI cZ cQ cU cJ x1 _ h9) (vj_pn _) (fun _ => vj_pn' _) (va_cwS 1 C.1.2.2.2.2 gX3_takeNext_X3_checkOf rfl rfl rfl hy_X3_checkOf ⟨Nat.le_of_ble_eq_true rfl, Nat.le_of_ble_eq_true rfl⟩) rfl rfl (fun _ => rfl) (Nat.le_of_ble_eq_true rfl) dX3_takeNext_33 ⟨Nat.le_of_ble_eq_true rfl, Nat.le_of_ble_eq_true rfl⟩ ⟨rfl, rfl⟩ (fun r5 => ?_)
          refine VJ.iadd C dX3_takeNext_36 ?_
          exact VJ.iret C hret rfl rfl dX3_takeNext_37
  unfold f_X3_takeNext
  refine VJ.aload_n C 0 dX3_takeNext_0 rfl ?_
  refine VJ.get (C0 := RX3) (T := TX3) (N := 4) (ci := 3) C in_X3_takeNext_X3 0 rfl rfl 3 (Nat.le_of_ble_eq_true rfl) (C.1.2.2.2.2 _ (List.mem_of_getElem? (i := 1) rfl)) (fun _ h9 => h9) (v := .int (I 1)) rfl dX3_takeNext_1 ?_
  refine VJ.topi C (fun v1 => ?_)
  refine VJ.istore_n C [(1, .int v1), (0, .ref o)] dX3_takeNext_4 (Nat.le_of_ble_eq_true rfl) rfl ?_
  refine VJ.sub [1, 0] rfl ?_
  exact j5 N I v1

def f_X3_give (N : Nat) (I : OI) (R : RI) (x1 : Int32) : Option (Int32 × OI × RI) :=
  ob2 (f_X3_takeNext N R I) (fun r1 I2 => ol (va_up R 0 (putv 60 (R 0) (I2 0) r1)) (fun R3 => ol (va_up R3 1 (putv 60 (R3 1) (I2 0) x1)) (fun R4 => ol (va_up I2 0 ((I2 0) + 1)) (fun I5 => some (r1, I5, R4)))))
abbrev rmX3_give : Room := { frames := 2, cells := 0, slots := 0, locals := 45 }
theorem in_X3_give_X3 : ∀ w ∈ u_ws RX3 TX3 4, w ∈ wsX3_give := in_of 16 rfl
theorem hy_X3_give : yX3_give.cls ≠ "java/lang/invoke/MethodHandle" ∧ yX3_give.cls ≠ "java/lang/invoke/VarHandle" ∧ (parseMethodDescriptor yX3_give.desc).map (fun d => d.parameters.length) = some 1 := by decide +kernel
theorem hyV_X3_give : yX3_give.cls = RX3 ∧ yX3_give.cls ≠ "java/lang/invoke/MethodHandle" ∧ yX3_give.cls ≠ "java/lang/invoke/VarHandle" ∧ (parseMethodDescriptor yX3_give.desc).map (fun d => d.parameters.length) = some 1 := ⟨rfl, hy_X3_give⟩
set_option maxHeartbeats 8000000 in
set_option maxRecDepth 100000 in
theorem c_X3_give (l : Launch) (G : va_G) (cI cZ cQ cU cJ : ClassId) (N : Nat) (o : Nat) (ad : Nat → Nat) (I : OI) (R : RI) (x1 : Int32) (out : Int32 × OI × RI) (hf : f_X3_give N I R x1 = some out) : Con l yX3_give wsX3_give rmX3_give G vwCl (tys cI cZ cQ cU cJ) nws [.ref o, .int x1] (pf [nW cI cZ o ad I R]) (some (.int out.1)) (pf [nW cI cZ o ad out.2.1 out.2.2]) := by
  refine con_of (rv := fun out : Int32 × OI × RI => some (.int out.1)) (Wd := fun out : Int32 × OI × RI => pf [nW cI cZ o ad out.2.1 out.2.2]) (maxL := 3) (own := RX3) rfl (plainFor_of_name (by decide +kernel)) rfl (Nat.le_of_ble_eq_true rfl) ?_ hf
  intro p e s m args below meth c A C hret hname
  unfold f_X3_give
  refine VJ.aload_n C 0 dX3_give_0 rfl ?_
  refine VJ.callV2 C [] (pf [nW cI cZ o ad I R]) ([]) (fun r1 I2 => some (.int r1)) (fun r1 I2 => pf [nW cI cZ o ad I2 R]) (fun r1 I2 => pf [nW cI cZ o ad I2 R]) (fun r1 I2 => [.int r1]) 0 0 (fun _ h9 => c_X3_takeNext l G cI cZ cQ cU cJ N o ad I R _ h9) (vj_p0 _) (fun _ _ => vj_p0' _) 0 rfl rfl (cwV 0 C.1.2.2.2.2 gX3_give_X3_takeNext rfl rfl rfl hyV_X3_takeNext ⟨Nat.le_of_ble_eq_true rfl, Nat.le_of_ble_eq_true rfl⟩) rfl rfl (fun _ _ => rfl) (Nat.le_of_ble_eq_true rfl) dX3_give_1 ⟨Nat.le_of_ble_eq_true rfl, Nat.le_of_ble_eq_true rfl⟩ ⟨rfl, rfl⟩ (fun r1 I2 => ?_)
  refine VJ.istore_n C [(2, .int r1), (0, .ref o), (1, .int x1)] dX3_give_4 (Nat.le_of_ble_eq_true rfl) rfl ?_
  refine VJ.aload_n C 1 dX3_give_5 rfl ?_
  refine VJ.get (C0 := RX3) (T := TX3) (N := 4) (ci := 3) C in_X3_give_X3 0 rfl rfl 0 (Nat.le_of_ble_eq_true rfl) (C.1.2.2.2.2 _ (List.mem_of_getElem? (i := 1) rfl)) (fun _ h9 => h9) (v := .ref (ad 0)) rfl dX3_give_6 ?_
  refine VJ.aload_n C 1 dX3_give_9 rfl ?_
  refine VJ.get (C0 := RX3) (T := TX3) (N := 4) (ci := 3) C in_X3_give_X3 0 rfl rfl 2 (Nat.le_of_ble_eq_true rfl) (C.1.2.2.2.2 _ (List.mem_of_getElem? (i := 2) rfl)) (fun _ h9 => h9) (v := .int (I2 0)) rfl dX3_give_10 ?_
  refine VJ.iload_n C 0 dX3_give_13 rfl ?_
  refine VJ.putSN (q0 := 1) C R 0 (fun R3 => pf [nW cI cZ o ad I2 R3]) rfl (fun _ => rfl) (c_X5_putt l G cI cZ cQ cU cJ (ad 0) 60 (Nat.le_of_ble_eq_true rfl) (R 0) (I2 0) r1) (⟨va_cnB 3 C.1.2.2.2.2 gX3_give_X5_put_n29 rfl rfl rfl (C.nestM (List.mem_of_getElem? (i := 39) rfl)) (C.1.2.2.2.2 _ (List.mem_of_getElem? (i := 14) rfl)) hy_X5_put ⟨Nat.le_of_ble_eq_true rfl, Nat.le_of_ble_eq_true rfl⟩, (C.1.2.2.2.2 _ (List.mem_of_getElem? (i := 13) rfl)), trivial⟩) rfl (Nat.le_of_ble_eq_true rfl) dX3_give_14 ⟨Nat.le_of_ble_eq_true rfl, Nat.le_of_ble_eq_true rfl⟩ ⟨rfl, rfl⟩ (fun R3 => ?_)
  refine VJ.aload_n C 1 dX3_give_17 rfl ?_
  refine VJ.get (C0 := RX3) (T := TX3) (N := 4) (ci := 3) C in_X3_give_X3 0 rfl rfl 1 (Nat.le_of_ble_eq_true rfl) (C.1.2.2.2.2 _ (List.mem_of_getElem? (i := 3) rfl)) (fun _ h9 => h9) (v := .ref (ad 1)) rfl dX3_give_18 ?_
  refine VJ.aload_n C 1 dX3_give_21 rfl ?_
  refine VJ.get (C0 := RX3) (T := TX3) (N := 4) (ci := 3) C in_X3_give_X3 0 rfl rfl 2 (Nat.le_of_ble_eq_true rfl) (C.1.2.2.2.2 _ (List.mem_of_getElem? (i := 2) rfl)) (fun _ h9 => h9) (v := .int (I2 0)) rfl dX3_give_22 ?_
  refine VJ.iload_n C 2 dX3_give_25 rfl ?_
  refine VJ.putSN (q0 := 2) C R3 1 (fun R4 => pf [nW cI cZ o ad I2 R4]) rfl (fun _ => rfl) (c_X5_putt l G cI cZ cQ cU cJ (ad 1) 60 (Nat.le_of_ble_eq_true rfl) (R3 1) (I2 0) x1) (⟨va_cnB 3 C.1.2.2.2.2 gX3_give_X5_put_n29 rfl rfl rfl (C.nestM (List.mem_of_getElem? (i := 39) rfl)) (C.1.2.2.2.2 _ (List.mem_of_getElem? (i := 14) rfl)) hy_X5_put ⟨Nat.le_of_ble_eq_true rfl, Nat.le_of_ble_eq_true rfl⟩, (C.1.2.2.2.2 _ (List.mem_of_getElem? (i := 13) rfl)), trivial⟩) rfl (Nat.le_of_ble_eq_true rfl) dX3_give_26 ⟨Nat.le_of_ble_eq_true rfl, Nat.le_of_ble_eq_true rfl⟩ ⟨rfl, rfl⟩ (fun R4 => ?_)
  refine VJ.aload_n C 1 dX3_give_29 rfl ?_
  refine VJ.dup C dX3_give_30 rfl ?_
  refine VJ.get (C0 := RX3) (T := TX3) (N := 4) (ci := 3) C in_X3_give_X3 0 rfl rfl 2 (Nat.le_of_ble_eq_true rfl) (C.1.2.2.2.2 _ (List.mem_of_getElem? (i := 2) rfl)) (fun _ h9 => h9) (v := .int (I2 0)) rfl dX3_give_31 ?_
  refine VJ.iconst (v := 1) C dX3_give_34 (by decide) ?_
  refine VJ.iadd C dX3_give_35 ?_
  refine VJ.putI (C0 := RX3) (T := TX3) (N := 4) (ci := 3) C in_X3_give_X3 0 rfl rfl 2 (Nat.le_of_ble_eq_true rfl) (C.1.2.2.2.2 _ (List.mem_of_getElem? (i := 2) rfl)) (fun _ h9 => h9) (Ii := I2) (jj := 0) (fun I5 => pf [nW cI cZ o ad I5 R4]) tyX3 tyX3_ok nmX3 rfl rfl (Nat.le_of_ble_eq_true rfl) (fun _ => rfl) dX3_give_36 (fun I5 => ?_)
  refine VJ.iload_n C 0 dX3_give_39 rfl ?_
  exact VJ.iret C hret rfl rfl dX3_give_40

set_option maxHeartbeats 4000000 in
set_option maxRecDepth 100000 in
def f_X3_lastOf_l7b (N : Nat) (I : OI) (R : RI) (k7 : Int32 → Int32 → Option Int32) (x1 : Int32) (x2 : Int32) : Option Int32 :=
  if x2 < 0 then (some (-1)) else (if (atv 60 (R 1) x2) = x1 then (some (atv 60 (R 0) x2)) else (ol (x2 + Int32.ofInt (-1)) (fun v2 => k7 x1 v2)))
set_option maxHeartbeats 4000000 in
set_option maxRecDepth 100000 in
def f_X3_lastOf_l7 (N : Nat) (I : OI) (R : RI) : Nat → Int32 → Int32 → Option Int32
  | 0 => fun _ _ => none
  | n9 + 1 => f_X3_lastOf_l7b N I R (f_X3_lastOf_l7 N I R n9)
def f_X3_lastOf (N : Nat) (I : OI) (R : RI) (x1 : Int32) : Option Int32 :=
  ol ((I 0) - 1) (fun v1 => f_X3_lastOf_l7 N I R N x1 v1)
abbrev rmX3_lastOf : Room := { frames := 1, cells := 0, slots := 0, locals := 21 }
theorem in_X3_lastOf_X3 : ∀ w ∈ u_ws RX3 TX3 4, w ∈ wsX3_lastOf := in_of 7 rfl
theorem hy_X3_lastOf : yX3_lastOf.cls ≠ "java/lang/invoke/MethodHandle" ∧ yX3_lastOf.cls ≠ "java/lang/invoke/VarHandle" ∧ (parseMethodDescriptor yX3_lastOf.desc).map (fun d => d.parameters.length) = some 1 := by decide +kernel
theorem hyV_X3_lastOf : yX3_lastOf.cls = RX3 ∧ yX3_lastOf.cls ≠ "java/lang/invoke/MethodHandle" ∧ yX3_lastOf.cls ≠ "java/lang/invoke/VarHandle" ∧ (parseMethodDescriptor yX3_lastOf.desc).map (fun d => d.parameters.length) = some 1 := ⟨rfl, hy_X3_lastOf⟩
set_option maxHeartbeats 8000000 in
set_option maxRecDepth 100000 in
theorem c_X3_lastOf (l : Launch) (G : va_G) (cI cZ cQ cU cJ : ClassId) (N : Nat) (o : Nat) (ad : Nat → Nat) (I : OI) (R : RI) (x1 : Int32) (out : Int32) (hf : f_X3_lastOf N I R x1 = some out) : Con l yX3_lastOf wsX3_lastOf rmX3_lastOf G vwCl (tys cI cZ cQ cU cJ) nws [.ref o, .int x1] (pf [nW cI cZ o ad I R]) (some (.int out)) (pf [nW cI cZ o ad I R]) := by
  refine con_of (rv := fun out : Int32 => some (.int out)) (Wd := fun out : Int32 => pf [nW cI cZ o ad I R]) (maxL := 3) (own := RX3) rfl (plainFor_of_name (by decide +kernel)) rfl (Nat.le_of_ble_eq_true rfl) ?_ hf
  intro p e s m args below meth c A C hret hname
  have j7 : ∀ (n9 : Nat) (x1 : Int32) (x2 : Int32), VJ p l e rmX3_lastOf s m args below meth c 3 G vwCl A (QR below G vwCl A args s rmX3_lastOf.cells rmX3_lastOf.slots (fun out : Int32 => some (.int out)) (fun out : Int32 => pf [nW cI cZ o ad I R])) 0 0 (f_X3_lastOf_l7 N I R  n9 x1 x2) (pf [nW cI cZ o ad I R]) 7 [(0, .ref o), (1, .int x1), (2, .int x2)] [] := by
    intro  n9
    induction n9 with
    | zero => intro x1 x2; exact VJ.fnone rfl
    | succ n9 i7 =>
      intro x1 x2
      refine VJ.eqf (f' := f_X3_lastOf_l7b N I R  (f_X3_lastOf_l7 N I R  n9) x1 x2) rfl ?_
      generalize f_X3_lastOf_l7 N I R  n9 = k7 at i7 ⊢
      unfold f_X3_lastOf_l7b
      refine VJ.iload_n C 2 dX3_lastOf_7 rfl ?_
      refine VJ.if_lt C 38 dX3_lastOf_8 (by decide) (fun _ => ?_) (fun _ => ?_)
      · refine VJ.iconst (v := (-1)) C dX3_lastOf_38 (by decide) ?_
        exact VJ.iret C hret rfl rfl dX3_lastOf_39
      · refine VJ.aload_n C 0 dX3_lastOf_11 rfl ?_
        refine VJ.get (C0 := RX3) (T := TX3) (N := 4) (ci := 3) C in_X3_lastOf_X3 0 rfl rfl 1 (Nat.le_of_ble_eq_true rfl) (C.1.2.2.2.2 _ (List.mem_of_getElem? (i := 2) rfl)) (fun _ h9 => h9) (v := .ref (ad 1)) rfl dX3_lastOf_12 ?_
        refine VJ.iload_n C 2 dX3_lastOf_15 rfl ?_
        refine VJ.atSN (q0 := 2) C rfl (c_X5_att l G cI cZ cQ cU cJ (ad 1) 60 (Nat.le_of_ble_eq_true rfl) (R 1) x2) (⟨va_cnB 2 C.1.2.2.2.2 gX3_lastOf_X5_at_n37 rfl rfl rfl (C.nestM (List.mem_of_getElem? (i := 54) rfl)) (C.1.2.2.2.2 _ (List.mem_of_getElem? (i := 5) rfl)) hy_X5_at ⟨Nat.le_of_ble_eq_true rfl, Nat.le_of_ble_eq_true rfl⟩, (C.1.2.2.2.2 _ (List.mem_of_getElem? (i := 4) rfl)), trivial⟩) rfl (Nat.le_of_ble_eq_true rfl) dX3_lastOf_16 ⟨Nat.le_of_ble_eq_true rfl, Nat.le_of_ble_eq_true rfl⟩ ⟨rfl, rfl⟩ ?_
        refine VJ.iload_n C 1 dX3_lastOf_19 rfl ?_
        refine VJ.icmp_ne C 32 dX3_lastOf_20 (by decide) (fun _ => ?_) (fun _ => ?_)
        · refine VJ.iincN C 2 (fun v2 => [(2, .int v2), (0, .ref o), (1, .int x1)]) dX3_lastOf_32 rfl (Nat.le_of_ble_eq_true rfl) (fun _ => rfl) (fun v2 => ?_)
          refine VJ.goto C 7 dX3_lastOf_35 (by decide) ?_
          refine VJ.sub [1, 2, 0] rfl ?_
          exact i7 x1 v2
        · refine VJ.aload_n C 0 dX3_lastOf_23 rfl ?_
          refine VJ.get (C0 := RX3) (T := TX3) (N := 4) (ci := 3) C in_X3_lastOf_X3 0 rfl rfl 0 (Nat.le_of_ble_eq_true rfl) (C.1.2.2.2.2 _ (List.mem_of_getElem? (i := 3) rfl)) (fun _ h9 => h9) (v := .ref (ad 0)) rfl dX3_lastOf_24 ?_
          refine VJ.iload_n C 2 dX3_lastOf_27 rfl ?_
          refine VJ.atSN (q0 := 1) C rfl (c_X5_att l G cI cZ cQ cU cJ (ad 0) 60 (Nat.le_of_ble_eq_true rfl) (R 0) x2) (⟨va_cnB 2 C.1.2.2.2.2 gX3_lastOf_X5_at_n37 rfl rfl rfl (C.nestM (List.mem_of_getElem? (i := 54) rfl)) (C.1.2.2.2.2 _ (List.mem_of_getElem? (i := 5) rfl)) hy_X5_at ⟨Nat.le_of_ble_eq_true rfl, Nat.le_of_ble_eq_true rfl⟩, (C.1.2.2.2.2 _ (List.mem_of_getElem? (i := 4) rfl)), trivial⟩) rfl (Nat.le_of_ble_eq_true rfl) dX3_lastOf_28 ⟨Nat.le_of_ble_eq_true rfl, Nat.le_of_ble_eq_true rfl⟩ ⟨rfl, rfl⟩ ?_
          exact VJ.iret C hret rfl rfl dX3_lastOf_31
  unfold f_X3_lastOf
  refine VJ.aload_n C 0 dX3_lastOf_0 rfl ?_
  refine VJ.get (C0 := RX3) (T := TX3) (N := 4) (ci := 3) C in_X3_lastOf_X3 0 rfl rfl 2 (Nat.le_of_ble_eq_true rfl) (C.1.2.2.2.2 _ (List.mem_of_getElem? (i := 1) rfl)) (fun _ h9 => h9) (v := .int (I 0)) rfl dX3_lastOf_1 ?_
  refine VJ.iconst (v := 1) C dX3_lastOf_4 (by decide) ?_
  refine VJ.isub C dX3_lastOf_5 ?_
  refine VJ.topi C (fun v1 => ?_)
  refine VJ.istore_n C [(2, .int v1), (0, .ref o), (1, .int x1)] dX3_lastOf_6 (Nat.le_of_ble_eq_true rfl) rfl ?_
  refine VJ.sub [1, 2, 0] rfl ?_
  exact j7 N x1 v1

set_option maxHeartbeats 4000000 in
set_option maxRecDepth 100000 in
def f_X3_personOf_l2b (N : Nat) (I : OI) (R : RI) (k2 : Int32 → Int32 → Option Int32) (x1 : Int32) (x2 : Int32) : Option Int32 :=
  if (I 0) ≤ x2 then (some (-1)) else (if (atv 60 (R 0) x2) = x1 then (some (atv 60 (R 1) x2)) else (ol (x2 + Int32.ofInt 1) (fun v1 => k2 x1 v1)))
set_option maxHeartbeats 4000000 in
set_option maxRecDepth 100000 in
def f_X3_personOf_l2 (N : Nat) (I : OI) (R : RI) : Nat → Int32 → Int32 → Option Int32
  | 0 => fun _ _ => none
  | n9 + 1 => f_X3_personOf_l2b N I R (f_X3_personOf_l2 N I R n9)
def f_X3_personOf (N : Nat) (I : OI) (R : RI) (x1 : Int32) : Option Int32 :=
  f_X3_personOf_l2 N I R N x1 0
abbrev rmX3_personOf : Room := { frames := 1, cells := 0, slots := 0, locals := 21 }
theorem in_X3_personOf_X3 : ∀ w ∈ u_ws RX3 TX3 4, w ∈ wsX3_personOf := in_of 7 rfl
theorem hy_X3_personOf : yX3_personOf.cls ≠ "java/lang/invoke/MethodHandle" ∧ yX3_personOf.cls ≠ "java/lang/invoke/VarHandle" ∧ (parseMethodDescriptor yX3_personOf.desc).map (fun d => d.parameters.length) = some 1 := by decide +kernel
theorem hyV_X3_personOf : yX3_personOf.cls = RX3 ∧ yX3_personOf.cls ≠ "java/lang/invoke/MethodHandle" ∧ yX3_personOf.cls ≠ "java/lang/invoke/VarHandle" ∧ (parseMethodDescriptor yX3_personOf.desc).map (fun d => d.parameters.length) = some 1 := ⟨rfl, hy_X3_personOf⟩
set_option maxHeartbeats 8000000 in
set_option maxRecDepth 100000 in
theorem c_X3_personOf (l : Launch) (G : va_G) (cI cZ cQ cU cJ : ClassId) (N : Nat) (o : Nat) (ad : Nat → Nat) (I : OI) (R : RI) (x1 : Int32) (out : Int32) (hf : f_X3_personOf N I R x1 = some out) : Con l yX3_personOf wsX3_personOf rmX3_personOf G vwCl (tys cI cZ cQ cU cJ) nws [.ref o, .int x1] (pf [nW cI cZ o ad I R]) (some (.int out)) (pf [nW cI cZ o ad I R]) := by
  refine con_of (rv := fun out : Int32 => some (.int out)) (Wd := fun out : Int32 => pf [nW cI cZ o ad I R]) (maxL := 3) (own := RX3) rfl (plainFor_of_name (by decide +kernel)) rfl (Nat.le_of_ble_eq_true rfl) ?_ hf
  intro p e s m args below meth c A C hret hname
  have j2 : ∀ (n9 : Nat) (x1 : Int32) (x2 : Int32), VJ p l e rmX3_personOf s m args below meth c 3 G vwCl A (QR below G vwCl A args s rmX3_personOf.cells rmX3_personOf.slots (fun out : Int32 => some (.int out)) (fun out : Int32 => pf [nW cI cZ o ad I R])) 0 0 (f_X3_personOf_l2 N I R  n9 x1 x2) (pf [nW cI cZ o ad I R]) 2 [(0, .ref o), (1, .int x1), (2, .int x2)] [] := by
    intro  n9
    induction n9 with
    | zero => intro x1 x2; exact VJ.fnone rfl
    | succ n9 i2 =>
      intro x1 x2
      refine VJ.eqf (f' := f_X3_personOf_l2b N I R  (f_X3_personOf_l2 N I R  n9) x1 x2) rfl ?_
      generalize f_X3_personOf_l2 N I R  n9 = k2 at i2 ⊢
      unfold f_X3_personOf_l2b
      refine VJ.iload_n C 2 dX3_personOf_2 rfl ?_
      refine VJ.aload_n C 0 dX3_personOf_3 rfl ?_
      refine VJ.get (C0 := RX3) (T := TX3) (N := 4) (ci := 3) C in_X3_personOf_X3 0 rfl rfl 2 (Nat.le_of_ble_eq_true rfl) (C.1.2.2.2.2 _ (List.mem_of_getElem? (i := 1) rfl)) (fun _ h9 => h9) (v := .int (I 0)) rfl dX3_personOf_4 ?_
      refine VJ.icmp_ge C 37 dX3_personOf_7 (by decide) (fun _ => ?_) (fun _ => ?_)
      · refine VJ.iconst (v := (-1)) C dX3_personOf_37 (by decide) ?_
        exact VJ.iret C hret rfl rfl dX3_personOf_38
      · refine VJ.aload_n C 0 dX3_personOf_10 rfl ?_
        refine VJ.get (C0 := RX3) (T := TX3) (N := 4) (ci := 3) C in_X3_personOf_X3 0 rfl rfl 0 (Nat.le_of_ble_eq_true rfl) (C.1.2.2.2.2 _ (List.mem_of_getElem? (i := 2) rfl)) (fun _ h9 => h9) (v := .ref (ad 0)) rfl dX3_personOf_11 ?_
        refine VJ.iload_n C 2 dX3_personOf_14 rfl ?_
        refine VJ.atSN (q0 := 1) C rfl (c_X5_att l G cI cZ cQ cU cJ (ad 0) 60 (Nat.le_of_ble_eq_true rfl) (R 0) x2) (⟨va_cnB 2 C.1.2.2.2.2 gX3_personOf_X5_at_n37 rfl rfl rfl (C.nestM (List.mem_of_getElem? (i := 54) rfl)) (C.1.2.2.2.2 _ (List.mem_of_getElem? (i := 5) rfl)) hy_X5_at ⟨Nat.le_of_ble_eq_true rfl, Nat.le_of_ble_eq_true rfl⟩, (C.1.2.2.2.2 _ (List.mem_of_getElem? (i := 4) rfl)), trivial⟩) rfl (Nat.le_of_ble_eq_true rfl) dX3_personOf_15 ⟨Nat.le_of_ble_eq_true rfl, Nat.le_of_ble_eq_true rfl⟩ ⟨rfl, rfl⟩ ?_
        refine VJ.iload_n C 1 dX3_personOf_18 rfl ?_
        refine VJ.icmp_ne C 31 dX3_personOf_19 (by decide) (fun _ => ?_) (fun _ => ?_)
        · refine VJ.iincN C 2 (fun v1 => [(2, .int v1), (0, .ref o), (1, .int x1)]) dX3_personOf_31 rfl (Nat.le_of_ble_eq_true rfl) (fun _ => rfl) (fun v1 => ?_)
          refine VJ.goto C 2 dX3_personOf_34 (by decide) ?_
          refine VJ.sub [1, 2, 0] rfl ?_
          exact i2 x1 v1
        · refine VJ.aload_n C 0 dX3_personOf_22 rfl ?_
          refine VJ.get (C0 := RX3) (T := TX3) (N := 4) (ci := 3) C in_X3_personOf_X3 0 rfl rfl 1 (Nat.le_of_ble_eq_true rfl) (C.1.2.2.2.2 _ (List.mem_of_getElem? (i := 3) rfl)) (fun _ h9 => h9) (v := .ref (ad 1)) rfl dX3_personOf_23 ?_
          refine VJ.iload_n C 2 dX3_personOf_26 rfl ?_
          refine VJ.atSN (q0 := 2) C rfl (c_X5_att l G cI cZ cQ cU cJ (ad 1) 60 (Nat.le_of_ble_eq_true rfl) (R 1) x2) (⟨va_cnB 2 C.1.2.2.2.2 gX3_personOf_X5_at_n37 rfl rfl rfl (C.nestM (List.mem_of_getElem? (i := 54) rfl)) (C.1.2.2.2.2 _ (List.mem_of_getElem? (i := 5) rfl)) hy_X5_at ⟨Nat.le_of_ble_eq_true rfl, Nat.le_of_ble_eq_true rfl⟩, (C.1.2.2.2.2 _ (List.mem_of_getElem? (i := 4) rfl)), trivial⟩) rfl (Nat.le_of_ble_eq_true rfl) dX3_personOf_27 ⟨Nat.le_of_ble_eq_true rfl, Nat.le_of_ble_eq_true rfl⟩ ⟨rfl, rfl⟩ ?_
          exact VJ.iret C hret rfl rfl dX3_personOf_30
  unfold f_X3_personOf
  refine VJ.iconst (v := 0) C dX3_personOf_0 (by decide) ?_
  refine VJ.istore_n C [(2, .int 0), (0, .ref o), (1, .int x1)] dX3_personOf_1 (Nat.le_of_ble_eq_true rfl) rfl ?_
  refine VJ.sub [1, 2, 0] rfl ?_
  exact j2 N x1 0

def f_X4_write (x0 : Int32) (x1 : Int32) (x2 : Int32) : Option Int32 :=
  some (((1000 * x0) + (10 * x1)) + x2)
abbrev rmX4_write : Room := { frames := 0, cells := 0, slots := 0, locals := 0 }
theorem hy_X4_write : yX4_write.cls ≠ "java/lang/invoke/MethodHandle" ∧ yX4_write.cls ≠ "java/lang/invoke/VarHandle" ∧ (parseMethodDescriptor yX4_write.desc).map (fun d => d.parameters.length) = some 3 := by decide +kernel
theorem hyV_X4_write : yX4_write.cls = RX4 ∧ yX4_write.cls ≠ "java/lang/invoke/MethodHandle" ∧ yX4_write.cls ≠ "java/lang/invoke/VarHandle" ∧ (parseMethodDescriptor yX4_write.desc).map (fun d => d.parameters.length) = some 3 := ⟨rfl, hy_X4_write⟩
set_option maxHeartbeats 8000000 in
set_option maxRecDepth 100000 in
theorem c_X4_write (l : Launch) (G : va_G) (cI cZ cQ cU cJ : ClassId) (x0 : Int32) (x1 : Int32) (x2 : Int32) (out : Int32) (hf : f_X4_write x0 x1 x2 = some out) : Con l yX4_write wsX4_write rmX4_write G vwCl (tys cI cZ cQ cU cJ) nws [.int x0, .int x1, .int x2] (pf []) (some (.int out)) (pf []) := by
  refine con_of (rv := fun out : Int32 => some (.int out)) (Wd := fun out : Int32 => pf []) (maxL := 3) (own := RX4) rfl (plainFor_of_name (by decide +kernel)) rfl (Nat.le_of_ble_eq_true rfl) ?_ hf
  intro p e s m args below meth c A C hret hname
  unfold f_X4_write
  refine VJ.sipush (v := 1000) C dX4_write_0 (by decide) ?_
  refine VJ.iload_n C 0 dX4_write_3 rfl ?_
  refine VJ.imul C dX4_write_4 ?_
  refine VJ.bipush (v := 10) C dX4_write_5 (by decide) ?_
  refine VJ.iload_n C 1 dX4_write_7 rfl ?_
  refine VJ.imul C dX4_write_8 ?_
  refine VJ.iadd C dX4_write_9 ?_
  refine VJ.iload_n C 2 dX4_write_10 rfl ?_
  refine VJ.iadd C dX4_write_11 ?_
  exact VJ.iret C hret rfl rfl dX4_write_12

def f_X4_personIn (x0 : Int32) : Option Int32 :=
  some (x0 / 1000)
abbrev rmX4_personIn : Room := { frames := 0, cells := 0, slots := 0, locals := 0 }
theorem hy_X4_personIn : yX4_personIn.cls ≠ "java/lang/invoke/MethodHandle" ∧ yX4_personIn.cls ≠ "java/lang/invoke/VarHandle" ∧ (parseMethodDescriptor yX4_personIn.desc).map (fun d => d.parameters.length) = some 1 := by decide +kernel
theorem hyV_X4_personIn : yX4_personIn.cls = RX4 ∧ yX4_personIn.cls ≠ "java/lang/invoke/MethodHandle" ∧ yX4_personIn.cls ≠ "java/lang/invoke/VarHandle" ∧ (parseMethodDescriptor yX4_personIn.desc).map (fun d => d.parameters.length) = some 1 := ⟨rfl, hy_X4_personIn⟩
set_option maxHeartbeats 8000000 in
set_option maxRecDepth 100000 in
theorem c_X4_personIn (l : Launch) (G : va_G) (cI cZ cQ cU cJ : ClassId) (x0 : Int32) (out : Int32) (hf : f_X4_personIn x0 = some out) : Con l yX4_personIn wsX4_personIn rmX4_personIn G vwCl (tys cI cZ cQ cU cJ) nws [.int x0] (pf []) (some (.int out)) (pf []) := by
  refine con_of (rv := fun out : Int32 => some (.int out)) (Wd := fun out : Int32 => pf []) (maxL := 1) (own := RX4) rfl (plainFor_of_name (by decide +kernel)) rfl (Nat.le_of_ble_eq_true rfl) ?_ hf
  intro p e s m args below meth c A C hret hname
  unfold f_X4_personIn
  refine VJ.iload_n C 0 dX4_personIn_0 rfl ?_
  refine VJ.sipush (v := 1000) C dX4_personIn_1 (by decide) ?_
  refine VJ.idiv C dX4_personIn_4 (by decide) ?_
  exact VJ.iret C hret rfl rfl dX4_personIn_5

def f_X4_dwellingIn (x0 : Int32) : Option Int32 :=
  if (x0 - x0 / 10 * 10) = 2 then (some (-1)) else (some ((x0 - x0 / 1000 * 1000) / 10))
abbrev rmX4_dwellingIn : Room := { frames := 0, cells := 0, slots := 0, locals := 0 }
theorem hy_X4_dwellingIn : yX4_dwellingIn.cls ≠ "java/lang/invoke/MethodHandle" ∧ yX4_dwellingIn.cls ≠ "java/lang/invoke/VarHandle" ∧ (parseMethodDescriptor yX4_dwellingIn.desc).map (fun d => d.parameters.length) = some 1 := by decide +kernel
theorem hyV_X4_dwellingIn : yX4_dwellingIn.cls = RX4 ∧ yX4_dwellingIn.cls ≠ "java/lang/invoke/MethodHandle" ∧ yX4_dwellingIn.cls ≠ "java/lang/invoke/VarHandle" ∧ (parseMethodDescriptor yX4_dwellingIn.desc).map (fun d => d.parameters.length) = some 1 := ⟨rfl, hy_X4_dwellingIn⟩
set_option maxHeartbeats 8000000 in
set_option maxRecDepth 100000 in
theorem c_X4_dwellingIn (l : Launch) (G : va_G) (cI cZ cQ cU cJ : ClassId) (x0 : Int32) (out : Int32) (hf : f_X4_dwellingIn x0 = some out) : Con l yX4_dwellingIn wsX4_dwellingIn rmX4_dwellingIn G vwCl (tys cI cZ cQ cU cJ) nws [.int x0] (pf []) (some (.int out)) (pf []) := by
  refine con_of (rv := fun out : Int32 => some (.int out)) (Wd := fun out : Int32 => pf []) (maxL := 1) (own := RX4) rfl (plainFor_of_name (by decide +kernel)) rfl (Nat.le_of_ble_eq_true rfl) ?_ hf
  intro p e s m args below meth c A C hret hname
  unfold f_X4_dwellingIn
  refine VJ.iload_n C 0 dX4_dwellingIn_0 rfl ?_
  refine VJ.bipush (v := 10) C dX4_dwellingIn_1 (by decide) ?_
  refine VJ.irem C dX4_dwellingIn_3 (by decide) ?_
  refine VJ.iconst (v := 2) C dX4_dwellingIn_4 (by decide) ?_
  refine VJ.icmp_ne C 12 dX4_dwellingIn_5 (by decide) (fun _ => ?_) (fun _ => ?_)
  · refine VJ.iload_n C 0 dX4_dwellingIn_12 rfl ?_
    refine VJ.sipush (v := 1000) C dX4_dwellingIn_13 (by decide) ?_
    refine VJ.irem C dX4_dwellingIn_16 (by decide) ?_
    refine VJ.bipush (v := 10) C dX4_dwellingIn_17 (by decide) ?_
    refine VJ.idiv C dX4_dwellingIn_19 (by decide) ?_
    exact VJ.iret C hret rfl rfl dX4_dwellingIn_20
  · refine VJ.iconst (v := (-1)) C dX4_dwellingIn_8 (by decide) ?_
    refine VJ.goto C 20 dX4_dwellingIn_9 (by decide) ?_
    exact VJ.iret C hret rfl rfl dX4_dwellingIn_20

set_option maxHeartbeats 4000000 in
set_option maxRecDepth 100000 in
def f_X4_findAnew_l4b (N : Nat) (n : Nat) (I : OI) (R : RI) (k4 : Int32 → Int32 → Int32 → Option Int32) (x1 : Int32) (x2 : Int32) (x3 : Int32) : Option Int32 :=
  if (I 2) ≤ x3 then (some x2) else (ogn n (ol (atv n (R 1) x3) (fun v1 => ob1 (f_X4_personIn v1) (fun r2 => if r2 = x1 then (ob1 (f_X4_dwellingIn v1) (fun r4 => ol (x3 + Int32.ofInt 1) (fun v5 => k4 x1 r4 v5))) else (ol (x3 + Int32.ofInt 1) (fun v3 => k4 x1 x2 v3))))))
set_option maxHeartbeats 4000000 in
set_option maxRecDepth 100000 in
def f_X4_findAnew_l4 (N : Nat) (n : Nat) (I : OI) (R : RI) : Nat → Int32 → Int32 → Int32 → Option Int32
  | 0 => fun _ _ _ => none
  | n9 + 1 => f_X4_findAnew_l4b N n I R (f_X4_findAnew_l4 N n I R n9)
def f_X4_findAnew (N : Nat) (n : Nat) (I : OI) (R : RI) (x1 : Int32) : Option Int32 :=
  f_X4_findAnew_l4 N n I R N x1 (-1) 0
abbrev rmX4_findAnew : Room := { frames := 1, cells := 0, slots := 0, locals := 21 }
theorem in_X4_findAnew_X4 : ∀ w ∈ u_ws RX4 TX4 5, w ∈ wsX4_findAnew := in_of 13 rfl
theorem hy_X4_findAnew : yX4_findAnew.cls ≠ "java/lang/invoke/MethodHandle" ∧ yX4_findAnew.cls ≠ "java/lang/invoke/VarHandle" ∧ (parseMethodDescriptor yX4_findAnew.desc).map (fun d => d.parameters.length) = some 1 := by decide +kernel
theorem hyV_X4_findAnew : yX4_findAnew.cls = RX4 ∧ yX4_findAnew.cls ≠ "java/lang/invoke/MethodHandle" ∧ yX4_findAnew.cls ≠ "java/lang/invoke/VarHandle" ∧ (parseMethodDescriptor yX4_findAnew.desc).map (fun d => d.parameters.length) = some 1 := ⟨rfl, hy_X4_findAnew⟩
set_option maxHeartbeats 8000000 in
set_option maxRecDepth 100000 in
theorem c_X4_findAnew (l : Launch) (G : va_G) (cI cZ cQ cU cJ : ClassId) (N : Nat) (o : Nat) (ad : Nat → Nat) (n : Nat) (I : OI) (R : RI) (x1 : Int32) (out : Int32) (hf : f_X4_findAnew N n I R x1 = some out) : Con l yX4_findAnew wsX4_findAnew rmX4_findAnew G vwCl (tys cI cZ cQ cU cJ) nws [.ref o, .int x1] (pf [rW cI cZ o ad n I R]) (some (.int out)) (pf [rW cI cZ o ad n I R]) := by
  refine con_of (rv := fun out : Int32 => some (.int out)) (Wd := fun out : Int32 => pf [rW cI cZ o ad n I R]) (maxL := 5) (own := RX4) rfl (plainFor_of_name (by decide +kernel)) rfl (Nat.le_of_ble_eq_true rfl) ?_ hf
  intro p e s m args below meth c A C hret hname
  have j4 : ∀ (n9 : Nat) (x1 : Int32) (x2 : Int32) (x3 : Int32), VJ p l e rmX4_findAnew s m args below meth c 5 G vwCl A (QR below G vwCl A args s rmX4_findAnew.cells rmX4_findAnew.slots (fun out : Int32 => some (.int out)) (fun out : Int32 => pf [rW cI cZ o ad n I R])) 0 0 (f_X4_findAnew_l4 N n I R  n9 x1 x2 x3) (pf [rW cI cZ o ad n I R]) 4 [(0, .ref o), (1, .int x1), (2, .int x2), (3, .int x3)] [] := by
    intro  n9
    induction n9 with
    | zero => intro x1 x2 x3; exact VJ.fnone rfl
    | succ n9 i4 =>
      intro x1 x2 x3
      refine VJ.eqf (f' := f_X4_findAnew_l4b N n I R  (f_X4_findAnew_l4 N n I R  n9) x1 x2 x3) rfl ?_
      generalize f_X4_findAnew_l4 N n I R  n9 = k4 at i4 ⊢
      unfold f_X4_findAnew_l4b
      refine VJ.iload_n C 3 dX4_findAnew_4 rfl ?_
      refine VJ.aload_n C 0 dX4_findAnew_5 rfl ?_
      refine VJ.get (C0 := RX4) (T := TX4) (N := 5) (ci := 4) C in_X4_findAnew_X4 0 rfl rfl 4 (Nat.le_of_ble_eq_true rfl) (C.1.2.2.2.2 _ (List.mem_of_getElem? (i := 1) rfl)) (fun _ h9 => h9) (v := .int (I 2)) rfl dX4_findAnew_6 ?_
      refine VJ.icmp_ge C 43 dX4_findAnew_9 (by decide) (fun _ => ?_) (fun _ => ?_)
      · refine VJ.iload_n C 2 dX4_findAnew_43 rfl ?_
        exact VJ.iret C hret rfl rfl dX4_findAnew_44
      · refine VJ.aload_n C 0 dX4_findAnew_12 rfl ?_
        refine VJ.get (C0 := RX4) (T := TX4) (N := 5) (ci := 4) C in_X4_findAnew_X4 0 rfl rfl 3 (Nat.le_of_ble_eq_true rfl) (C.1.2.2.2.2 _ (List.mem_of_getElem? (i := 2) rfl)) (fun _ h9 => h9) (v := .ref (ad 1)) rfl dX4_findAnew_13 ?_
        refine VJ.iload_n C 3 dX4_findAnew_16 rfl ?_
        refine VJ.rogn (fun hn9 => ?_)
        refine VJ.atSN (q0 := 2) C rfl (c_X5_att l G cI cZ cQ cU cJ (ad 1) n hn9 (R 1) x3) (⟨va_cnB 2 C.1.2.2.2.2 gX4_findAnew_X5_at_n58 rfl rfl rfl (C.nestM (List.mem_of_getElem? (i := 65) rfl)) (C.1.2.2.2.2 _ (List.mem_of_getElem? (i := 4) rfl)) hy_X5_at ⟨Nat.le_of_ble_eq_true rfl, Nat.le_of_ble_eq_true rfl⟩, (C.1.2.2.2.2 _ (List.mem_of_getElem? (i := 3) rfl)), trivial⟩) rfl (Nat.le_of_ble_eq_true rfl) dX4_findAnew_17 ⟨Nat.le_of_ble_eq_true rfl, Nat.le_of_ble_eq_true rfl⟩ ⟨rfl, rfl⟩ ?_
        refine VJ.topi C (fun v1 => ?_)
        refine VJ.istore C [(4, .int v1), (0, .ref o), (1, .int x1), (2, .int x2), (3, .int x3)] dX4_findAnew_20 (Nat.le_of_ble_eq_true rfl) rfl ?_
        refine VJ.iload C 0 dX4_findAnew_22 rfl ?_
        refine VJ.callS1 C [.int v1] (pf []) (pf [rW cI cZ o ad n I R]) (fun r2 => some (.int r2)) (fun r2 => pf []) (fun r2 => pf [rW cI cZ o ad n I R]) (fun r2 => [.int r2]) 0 0 (fun _ h9 => c_X4_personIn l G cI cZ cQ cU cJ v1 _ h9) (vj_pn _) (fun _ => vj_pn' _) (va_cwS 1 C.1.2.2.2.2 gX4_findAnew_X4_personIn rfl rfl rfl hy_X4_personIn ⟨Nat.le_of_ble_eq_true rfl, Nat.le_of_ble_eq_true rfl⟩) rfl rfl (fun _ => rfl) (Nat.le_of_ble_eq_true rfl) dX4_findAnew_24 ⟨Nat.le_of_ble_eq_true rfl, Nat.le_of_ble_eq_true rfl⟩ ⟨rfl, rfl⟩ (fun r2 => ?_)
        refine VJ.iload_n C 2 dX4_findAnew_27 rfl ?_
        refine VJ.icmp_ne C 37 dX4_findAnew_28 (by decide) (fun _ => ?_) (fun _ => ?_)
        · refine VJ.iincN C 4 (fun v3 => [(3, .int v3), (4, .int v1), (0, .ref o), (1, .int x1), (2, .int x2)]) dX4_findAnew_37 rfl (Nat.le_of_ble_eq_true rfl) (fun _ => rfl) (fun v3 => ?_)
          refine VJ.goto C 4 dX4_findAnew_40 (by decide) ?_
          refine VJ.sub [2, 3, 4, 0] rfl ?_
          exact i4 x1 x2 v3
        · refine VJ.iload C 0 dX4_findAnew_31 rfl ?_
          refine VJ.callS1 C [.int v1] (pf []) (pf [rW cI cZ o ad n I R]) (fun r4 => some (.int r4)) (fun r4 => pf []) (fun r4 => pf [rW cI cZ o ad n I R]) (fun r4 => [.int r4]) 0 0 (fun _ h9 => c_X4_dwellingIn l G cI cZ cQ cU cJ v1 _ h9) (vj_pn _) (fun _ => vj_pn' _) (va_cwS 1 C.1.2.2.2.2 gX4_findAnew_X4_dwellingIn rfl rfl rfl hy_X4_dwellingIn ⟨Nat.le_of_ble_eq_true rfl, Nat.le_of_ble_eq_true rfl⟩) rfl rfl (fun _ => rfl) (Nat.le_of_ble_eq_true rfl) dX4_findAnew_33 ⟨Nat.le_of_ble_eq_true rfl, Nat.le_of_ble_eq_true rfl⟩ ⟨rfl, rfl⟩ (fun r4 => ?_)
          refine VJ.istore_n C [(2, .int r4), (4, .int v1), (0, .ref o), (1, .int x1), (3, .int x3)] dX4_findAnew_36 (Nat.le_of_ble_eq_true rfl) rfl ?_
          refine VJ.iincN C 4 (fun v5 => [(3, .int v5), (2, .int r4), (4, .int v1), (0, .ref o), (1, .int x1)]) dX4_findAnew_37 rfl (Nat.le_of_ble_eq_true rfl) (fun _ => rfl) (fun v5 => ?_)
          refine VJ.goto C 4 dX4_findAnew_40 (by decide) ?_
          refine VJ.sub [3, 4, 1, 0] rfl ?_
          exact i4 x1 r4 v5
  unfold f_X4_findAnew
  refine VJ.iconst (v := (-1)) C dX4_findAnew_0 (by decide) ?_
  refine VJ.istore_n C [(2, .int (-1)), (0, .ref o), (1, .int x1)] dX4_findAnew_1 (Nat.le_of_ble_eq_true rfl) rfl ?_
  refine VJ.iconst (v := 0) C dX4_findAnew_2 (by decide) ?_
  refine VJ.istore_n C [(3, .int 0), (2, .int (-1)), (0, .ref o), (1, .int x1)] dX4_findAnew_3 (Nat.le_of_ble_eq_true rfl) rfl ?_
  refine VJ.sub [2, 3, 1, 0] rfl ?_
  exact j4 N x1 (-1) 0

