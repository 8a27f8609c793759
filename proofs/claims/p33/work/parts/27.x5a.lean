
theorem dp_1_3_0_2 : ([1, 3, 0, 2] : List Nat).Perm (List.range 4) := by decide +kernel
theorem dp_2_1_3_0 : ([2, 1, 3, 0] : List Nat).Perm (List.range 4) := by decide +kernel
theorem dp_2_3_0_1 : ([2, 3, 0, 1] : List Nat).Perm (List.range 4) := by decide +kernel

set_option maxHeartbeats 4000000 in
set_option maxRecDepth 100000 in
def f_X5_tell_j34 (N : Nat) (AL : List Nat) (I : OI) (R : RI) (ta : Int32) (ea : Option Nat) (wa : OO) (Ik : OI) (Rk : RI) (cmk : Option Nat) (AI : Nat → OI) (AR : Nat → OO) (x1 : Nat) : Option (Int32 × Int32 × Option Nat × OO × OI × RI × Option Nat × (Nat → OI) × (Nat → OO)) :=
  ob3 (f_X2_begin N AL ta ea wa AI AR Ik Rk cmk (I 0)) (fun Ik7 Rk8 cmk9 => ob3 (f_X2_goOn N AL AI AR Ik7 Rk8 cmk9 (I 0)) (fun Ik10 Rk11 cmk12 => om x1 AL (some (AI x1 7, ta, ea, wa, Ik10, Rk11, cmk12, AI, AR))))
def f_X5_tell (N : Nat) (AL : List Nat) (I : OI) (R : RI) (ta : Int32) (ea : Option Nat) (wa : OO) (Ik : OI) (Rk : RI) (cmk : Option Nat) (AI : Nat → OI) (AR : Nat → OO) (x1 : Nat) : Option (Int32 × Int32 × Option Nat × OO × OI × RI × Option Nat × (Nat → OI) × (Nat → OO)) :=
  ob5 (f_X1_add N AL ta ea wa AI AR x1) (fun ta1 ea2 wa3 AI4 AR5 => om x1 AL (if (AI4 x1 2) = (-1) then (f_X5_tell_j34 N AL I R ta1 ea2 wa3 Ik Rk cmk AI4 AR5 x1) else (om x1 AL (oc (AR5 x1 1) (ob1 (f_X2_happen AL Ik cmk AI4 AR5 Rk x1) (fun Rk16 => om x1 AL (some (AI4 x1 7, ta1, ea2, wa3, Ik, Rk16, cmk, AI4, AR5)))) (fun a15 => f_X5_tell_j34 N AL I R ta1 ea2 wa3 Ik Rk cmk AI4 AR5 x1)))))
abbrev rmX5_tell : Room := { frames := 5, cells := 0, slots := 0, locals := 110 }
theorem in_X5_tell_X0 : ∀ w ∈ u_ws RX0 TX0 10, w ∈ wsX5_tell := in_of 105 rfl
theorem in_X5_tell_X5 : ∀ w ∈ u_ws RX5 TX5 11, w ∈ wsX5_tell := in_of 94 rfl
theorem hy_X5_tell : yX5_tell.cls ≠ "java/lang/invoke/MethodHandle" ∧ yX5_tell.cls ≠ "java/lang/invoke/VarHandle" ∧ (parseMethodDescriptor yX5_tell.desc).map (fun d => d.parameters.length) = some 1 := by decide +kernel
theorem hyV_X5_tell : yX5_tell.cls = RX5 ∧ yX5_tell.cls ≠ "java/lang/invoke/MethodHandle" ∧ yX5_tell.cls ≠ "java/lang/invoke/VarHandle" ∧ (parseMethodDescriptor yX5_tell.desc).map (fun d => d.parameters.length) = some 1 := ⟨rfl, hy_X5_tell⟩
set_option maxHeartbeats 8000000 in
set_option maxRecDepth 100000 in
theorem c_X5_tell (l : Launch) (G : va_G) (cI cZ cQ cU cJ : ClassId) (N : Nat) (o : Nat) (ad : Nat → Nat) (rf : Nat → Nat) (I : OI) (R : RI) (ra : Nat) (ta : Int32) (ea : Option Nat) (wa : OO) (adk : Nat → Nat) (Ik : OI) (Rk : RI) (cmk : Option Nat) (AL : List Nat) (AI : Nat → OI) (AR : Nat → OO) (x1 : Nat) (out : Int32 × Int32 × Option Nat × OO × OI × RI × Option Nat × (Nat → OI) × (Nat → OO)) (hf : f_X5_tell N AL I R ta ea wa Ik Rk cmk AI AR x1 = some out) : Con l yX5_tell wsX5_tell rmX5_tell G vwCl (tys cI cZ cQ cU cJ) nws [.ref o, .ref x1] (pf [xW cI cZ o ad I R rf, aW cQ (rf 0) ra ta ea wa, lW cI cZ (rf 1) adk Ik Rk cmk, pW AL AI AR]) (some (.int out.1)) (pf [xW cI cZ o ad I R rf, aW cQ (rf 0) ra out.2.1 out.2.2.1 out.2.2.2.1, lW cI cZ (rf 1) adk out.2.2.2.2.1 out.2.2.2.2.2.1 out.2.2.2.2.2.2.1, pW AL out.2.2.2.2.2.2.2.1 out.2.2.2.2.2.2.2.2]) := by
  refine con_of (rv := fun out : Int32 × Int32 × Option Nat × OO × OI × RI × Option Nat × (Nat → OI) × (Nat → OO) => some (.int out.1)) (Wd := fun out : Int32 × Int32 × Option Nat × OO × OI × RI × Option Nat × (Nat → OI) × (Nat → OO) => pf [xW cI cZ o ad I R rf, aW cQ (rf 0) ra out.2.1 out.2.2.1 out.2.2.2.1, lW cI cZ (rf 1) adk out.2.2.2.2.1 out.2.2.2.2.2.1 out.2.2.2.2.2.2.1, pW AL out.2.2.2.2.2.2.2.1 out.2.2.2.2.2.2.2.2]) (maxL := 2) (own := RX5) rfl (plainFor_of_name (by decide +kernel)) rfl (Nat.le_of_ble_eq_true rfl) ?_ hf
  intro p e s m args below meth c A C hret hname
  have j34 : ∀ (ta : Int32) (ea : Option Nat) (wa : OO) (Ik : OI) (Rk : RI) (cmk : Option Nat) (AI : Nat → OI) (AR : Nat → OO) (x1 : Nat), VJ p l e rmX5_tell s m args below meth c 2 G vwCl A (QR below G vwCl A args s rmX5_tell.cells rmX5_tell.slots (fun out : Int32 × Int32 × Option Nat × OO × OI × RI × Option Nat × (Nat → OI) × (Nat → OO) => some (.int out.1)) (fun out : Int32 × Int32 × Option Nat × OO × OI × RI × Option Nat × (Nat → OI) × (Nat → OO) => pf [xW cI cZ o ad I R rf, aW cQ (rf 0) ra out.2.1 out.2.2.1 out.2.2.2.1, lW cI cZ (rf 1) adk out.2.2.2.2.1 out.2.2.2.2.2.1 out.2.2.2.2.2.2.1, pW AL out.2.2.2.2.2.2.2.1 out.2.2.2.2.2.2.2.2])) 0 0 (f_X5_tell_j34 N AL I R  ta ea wa Ik Rk cmk AI AR x1) (pf [xW cI cZ o ad I R rf, aW cQ (rf 0) ra ta ea wa, lW cI cZ (rf 1) adk Ik Rk cmk, pW AL AI AR]) 34 [(0, .ref o), (1, .ref x1)] [] := by
    intro  ta ea wa Ik Rk cmk AI AR x1
    unfold f_X5_tell_j34
    refine VJ.aload_n C 0 dX5_tell_34 rfl ?_
    refine VJ.get (C0 := RX5) (T := TX5) (N := 11) (ci := 5) C in_X5_tell_X5 0 rfl rfl 1 (Nat.le_of_ble_eq_true rfl) (C.1.2.2.2.2 _ (List.mem_of_getElem? (i := 2) rfl)) (fun _ h9 => h9) (v := .ref (rf 1)) rfl dX5_tell_35 ?_
    refine VJ.aload_n C 0 dX5_tell_38 rfl ?_
    refine VJ.get (C0 := RX5) (T := TX5) (N := 11) (ci := 5) C in_X5_tell_X5 0 rfl rfl 0 (Nat.le_of_ble_eq_true rfl) (C.1.2.2.2.2 _ (List.mem_of_getElem? (i := 1) rfl)) (fun _ h9 => h9) (v := .ref (rf 0)) rfl dX5_tell_39 ?_
    refine VJ.aload_n C 0 dX5_tell_42 rfl ?_
    refine VJ.get (C0 := RX5) (T := TX5) (N := 11) (ci := 5) C in_X5_tell_X5 0 rfl rfl 8 (Nat.le_of_ble_eq_true rfl) (C.1.2.2.2.2 _ (List.mem_of_getElem? (i := 3) rfl)) (fun _ h9 => h9) (v := .int (I 0)) rfl dX5_tell_43 ?_
    refine VJ.callVN3 C [.ref (rf 0), .int (I 0)] (pf [lW cI cZ (rf 1) adk Ik Rk cmk, aW cQ (rf 0) ra ta ea wa, pW AL AI AR]) (pf [xW cI cZ o ad I R rf]) (fun Ik7 Rk8 cmk9 => none) (fun Ik7 Rk8 cmk9 => pf [lW cI cZ (rf 1) adk Ik7 Rk8 cmk9, aW cQ (rf 0) ra ta ea wa, pW AL AI AR]) (fun Ik7 Rk8 cmk9 => pf [xW cI cZ o ad I R rf, aW cQ (rf 0) ra ta ea wa, lW cI cZ (rf 1) adk Ik7 Rk8 cmk9, pW AL AI AR]) (fun Ik7 Rk8 cmk9 => []) 0 0 (fun _ h9 => c_X2_begin l G cI cZ cQ cU cJ N (rf 1) adk Ik Rk cmk (rf 0) ra ta ea wa AL AI AR (I 0) _ h9) (vj_pf 4 [2, 1, 3, 0] rfl rfl dp_2_1_3_0) (fun _ _ _ => (vj_pf 4 [2, 1, 3, 0] rfl rfl dp_2_1_3_0).symm) 0 rfl rfl (⟨va_cnB 2 C.1.2.2.2.2 gX5_tell_X2_begin_n161 rfl rfl rfl (C.nestM (List.mem_of_getElem? (i := 43) rfl)) (C.1.2.2.2.2 _ (List.mem_of_getElem? (i := 16) rfl)) hy_X2_begin ⟨Nat.le_of_ble_eq_true rfl, Nat.le_of_ble_eq_true rfl⟩, (C.1.2.2.2.2 _ (List.mem_of_getElem? (i := 63) rfl)), (C.1.2.2.2.2 _ (List.mem_of_getElem? (i := 64) rfl))⟩) rfl rfl (fun _ _ _ => rfl) (Nat.le_of_ble_eq_true rfl) dX5_tell_46 ⟨Nat.le_of_ble_eq_true rfl, Nat.le_of_ble_eq_true rfl⟩ ⟨rfl, rfl⟩ (fun Ik7 Rk8 cmk9 => ?_)
    refine VJ.aload_n C 0 dX5_tell_49 rfl ?_
    refine VJ.get (C0 := RX5) (T := TX5) (N := 11) (ci := 5) C in_X5_tell_X5 0 rfl rfl 1 (Nat.le_of_ble_eq_true rfl) (C.1.2.2.2.2 _ (List.mem_of_getElem? (i := 2) rfl)) (fun _ h9 => h9) (v := .ref (rf 1)) rfl dX5_tell_50 ?_
    refine VJ.aload_n C 0 dX5_tell_53 rfl ?_
    refine VJ.get (C0 := RX5) (T := TX5) (N := 11) (ci := 5) C in_X5_tell_X5 0 rfl rfl 8 (Nat.le_of_ble_eq_true rfl) (C.1.2.2.2.2 _ (List.mem_of_getElem? (i := 3) rfl)) (fun _ h9 => h9) (v := .int (I 0)) rfl dX5_tell_54 ?_
    refine VJ.callVN3 C [.int (I 0)] (pf [lW cI cZ (rf 1) adk Ik7 Rk8 cmk9, pW AL AI AR]) (pf [xW cI cZ o ad I R rf, aW cQ (rf 0) ra ta ea wa]) (fun Ik10 Rk11 cmk12 => none) (fun Ik10 Rk11 cmk12 => pf [lW cI cZ (rf 1) adk Ik10 Rk11 cmk12, pW AL AI AR]) (fun Ik10 Rk11 cmk12 => pf [xW cI cZ o ad I R rf, aW cQ (rf 0) ra ta ea wa, lW cI cZ (rf 1) adk Ik10 Rk11 cmk12, pW AL AI AR]) (fun Ik10 Rk11 cmk12 => []) 0 0 (fun _ h9 => c_X2_goOn l G cI cZ cQ cU cJ N (rf 1) adk Ik7 Rk8 cmk9 AL AI AR (I 0) _ h9) (vj_pf 4 [2, 3, 0, 1] rfl rfl dp_2_3_0_1) (fun _ _ _ => (vj_pf 4 [2, 3, 0, 1] rfl rfl dp_2_3_0_1).symm) 0 rfl rfl (⟨va_cnB 1 C.1.2.2.2.2 gX5_tell_X2_goOn_n69 rfl rfl rfl (C.nestM (List.mem_of_getElem? (i := 37) rfl)) (C.1.2.2.2.2 _ (List.mem_of_getElem? (i := 16) rfl)) hy_X2_goOn ⟨Nat.le_of_ble_eq_true rfl, Nat.le_of_ble_eq_true rfl⟩, (C.1.2.2.2.2 _ (List.mem_of_getElem? (i := 90) rfl)), (C.1.2.2.2.2 _ (List.mem_of_getElem? (i := 91) rfl))⟩) rfl rfl (fun _ _ _ => rfl) (Nat.le_of_ble_eq_true rfl) dX5_tell_57 ⟨Nat.le_of_ble_eq_true rfl, Nat.le_of_ble_eq_true rfl⟩ ⟨rfl, rfl⟩ (fun Ik10 Rk11 cmk12 => ?_)
    refine VJ.aload_n C 1 dX5_tell_60 rfl ?_
    refine VJ.rom (fun h9 => ?_)
    obtain ⟨p13, ep13⟩ := pool_at (ps := [xW cI cZ o ad I R rf, aW cQ (rf 0) ra ta ea wa, lW cI cZ (rf 1) adk Ik10 Rk11 cmk12, pW AL AI AR]) (List.mem_of_getElem? (i := 3) rfl) h9
    refine VJ.getN (C0 := RX0) (T := TX0) (N := 10) (ci := 0) C in_X5_tell_X0 p13 ep13 rfl 7 (Nat.le_of_ble_eq_true rfl) (C.nest (List.mem_of_getElem? (i := 18) rfl) rfl) (fun _ h9 => h9) rfl dX5_tell_61 ?_
    exact VJ.iret C hret rfl rfl dX5_tell_64
  unfold f_X5_tell
  refine VJ.aload_n C 0 dX5_tell_0 rfl ?_
  refine VJ.get (C0 := RX5) (T := TX5) (N := 11) (ci := 5) C in_X5_tell_X5 0 rfl rfl 0 (Nat.le_of_ble_eq_true rfl) (C.1.2.2.2.2 _ (List.mem_of_getElem? (i := 1) rfl)) (fun _ h9 => h9) (v := .ref (rf 0)) rfl dX5_tell_1 ?_
  refine VJ.aload_n C 1 dX5_tell_4 rfl ?_
  refine VJ.callVN5 C [.ref x1] (pf [aW cQ (rf 0) ra ta ea wa, pW AL AI AR]) (pf [xW cI cZ o ad I R rf, lW cI cZ (rf 1) adk Ik Rk cmk]) (fun ta1 ea2 wa3 AI4 AR5 => none) (fun ta1 ea2 wa3 AI4 AR5 => pf [aW cQ (rf 0) ra ta1 ea2 wa3, pW AL AI4 AR5]) (fun ta1 ea2 wa3 AI4 AR5 => pf [xW cI cZ o ad I R rf, aW cQ (rf 0) ra ta1 ea2 wa3, lW cI cZ (rf 1) adk Ik Rk cmk, pW AL AI4 AR5]) (fun ta1 ea2 wa3 AI4 AR5 => []) 0 0 (fun _ h9 => c_X1_add l G cI cZ cQ cU cJ N (rf 0) ra ta ea wa AL AI AR x1 _ h9) (vj_pf 4 [1, 3, 0, 2] rfl rfl dp_1_3_0_2) (fun _ _ _ _ _ => (vj_pf 4 [1, 3, 0, 2] rfl rfl dp_1_3_0_2).symm) 0 rfl rfl (⟨va_cnB 1 C.1.2.2.2.2 gX5_tell_X1_add_n269 rfl rfl rfl (C.nestM (List.mem_of_getElem? (i := 41) rfl)) (C.1.2.2.2.2 _ (List.mem_of_getElem? (i := 5) rfl)) hy_X1_add ⟨Nat.le_of_ble_eq_true rfl, Nat.le_of_ble_eq_true rfl⟩, (C.1.2.2.2.2 _ (List.mem_of_getElem? (i := 4) rfl)), (C.1.2.2.2.2 _ (List.mem_of_getElem? (i := 6) rfl))⟩) rfl rfl (fun _ _ _ _ _ => rfl) (Nat.le_of_ble_eq_true rfl) dX5_tell_5 ⟨Nat.le_of_ble_eq_true rfl, Nat.le_of_ble_eq_true rfl⟩ ⟨rfl, rfl⟩ (fun ta1 ea2 wa3 AI4 AR5 => ?_)
  refine VJ.aload_n C 1 dX5_tell_8 rfl ?_
  refine VJ.rom (fun h9 => ?_)
  obtain ⟨p6, ep6⟩ := pool_at (ps := [xW cI cZ o ad I R rf, aW cQ (rf 0) ra ta1 ea2 wa3, lW cI cZ (rf 1) adk Ik Rk cmk, pW AL AI4 AR5]) (List.mem_of_getElem? (i := 3) rfl) h9
  refine VJ.getN (C0 := RX0) (T := TX0) (N := 10) (ci := 0) C in_X5_tell_X0 p6 ep6 rfl 2 (Nat.le_of_ble_eq_true rfl) (C.nest (List.mem_of_getElem? (i := 9) rfl) rfl) (fun _ h9 => h9) rfl dX5_tell_9 ?_
  refine VJ.iconst (v := (-1)) C dX5_tell_12 (by decide) ?_
  refine VJ.icmp_eq C 34 dX5_tell_13 (by decide) (fun _ => ?_) (fun _ => ?_)
  · exact j34 ta1 ea2 wa3 Ik Rk cmk AI4 AR5 x1
  · refine VJ.aload_n C 1 dX5_tell_16 rfl ?_
    refine VJ.rom (fun h9 => ?_)
    obtain ⟨p14, ep14⟩ := pool_at (ps := [xW cI cZ o ad I R rf, aW cQ (rf 0) ra ta1 ea2 wa3, lW cI cZ (rf 1) adk Ik Rk cmk, pW AL AI4 AR5]) (List.mem_of_getElem? (i := 3) rfl) h9
    refine VJ.getN (C0 := RX0) (T := TX0) (N := 10) (ci := 0) C in_X5_tell_X0 p14 ep14 rfl 9 (Nat.le_of_ble_eq_true rfl) (C.nest (List.mem_of_getElem? (i := 22) rfl) rfl) (fun _ h9 => h9) rfl dX5_tell_17 ?_
    refine VJ.ifnonnull C 34 dX5_tell_20 (by decide) (fun _ => ?_) (fun a15 _ => ?_)
    · refine VJ.aload_n C 0 dX5_tell_23 rfl ?_
      refine VJ.get (C0 := RX5) (T := TX5) (N := 11) (ci := 5) C in_X5_tell_X5 0 rfl rfl 1 (Nat.le_of_ble_eq_true rfl) (C.1.2.2.2.2 _ (List.mem_of_getElem? (i := 2) rfl)) (fun _ h9 => h9) (v := .ref (rf 1)) rfl dX5_tell_24 ?_
      refine VJ.aload_n C 1 dX5_tell_27 rfl ?_
      refine VJ.callVN1 C [.ref x1] (pf [lW cI cZ (rf 1) adk Ik Rk cmk, pW AL AI4 AR5]) (pf [xW cI cZ o ad I R rf, aW cQ (rf 0) ra ta1 ea2 wa3]) (fun Rk16 => none) (fun Rk16 => pf [lW cI cZ (rf 1) adk Ik Rk16 cmk, pW AL AI4 AR5]) (fun Rk16 => pf [xW cI cZ o ad I R rf, aW cQ (rf 0) ra ta1 ea2 wa3, lW cI cZ (rf 1) adk Ik Rk16 cmk, pW AL AI4 AR5]) (fun Rk16 => []) 0 0 (fun _ h9 => c_X2_happen l G cI cZ cQ cU cJ (rf 1) adk Ik Rk cmk AL AI4 AR5 x1 _ h9) (vj_pf 4 [2, 3, 0, 1] rfl rfl dp_2_3_0_1) (fun _ => (vj_pf 4 [2, 3, 0, 1] rfl rfl dp_2_3_0_1).symm) 0 rfl rfl (⟨va_cnB 1 C.1.2.2.2.2 gX5_tell_X2_happen_n276 rfl rfl rfl (C.nestM (List.mem_of_getElem? (i := 42) rfl)) (C.1.2.2.2.2 _ (List.mem_of_getElem? (i := 16) rfl)) hy_X2_happen ⟨Nat.le_of_ble_eq_true rfl, Nat.le_of_ble_eq_true rfl⟩, (C.1.2.2.2.2 _ (List.mem_of_getElem? (i := 15) rfl)), (C.1.2.2.2.2 _ (List.mem_of_getElem? (i := 17) rfl))⟩) rfl rfl (fun _ => rfl) (Nat.le_of_ble_eq_true rfl) dX5_tell_28 ⟨Nat.le_of_ble_eq_true rfl, Nat.le_of_ble_eq_true rfl⟩ ⟨rfl, rfl⟩ (fun Rk16 => ?_)
      refine VJ.goto C 60 dX5_tell_31 (by decide) ?_
      refine VJ.aload_n C 1 dX5_tell_60 rfl ?_
      refine VJ.rom (fun h9 => ?_)
      obtain ⟨p17, ep17⟩ := pool_at (ps := [xW cI cZ o ad I R rf, aW cQ (rf 0) ra ta1 ea2 wa3, lW cI cZ (rf 1) adk Ik Rk16 cmk, pW AL AI4 AR5]) (List.mem_of_getElem? (i := 3) rfl) h9
      refine VJ.getN (C0 := RX0) (T := TX0) (N := 10) (ci := 0) C in_X5_tell_X0 p17 ep17 rfl 7 (Nat.le_of_ble_eq_true rfl) (C.nest (List.mem_of_getElem? (i := 18) rfl) rfl) (fun _ h9 => h9) rfl dX5_tell_61 ?_
      exact VJ.iret C hret rfl rfl dX5_tell_64
    · exact j34 ta1 ea2 wa3 Ik Rk cmk AI4 AR5 x1

def f_X5_isOfKind (nr : Nat) (I : OI) (R : RI) (Ik : OI) (Rk : RI) (cmk : Option Nat) (Ir : OI) (Rr : RI) (x2 : Int32) : Option Int32 :=
  ob1 (f_X2_isLiving Ik Rk cmk x2) (fun r1 => if r1 = 0 then (some 0) else (ob1 (f_X2_ageOf Ik Rk cmk x2) (fun r2 => if (Ir 0) = 1 then (if r2 < 18 then (some 0) else (some 1)) else (if (Ir 0) = 2 then (if r2 < 6 then (some 0) else (if 15 < r2 then (some 0) else (some 1))) else (if (Ir 0) = 3 then (ob1 (f_X2_dwellingOf Ik Rk cmk x2) (fun r3 => ob1 (f_X5_officeOf r3) (fun r4 => if r4 = (Ir 1) then (some 1) else (some 0)))) else (some 1))))))
abbrev rmX5_isOfKind : Room := { frames := 2, cells := 0, slots := 0, locals := 43 }
theorem in_X5_isOfKind_X4 : ∀ w ∈ u_ws RX4 TX4 5, w ∈ wsX5_isOfKind := in_of 39 rfl
theorem in_X5_isOfKind_X5 : ∀ w ∈ u_ws RX5 TX5 11, w ∈ wsX5_isOfKind := in_of 28 rfl
theorem hy_X5_isOfKind : yX5_isOfKind.cls ≠ "java/lang/invoke/MethodHandle" ∧ yX5_isOfKind.cls ≠ "java/lang/invoke/VarHandle" ∧ (parseMethodDescriptor yX5_isOfKind.desc).map (fun d => d.parameters.length) = some 2 := by decide +kernel
theorem hyV_X5_isOfKind : yX5_isOfKind.cls = RX5 ∧ yX5_isOfKind.cls ≠ "java/lang/invoke/MethodHandle" ∧ yX5_isOfKind.cls ≠ "java/lang/invoke/VarHandle" ∧ (parseMethodDescriptor yX5_isOfKind.desc).map (fun d => d.parameters.length) = some 2 := ⟨rfl, hy_X5_isOfKind⟩
set_option maxHeartbeats 8000000 in
set_option maxRecDepth 100000 in
theorem c_X5_isOfKind (l : Launch) (G : va_G) (cI cZ cQ cU cJ : ClassId) (o : Nat) (ad : Nat → Nat) (rf : Nat → Nat) (I : OI) (R : RI) (adk : Nat → Nat) (Ik : OI) (Rk : RI) (cmk : Option Nat) (or : Nat) (adr : Nat → Nat) (nr : Nat) (Ir : OI) (Rr : RI) (x2 : Int32) (out : Int32) (hf : f_X5_isOfKind nr I R Ik Rk cmk Ir Rr x2 = some out) : Con l yX5_isOfKind wsX5_isOfKind rmX5_isOfKind G vwCl (tys cI cZ cQ cU cJ) nws [.ref o, .ref or, .int x2] (pf [xW cI cZ o ad I R rf, lW cI cZ (rf 1) adk Ik Rk cmk, rW cI cZ or adr nr Ir Rr]) (some (.int out)) (pf [xW cI cZ o ad I R rf, lW cI cZ (rf 1) adk Ik Rk cmk, rW cI cZ or adr nr Ir Rr]) := by
  refine con_of (rv := fun out : Int32 => some (.int out)) (Wd := fun out : Int32 => pf [xW cI cZ o ad I R rf, lW cI cZ (rf 1) adk Ik Rk cmk, rW cI cZ or adr nr Ir Rr]) (maxL := 4) (own := RX5) rfl (plainFor_of_name (by decide +kernel)) rfl (Nat.le_of_ble_eq_true rfl) ?_ hf
  intro p e s m args below meth c A C hret hname
  unfold f_X5_isOfKind
  refine VJ.aload_n C 0 dX5_isOfKind_0 rfl ?_
  refine VJ.get (C0 := RX5) (T := TX5) (N := 11) (ci := 5) C in_X5_isOfKind_X5 0 rfl rfl 1 (Nat.le_of_ble_eq_true rfl) (C.1.2.2.2.2 _ (List.mem_of_getElem? (i := 1) rfl)) (fun _ h9 => h9) (v := .ref (rf 1)) rfl dX5_isOfKind_1 ?_
  refine VJ.iload_n C 2 dX5_isOfKind_4 rfl ?_
  refine VJ.callVN1 C [.int x2] (pf [lW cI cZ (rf 1) adk Ik Rk cmk]) (pf [xW cI cZ o ad I R rf, rW cI cZ or adr nr Ir Rr]) (fun r1 => some (.int r1)) (fun r1 => pf [lW cI cZ (rf 1) adk Ik Rk cmk]) (fun r1 => pf [xW cI cZ o ad I R rf, lW cI cZ (rf 1) adk Ik Rk cmk, rW cI cZ or adr nr Ir Rr]) (fun r1 => [.int r1]) 0 0 (fun _ h9 => c_X2_isLiving l G cI cZ cQ cU cJ (rf 1) adk Ik Rk cmk x2 _ h9) (vj_pf 3 [1, 0, 2] rfl rfl dp_1_0_2) (fun _ => (vj_pf 3 [1, 0, 2] rfl rfl dp_1_0_2).symm) 0 rfl rfl (⟨va_cnB 1 C.1.2.2.2.2 gX5_isOfKind_X2_isLiving_n287 rfl rfl rfl (C.nestM (List.mem_of_getElem? (i := 58) rfl)) (C.1.2.2.2.2 _ (List.mem_of_getElem? (i := 3) rfl)) hy_X2_isLiving ⟨Nat.le_of_ble_eq_true rfl, Nat.le_of_ble_eq_true rfl⟩, (C.1.2.2.2.2 _ (List.mem_of_getElem? (i := 2) rfl)), (C.1.2.2.2.2 _ (List.mem_of_getElem? (i := 4) rfl))⟩) rfl rfl (fun _ => rfl) (Nat.le_of_ble_eq_true rfl) dX5_isOfKind_5 ⟨Nat.le_of_ble_eq_true rfl, Nat.le_of_ble_eq_true rfl⟩ ⟨rfl, rfl⟩ (fun r1 => ?_)
  refine VJ.if_ne C 13 dX5_isOfKind_8 (by decide) (fun _ => ?_) (fun _ => ?_)
  · refine VJ.aload_n C 0 dX5_isOfKind_13 rfl ?_
    refine VJ.get (C0 := RX5) (T := TX5) (N := 11) (ci := 5) C in_X5_isOfKind_X5 0 rfl rfl 1 (Nat.le_of_ble_eq_true rfl) (C.1.2.2.2.2 _ (List.mem_of_getElem? (i := 1) rfl)) (fun _ h9 => h9) (v := .ref (rf 1)) rfl dX5_isOfKind_14 ?_
    refine VJ.iload_n C 2 dX5_isOfKind_17 rfl ?_
    refine VJ.callVN1 C [.int x2] (pf [lW cI cZ (rf 1) adk Ik Rk cmk]) (pf [xW cI cZ o ad I R rf, rW cI cZ or adr nr Ir Rr]) (fun r2 => some (.int r2)) (fun r2 => pf [lW cI cZ (rf 1) adk Ik Rk cmk]) (fun r2 => pf [xW cI cZ o ad I R rf, lW cI cZ (rf 1) adk Ik Rk cmk, rW cI cZ or adr nr Ir Rr]) (fun r2 => [.int r2]) 0 0 (fun _ h9 => c_X2_ageOf l G cI cZ cQ cU cJ (rf 1) adk Ik Rk cmk x2 _ h9) (vj_pf 3 [1, 0, 2] rfl rfl dp_1_0_2) (fun _ => (vj_pf 3 [1, 0, 2] rfl rfl dp_1_0_2).symm) 0 rfl rfl (⟨va_cnB 1 C.1.2.2.2.2 gX5_isOfKind_X2_ageOf_n290 rfl rfl rfl (C.nestM (List.mem_of_getElem? (i := 59) rfl)) (C.1.2.2.2.2 _ (List.mem_of_getElem? (i := 3) rfl)) hy_X2_ageOf ⟨Nat.le_of_ble_eq_true rfl, Nat.le_of_ble_eq_true rfl⟩, (C.1.2.2.2.2 _ (List.mem_of_getElem? (i := 7) rfl)), (C.1.2.2.2.2 _ (List.mem_of_getElem? (i := 8) rfl))⟩) rfl rfl (fun _ => rfl) (Nat.le_of_ble_eq_true rfl) dX5_isOfKind_18 ⟨Nat.le_of_ble_eq_true rfl, Nat.le_of_ble_eq_true rfl⟩ ⟨rfl, rfl⟩ (fun r2 => ?_)
    refine VJ.istore_n C [(3, .int r2), (0, .ref o), (1, .ref or), (2, .int x2)] dX5_isOfKind_21 (Nat.le_of_ble_eq_true rfl) rfl ?_
    refine VJ.aload_n C 2 dX5_isOfKind_22 rfl ?_
    refine VJ.getN (C0 := RX4) (T := TX4) (N := 5) (ci := 4) C in_X5_isOfKind_X4 14 rfl rfl 0 (Nat.le_of_ble_eq_true rfl) (C.nest (List.mem_of_getElem? (i := 23) rfl) rfl) (fun _ h9 => h9) (v := .int (Ir 0)) rfl dX5_isOfKind_23 ?_
    refine VJ.case 1 (fun e9 => ?_) (fun n1 => ?_)
    · refine VJ.tabin C 52 dX5_isOfKind_26 e9 (by decide) (by decide) rfl (by decide) ?_
      refine VJ.iload_n C 0 dX5_isOfKind_52 rfl ?_
      refine VJ.bipush (v := 18) C dX5_isOfKind_53 (by decide) ?_
      refine VJ.icmp_lt C 62 dX5_isOfKind_55 (by decide) (fun _ => ?_) (fun _ => ?_)
      · refine VJ.iconst (v := 0) C dX5_isOfKind_62 (by decide) ?_
        exact VJ.zret C rfl hret rfl rfl dX5_isOfKind_63
      · refine VJ.iconst (v := 1) C dX5_isOfKind_58 (by decide) ?_
        refine VJ.goto C 63 dX5_isOfKind_59 (by decide) ?_
        exact VJ.zret C rfl hret rfl rfl dX5_isOfKind_63
    refine VJ.case 2 (fun e9 => ?_) (fun n2 => ?_)
    · refine VJ.tabin C 64 dX5_isOfKind_26 e9 (by decide) (by decide) rfl (by decide) ?_
      refine VJ.iload_n C 0 dX5_isOfKind_64 rfl ?_
      refine VJ.bipush (v := 6) C dX5_isOfKind_65 (by decide) ?_
      refine VJ.icmp_lt C 80 dX5_isOfKind_67 (by decide) (fun _ => ?_) (fun _ => ?_)
      · refine VJ.iconst (v := 0) C dX5_isOfKind_80 (by decide) ?_
        exact VJ.zret C rfl hret rfl rfl dX5_isOfKind_81
      · refine VJ.iload_n C 0 dX5_isOfKind_70 rfl ?_
        refine VJ.bipush (v := 15) C dX5_isOfKind_71 (by decide) ?_
        refine VJ.icmp_gt C 80 dX5_isOfKind_73 (by decide) (fun _ => ?_) (fun _ => ?_)
        · refine VJ.iconst (v := 0) C dX5_isOfKind_80 (by decide) ?_
          exact VJ.zret C rfl hret rfl rfl dX5_isOfKind_81
        · refine VJ.iconst (v := 1) C dX5_isOfKind_76 (by decide) ?_
          refine VJ.goto C 81 dX5_isOfKind_77 (by decide) ?_
          exact VJ.zret C rfl hret rfl rfl dX5_isOfKind_81
    refine VJ.case 3 (fun e9 => ?_) (fun n3 => ?_)
    · refine VJ.tabin C 82 dX5_isOfKind_26 e9 (by decide) (by decide) rfl (by decide) ?_
      refine VJ.aload_n C 1 dX5_isOfKind_82 rfl ?_
      refine VJ.get (C0 := RX5) (T := TX5) (N := 11) (ci := 5) C in_X5_isOfKind_X5 0 rfl rfl 1 (Nat.le_of_ble_eq_true rfl) (C.1.2.2.2.2 _ (List.mem_of_getElem? (i := 1) rfl)) (fun _ h9 => h9) (v := .ref (rf 1)) rfl dX5_isOfKind_83 ?_
      refine VJ.iload_n C 3 dX5_isOfKind_86 rfl ?_
      refine VJ.callVN1 C [.int x2] (pf [lW cI cZ (rf 1) adk Ik Rk cmk]) (pf [xW cI cZ o ad I R rf, rW cI cZ or adr nr Ir Rr]) (fun r3 => some (.int r3)) (fun r3 => pf [lW cI cZ (rf 1) adk Ik Rk cmk]) (fun r3 => pf [xW cI cZ o ad I R rf, lW cI cZ (rf 1) adk Ik Rk cmk, rW cI cZ or adr nr Ir Rr]) (fun r3 => [.int r3]) 0 0 (fun _ h9 => c_X2_dwellingOf l G cI cZ cQ cU cJ (rf 1) adk Ik Rk cmk x2 _ h9) (vj_pf 3 [1, 0, 2] rfl rfl dp_1_0_2) (fun _ => (vj_pf 3 [1, 0, 2] rfl rfl dp_1_0_2).symm) 0 rfl rfl (⟨va_cnB 1 C.1.2.2.2.2 gX5_isOfKind_X2_dwellingOf_n242 rfl rfl rfl (C.nestM (List.mem_of_getElem? (i := 60) rfl)) (C.1.2.2.2.2 _ (List.mem_of_getElem? (i := 3) rfl)) hy_X2_dwellingOf ⟨Nat.le_of_ble_eq_true rfl, Nat.le_of_ble_eq_true rfl⟩, (C.1.2.2.2.2 _ (List.mem_of_getElem? (i := 20) rfl)), (C.1.2.2.2.2 _ (List.mem_of_getElem? (i := 21) rfl))⟩) rfl rfl (fun _ => rfl) (Nat.le_of_ble_eq_true rfl) dX5_isOfKind_87 ⟨Nat.le_of_ble_eq_true rfl, Nat.le_of_ble_eq_true rfl⟩ ⟨rfl, rfl⟩ (fun r3 => ?_)
      refine VJ.callS1 C [.int r3] (pf []) (pf [xW cI cZ o ad I R rf, lW cI cZ (rf 1) adk Ik Rk cmk, rW cI cZ or adr nr Ir Rr]) (fun r4 => some (.int r4)) (fun r4 => pf []) (fun r4 => pf [xW cI cZ o ad I R rf, lW cI cZ (rf 1) adk Ik Rk cmk, rW cI cZ or adr nr Ir Rr]) (fun r4 => [.int r4]) 0 0 (fun _ h9 => c_X5_officeOf l G cI cZ cQ cU cJ r3 _ h9) (vj_pn _) (fun _ => vj_pn' _) (va_cwS 1 C.1.2.2.2.2 gX5_isOfKind_X5_officeOf rfl rfl rfl hy_X5_officeOf ⟨Nat.le_of_ble_eq_true rfl, Nat.le_of_ble_eq_true rfl⟩) rfl rfl (fun _ => rfl) (Nat.le_of_ble_eq_true rfl) dX5_isOfKind_90 ⟨Nat.le_of_ble_eq_true rfl, Nat.le_of_ble_eq_true rfl⟩ ⟨rfl, rfl⟩ (fun r4 => ?_)
      refine VJ.aload_n C 2 dX5_isOfKind_93 rfl ?_
      refine VJ.getN (C0 := RX4) (T := TX4) (N := 5) (ci := 4) C in_X5_isOfKind_X4 14 rfl rfl 1 (Nat.le_of_ble_eq_true rfl) (C.nest (List.mem_of_getElem? (i := 24) rfl) rfl) (fun _ h9 => h9) (v := .int (Ir 1)) rfl dX5_isOfKind_94 ?_
      refine VJ.icmp_ne C 104 dX5_isOfKind_97 (by decide) (fun _ => ?_) (fun _ => ?_)
      · refine VJ.iconst (v := 0) C dX5_isOfKind_104 (by decide) ?_
        exact VJ.zret C rfl hret rfl rfl dX5_isOfKind_105
      · refine VJ.iconst (v := 1) C dX5_isOfKind_100 (by decide) ?_
        refine VJ.goto C 105 dX5_isOfKind_101 (by decide) ?_
        exact VJ.zret C rfl hret rfl rfl dX5_isOfKind_105
    refine VJ.tabout C 106 dX5_isOfKind_26 (vj_out1_3 n1 n2 n3) (by decide) ?_
    refine VJ.iconst (v := 1) C dX5_isOfKind_106 (by decide) ?_
    exact VJ.zret C rfl hret rfl rfl dX5_isOfKind_107
  · refine VJ.iconst (v := 0) C dX5_isOfKind_11 (by decide) ?_
    exact VJ.zret C rfl hret rfl rfl dX5_isOfKind_12

set_option maxHeartbeats 4000000 in
set_option maxRecDepth 100000 in
def f_X5_dueTo_j30 (nr : Nat) (I : OI) (R : RI) (Ik : OI) (Rk : RI) (cmk : Option Nat) (Ir : OI) (Rr : RI) (x2 : Int32) (x3 : Int32) (y0 : Int32) : Option Int32 :=
  if y0 = x3 then (some (-1)) else (if x3 = (-1) then (ob1 (f_X4_write x2 y0 1) (fun r5 => some r5)) else (if y0 = (-1) then (ob1 (f_X4_write x2 0 2) (fun r4 => some r4)) else (ob1 (f_X4_write x2 y0 3) (fun r3 => some r3))))
def f_X5_dueTo (nr : Nat) (I : OI) (R : RI) (Ik : OI) (Rk : RI) (cmk : Option Nat) (Ir : OI) (Rr : RI) (x2 : Int32) : Option Int32 :=
  ol (atv 24 (Rr 0) x2) (fun v1 => ob1 (f_X5_isOfKind nr I R Ik Rk cmk Ir Rr x2) (fun r2 => if r2 = 0 then (f_X5_dueTo_j30 nr I R Ik Rk cmk Ir Rr x2 v1 (-1)) else (ob1 (f_X2_dwellingOf Ik Rk cmk x2) (fun r6 => f_X5_dueTo_j30 nr I R Ik Rk cmk Ir Rr x2 v1 r6))))
abbrev rmX5_dueTo : Room := { frames := 3, cells := 0, slots := 0, locals := 66 }
theorem in_X5_dueTo_X4 : ∀ w ∈ u_ws RX4 TX4 5, w ∈ wsX5_dueTo := in_of 36 rfl
theorem in_X5_dueTo_X5 : ∀ w ∈ u_ws RX5 TX5 11, w ∈ wsX5_dueTo := in_of 41 rfl
theorem hy_X5_dueTo : yX5_dueTo.cls ≠ "java/lang/invoke/MethodHandle" ∧ yX5_dueTo.cls ≠ "java/lang/invoke/VarHandle" ∧ (parseMethodDescriptor yX5_dueTo.desc).map (fun d => d.parameters.length) = some 2 := by decide +kernel
theorem hyV_X5_dueTo : yX5_dueTo.cls = RX5 ∧ yX5_dueTo.cls ≠ "java/lang/invoke/MethodHandle" ∧ yX5_dueTo.cls ≠ "java/lang/invoke/VarHandle" ∧ (parseMethodDescriptor yX5_dueTo.desc).map (fun d => d.parameters.length) = some 2 := ⟨rfl, hy_X5_dueTo⟩
set_option maxHeartbeats 8000000 in
set_option maxRecDepth 100000 in
theorem c_X5_dueTo (l : Launch) (G : va_G) (cI cZ cQ cU cJ : ClassId) (o : Nat) (ad : Nat → Nat) (rf : Nat → Nat) (I : OI) (R : RI) (adk : Nat → Nat) (Ik : OI) (Rk : RI) (cmk : Option Nat) (or : Nat) (adr : Nat → Nat) (nr : Nat) (Ir : OI) (Rr : RI) (x2 : Int32) (out : Int32) (hf : f_X5_dueTo nr I R Ik Rk cmk Ir Rr x2 = some out) : Con l yX5_dueTo wsX5_dueTo rmX5_dueTo G vwCl (tys cI cZ cQ cU cJ) nws [.ref o, .ref or, .int x2] (pf [xW cI cZ o ad I R rf, lW cI cZ (rf 1) adk Ik Rk cmk, rW cI cZ or adr nr Ir Rr]) (some (.int out)) (pf [xW cI cZ o ad I R rf, lW cI cZ (rf 1) adk Ik Rk cmk, rW cI cZ or adr nr Ir Rr]) := by
  refine con_of (rv := fun out : Int32 => some (.int out)) (Wd := fun out : Int32 => pf [xW cI cZ o ad I R rf, lW cI cZ (rf 1) adk Ik Rk cmk, rW cI cZ or adr nr Ir Rr]) (maxL := 5) (own := RX5) rfl (plainFor_of_name (by decide +kernel)) rfl (Nat.le_of_ble_eq_true rfl) ?_ hf
  intro p e s m args below meth c A C hret hname
  have j30 : ∀ (x2 : Int32) (x3 : Int32) (y0 : Int32), VJ p l e rmX5_dueTo s m args below meth c 5 G vwCl A (QR below G vwCl A args s rmX5_dueTo.cells rmX5_dueTo.slots (fun out : Int32 => some (.int out)) (fun out : Int32 => pf [xW cI cZ o ad I R rf, lW cI cZ (rf 1) adk Ik Rk cmk, rW cI cZ or adr nr Ir Rr])) 0 0 (f_X5_dueTo_j30 nr I R Ik Rk cmk Ir Rr  x2 x3 y0) (pf [xW cI cZ o ad I R rf, lW cI cZ (rf 1) adk Ik Rk cmk, rW cI cZ or adr nr Ir Rr]) 30 [(2, .int x2), (3, .int x3)] [.int y0] := by
    intro  x2 x3 y0
    unfold f_X5_dueTo_j30
    refine VJ.istore C [(4, .int y0), (2, .int x2), (3, .int x3)] dX5_dueTo_30 (Nat.le_of_ble_eq_true rfl) rfl ?_
    refine VJ.iload C 0 dX5_dueTo_32 rfl ?_
    refine VJ.iload_n C 2 dX5_dueTo_34 rfl ?_
    refine VJ.icmp_ne C 40 dX5_dueTo_35 (by decide) (fun _ => ?_) (fun _ => ?_)
    · refine VJ.iload_n C 2 dX5_dueTo_40 rfl ?_
      refine VJ.iconst (v := (-1)) C dX5_dueTo_41 (by decide) ?_
      refine VJ.icmp_ne C 53 dX5_dueTo_42 (by decide) (fun _ => ?_) (fun _ => ?_)
      · refine VJ.iload C 0 dX5_dueTo_53 rfl ?_
        refine VJ.iconst (v := (-1)) C dX5_dueTo_55 (by decide) ?_
        refine VJ.icmp_ne C 68 dX5_dueTo_56 (by decide) (fun _ => ?_) (fun _ => ?_)
        · refine VJ.iload_n C 1 dX5_dueTo_68 rfl ?_
          refine VJ.iload C 0 dX5_dueTo_69 rfl ?_
          refine VJ.iconst (v := 3) C dX5_dueTo_71 (by decide) ?_
          refine VJ.callSN1 C [.int x2, .int y0, .int 3] (pf []) (pf [xW cI cZ o ad I R rf, lW cI cZ (rf 1) adk Ik Rk cmk, rW cI cZ or adr nr Ir Rr]) (fun r3 => some (.int r3)) (fun r3 => pf []) (fun r3 => pf [xW cI cZ o ad I R rf, lW cI cZ (rf 1) adk Ik Rk cmk, rW cI cZ or adr nr Ir Rr]) (fun r3 => [.int r3]) 0 0 (fun _ h9 => c_X4_write l G cI cZ cQ cU cJ x2 y0 3 _ h9) (vj_pn _) (fun _ => vj_pn' _) (⟨va_cnB 3 C.1.2.2.2.2 gX5_dueTo_X4_write_n283 rfl rfl rfl (C.nestM (List.mem_of_getElem? (i := 61) rfl)) (C.1.2.2.2.2 _ (List.mem_of_getElem? (i := 34) rfl)) hy_X4_write ⟨Nat.le_of_ble_eq_true rfl, Nat.le_of_ble_eq_true rfl⟩, (C.1.2.2.2.2 _ (List.mem_of_getElem? (i := 33) rfl)), trivial⟩) rfl rfl (fun _ => rfl) (Nat.le_of_ble_eq_true rfl) dX5_dueTo_72 ⟨Nat.le_of_ble_eq_true rfl, Nat.le_of_ble_eq_true rfl⟩ ⟨rfl, rfl⟩ (fun r3 => ?_)
          exact VJ.iret C hret rfl rfl dX5_dueTo_75
        · refine VJ.iload_n C 1 dX5_dueTo_59 rfl ?_
          refine VJ.iconst (v := 0) C dX5_dueTo_60 (by decide) ?_
          refine VJ.iconst (v := 2) C dX5_dueTo_61 (by decide) ?_
          refine VJ.callSN1 C [.int x2, .int 0, .int 2] (pf []) (pf [xW cI cZ o ad I R rf, lW cI cZ (rf 1) adk Ik Rk cmk, rW cI cZ or adr nr Ir Rr]) (fun r4 => some (.int r4)) (fun r4 => pf []) (fun r4 => pf [xW cI cZ o ad I R rf, lW cI cZ (rf 1) adk Ik Rk cmk, rW cI cZ or adr nr Ir Rr]) (fun r4 => [.int r4]) 0 0 (fun _ h9 => c_X4_write l G cI cZ cQ cU cJ x2 0 2 _ h9) (vj_pn _) (fun _ => vj_pn' _) (⟨va_cnB 3 C.1.2.2.2.2 gX5_dueTo_X4_write_n283 rfl rfl rfl (C.nestM (List.mem_of_getElem? (i := 61) rfl)) (C.1.2.2.2.2 _ (List.mem_of_getElem? (i := 34) rfl)) hy_X4_write ⟨Nat.le_of_ble_eq_true rfl, Nat.le_of_ble_eq_true rfl⟩, (C.1.2.2.2.2 _ (List.mem_of_getElem? (i := 33) rfl)), trivial⟩) rfl rfl (fun _ => rfl) (Nat.le_of_ble_eq_true rfl) dX5_dueTo_62 ⟨Nat.le_of_ble_eq_true rfl, Nat.le_of_ble_eq_true rfl⟩ ⟨rfl, rfl⟩ (fun r4 => ?_)
          refine VJ.goto C 75 dX5_dueTo_65 (by decide) ?_
          exact VJ.iret C hret rfl rfl dX5_dueTo_75
      · refine VJ.iload_n C 1 dX5_dueTo_45 rfl ?_
        refine VJ.iload C 0 dX5_dueTo_46 rfl ?_
        refine VJ.iconst (v := 1) C dX5_dueTo_48 (by decide) ?_
        refine VJ.callSN1 C [.int x2, .int y0, .int 1] (pf []) (pf [xW cI cZ o ad I R rf, lW cI cZ (rf 1) adk Ik Rk cmk, rW cI cZ or adr nr Ir Rr]) (fun r5 => some (.int r5)) (fun r5 => pf []) (fun r5 => pf [xW cI cZ o ad I R rf, lW cI cZ (rf 1) adk Ik Rk cmk, rW cI cZ or adr nr Ir Rr]) (fun r5 => [.int r5]) 0 0 (fun _ h9 => c_X4_write l G cI cZ cQ cU cJ x2 y0 1 _ h9) (vj_pn _) (fun _ => vj_pn' _) (⟨va_cnB 3 C.1.2.2.2.2 gX5_dueTo_X4_write_n283 rfl rfl rfl (C.nestM (List.mem_of_getElem? (i := 61) rfl)) (C.1.2.2.2.2 _ (List.mem_of_getElem? (i := 34) rfl)) hy_X4_write ⟨Nat.le_of_ble_eq_true rfl, Nat.le_of_ble_eq_true rfl⟩, (C.1.2.2.2.2 _ (List.mem_of_getElem? (i := 33) rfl)), trivial⟩) rfl rfl (fun _ => rfl) (Nat.le_of_ble_eq_true rfl) dX5_dueTo_49 ⟨Nat.le_of_ble_eq_true rfl, Nat.le_of_ble_eq_true rfl⟩ ⟨rfl, rfl⟩ (fun r5 => ?_)
        exact VJ.iret C hret rfl rfl dX5_dueTo_52
    · refine VJ.iconst (v := (-1)) C dX5_dueTo_38 (by decide) ?_
      exact VJ.iret C hret rfl rfl dX5_dueTo_39
  unfold f_X5_dueTo
  refine VJ.aload_n C 1 dX5_dueTo_0 rfl ?_
  refine VJ.getN (C0 := RX4) (T := TX4) (N := 5) (ci := 4) C in_X5_dueTo_X4 14 rfl rfl 2 (Nat.le_of_ble_eq_true rfl) (C.nest (List.mem_of_getElem? (i := 25) rfl) rfl) (fun _ h9 => h9) (v := .ref (adr 0)) rfl dX5_dueTo_1 ?_
  refine VJ.iload_n C 2 dX5_dueTo_4 rfl ?_
  refine VJ.atS (q0 := 15) C rfl (c_X5_att l G cI cZ cQ cU cJ (adr 0) 24 (Nat.le_of_ble_eq_true rfl) (Rr 0) x2) (va_cwS 2 C.1.2.2.2.2 gX5_dueTo_X5_at rfl rfl rfl hy_X5_at ⟨Nat.le_of_ble_eq_true rfl, Nat.le_of_ble_eq_true rfl⟩) rfl (Nat.le_of_ble_eq_true rfl) dX5_dueTo_5 ⟨Nat.le_of_ble_eq_true rfl, Nat.le_of_ble_eq_true rfl⟩ ⟨rfl, rfl⟩ ?_
  refine VJ.topi C (fun v1 => ?_)
  refine VJ.istore_n C [(3, .int v1), (0, .ref o), (1, .ref or), (2, .int x2)] dX5_dueTo_8 (Nat.le_of_ble_eq_true rfl) rfl ?_
  refine VJ.aload_n C 1 dX5_dueTo_9 rfl ?_
  refine VJ.aload_n C 2 dX5_dueTo_10 rfl ?_
  refine VJ.iload_n C 3 dX5_dueTo_11 rfl ?_
  refine VJ.callV1 C [.ref or, .int x2] (pf [xW cI cZ o ad I R rf, lW cI cZ (rf 1) adk Ik Rk cmk, rW cI cZ or adr nr Ir Rr]) ([]) (fun r2 => some (.int r2)) (fun r2 => pf [xW cI cZ o ad I R rf, lW cI cZ (rf 1) adk Ik Rk cmk, rW cI cZ or adr nr Ir Rr]) (fun r2 => pf [xW cI cZ o ad I R rf, lW cI cZ (rf 1) adk Ik Rk cmk, rW cI cZ or adr nr Ir Rr]) (fun r2 => [.int r2]) 0 0 (fun _ h9 => c_X5_isOfKind l G cI cZ cQ cU cJ o ad rf I R adk Ik Rk cmk or adr nr Ir Rr x2 _ h9) (vj_p0 _) (fun _ => vj_p0' _) 0 rfl rfl (cwV 2 C.1.2.2.2.2 gX5_dueTo_X5_isOfKind rfl rfl rfl hyV_X5_isOfKind ⟨Nat.le_of_ble_eq_true rfl, Nat.le_of_ble_eq_true rfl⟩) rfl rfl (fun _ => rfl) (Nat.le_of_ble_eq_true rfl) dX5_dueTo_12 ⟨Nat.le_of_ble_eq_true rfl, Nat.le_of_ble_eq_true rfl⟩ ⟨rfl, rfl⟩ (fun r2 => ?_)
  refine VJ.if_eq C 29 dX5_dueTo_15 (by decide) (fun _ => ?_) (fun _ => ?_)
  · refine VJ.iconst (v := (-1)) C dX5_dueTo_29 (by decide) ?_
    refine VJ.sub [3, 0] rfl ?_
    exact j30 x2 v1 (-1)
  · refine VJ.aload_n C 1 dX5_dueTo_18 rfl ?_
    refine VJ.get (C0 := RX5) (T := TX5) (N := 11) (ci := 5) C in_X5_dueTo_X5 0 rfl rfl 1 (Nat.le_of_ble_eq_true rfl) (C.1.2.2.2.2 _ (List.mem_of_getElem? (i := 1) rfl)) (fun _ h9 => h9) (v := .ref (rf 1)) rfl dX5_dueTo_19 ?_
    refine VJ.iload_n C 3 dX5_dueTo_22 rfl ?_
    refine VJ.callVN1 C [.int x2] (pf [lW cI cZ (rf 1) adk Ik Rk cmk]) (pf [xW cI cZ o ad I R rf, rW cI cZ or adr nr Ir Rr]) (fun r6 => some (.int r6)) (fun r6 => pf [lW cI cZ (rf 1) adk Ik Rk cmk]) (fun r6 => pf [xW cI cZ o ad I R rf, lW cI cZ (rf 1) adk Ik Rk cmk, rW cI cZ or adr nr Ir Rr]) (fun r6 => [.int r6]) 0 0 (fun _ h9 => c_X2_dwellingOf l G cI cZ cQ cU cJ (rf 1) adk Ik Rk cmk x2 _ h9) (vj_pf 3 [1, 0, 2] rfl rfl dp_1_0_2) (fun _ => (vj_pf 3 [1, 0, 2] rfl rfl dp_1_0_2).symm) 0 rfl rfl (⟨va_cnB 1 C.1.2.2.2.2 gX5_dueTo_X2_dwellingOf_n242 rfl rfl rfl (C.nestM (List.mem_of_getElem? (i := 60) rfl)) (C.1.2.2.2.2 _ (List.mem_of_getElem? (i := 11) rfl)) hy_X2_dwellingOf ⟨Nat.le_of_ble_eq_true rfl, Nat.le_of_ble_eq_true rfl⟩, (C.1.2.2.2.2 _ (List.mem_of_getElem? (i := 25) rfl)), (C.1.2.2.2.2 _ (List.mem_of_getElem? (i := 26) rfl))⟩) rfl rfl (fun _ => rfl) (Nat.le_of_ble_eq_true rfl) dX5_dueTo_23 ⟨Nat.le_of_ble_eq_true rfl, Nat.le_of_ble_eq_true rfl⟩ ⟨rfl, rfl⟩ (fun r6 => ?_)
    refine VJ.goto C 30 dX5_dueTo_26 (by decide) ?_
    refine VJ.sub [3, 0] rfl ?_
    exact j30 x2 v1 r6

def f_X5_day (I : OI) (R : RI) : Option Int32 :=
  some (I 0)
abbrev rmX5_day : Room := { frames := 0, cells := 0, slots := 0, locals := 0 }
theorem in_X5_day_X5 : ∀ w ∈ u_ws RX5 TX5 11, w ∈ wsX5_day := in_of 2 rfl
theorem hy_X5_day : yX5_day.cls ≠ "java/lang/invoke/MethodHandle" ∧ yX5_day.cls ≠ "java/lang/invoke/VarHandle" ∧ (parseMethodDescriptor yX5_day.desc).map (fun d => d.parameters.length) = some 0 := by decide +kernel
theorem hyV_X5_day : yX5_day.cls = RX5 ∧ yX5_day.cls ≠ "java/lang/invoke/MethodHandle" ∧ yX5_day.cls ≠ "java/lang/invoke/VarHandle" ∧ (parseMethodDescriptor yX5_day.desc).map (fun d => d.parameters.length) = some 0 := ⟨rfl, hy_X5_day⟩
set_option maxHeartbeats 8000000 in
set_option maxRecDepth 100000 in
theorem c_X5_day (l : Launch) (G : va_G) (cI cZ cQ cU cJ : ClassId) (o : Nat) (ad : Nat → Nat) (rf : Nat → Nat) (I : OI) (R : RI) (out : Int32) (hf : f_X5_day I R = some out) : Con l yX5_day wsX5_day rmX5_day G vwCl (tys cI cZ cQ cU cJ) nws [.ref o] (pf [xW cI cZ o ad I R rf]) (some (.int out)) (pf [xW cI cZ o ad I R rf]) := by
  refine con_of (rv := fun out : Int32 => some (.int out)) (Wd := fun out : Int32 => pf [xW cI cZ o ad I R rf]) (maxL := 1) (own := RX5) rfl (plainFor_of_name (by decide +kernel)) rfl (Nat.le_of_ble_eq_true rfl) ?_ hf
  intro p e s m args below meth c A C hret hname
  unfold f_X5_day
  refine VJ.aload_n C 0 dX5_day_0 rfl ?_
  refine VJ.get (C0 := RX5) (T := TX5) (N := 11) (ci := 5) C in_X5_day_X5 0 rfl rfl 8 (Nat.le_of_ble_eq_true rfl) (C.1.2.2.2.2 _ (List.mem_of_getElem? (i := 1) rfl)) (fun _ h9 => h9) (v := .int (I 0)) rfl dX5_day_1 ?_
  exact VJ.iret C hret rfl rfl dX5_day_4

