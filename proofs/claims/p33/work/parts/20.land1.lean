
theorem dp_0_1 : ([0, 1] : List Nat).Perm (List.range 2) := by decide +kernel

def f_J9_floorDiv_7cf53 (x0 : Int32) (x1 : Int32) : Option Int32 :=
  ond x1 (ol (x0 / x1) (fun v1 => if 0 ≤ (x0 ^^^ x1) then (some v1) else (if (v1 * x1) = x0 then (some v1) else (some (v1 - 1)))))
abbrev rmJ9_floorDiv_7cf53 : Room := { frames := 0, cells := 0, slots := 0, locals := 0 }
theorem hy_J9_floorDiv_7cf53 : yJ9_floorDiv_7cf53.cls ≠ "java/lang/invoke/MethodHandle" ∧ yJ9_floorDiv_7cf53.cls ≠ "java/lang/invoke/VarHandle" ∧ (parseMethodDescriptor yJ9_floorDiv_7cf53.desc).map (fun d => d.parameters.length) = some 2 := by decide +kernel
theorem hyV_J9_floorDiv_7cf53 : yJ9_floorDiv_7cf53.cls = RJ9 ∧ yJ9_floorDiv_7cf53.cls ≠ "java/lang/invoke/MethodHandle" ∧ yJ9_floorDiv_7cf53.cls ≠ "java/lang/invoke/VarHandle" ∧ (parseMethodDescriptor yJ9_floorDiv_7cf53.desc).map (fun d => d.parameters.length) = some 2 := ⟨rfl, hy_J9_floorDiv_7cf53⟩
set_option maxHeartbeats 8000000 in
set_option maxRecDepth 100000 in
theorem c_J9_floorDiv_7cf53 (l : Launch) (G : va_G) (cI cZ cQ cU cJ : ClassId) (x0 : Int32) (x1 : Int32) (out : Int32) (hf : f_J9_floorDiv_7cf53 x0 x1 = some out) : Con l yJ9_floorDiv_7cf53 wsJ9_floorDiv_7cf53 rmJ9_floorDiv_7cf53 G vwCl (tys cI cZ cQ cU cJ) nws [.int x0, .int x1] (pf []) (some (.int out)) (pf []) := by
  refine con_of (rv := fun out : Int32 => some (.int out)) (Wd := fun out : Int32 => pf []) (maxL := 3) (own := RJ9) rfl (by decide +kernel) rfl (Nat.le_of_ble_eq_true rfl) ?_ hf
  intro p e s m args below meth c A C hret hname
  unfold f_J9_floorDiv_7cf53
  refine VJ.iload_n C 0 dJ9_floorDiv_7cf53_0 rfl ?_
  refine VJ.iload_n C 1 dJ9_floorDiv_7cf53_1 rfl ?_
  refine VJ.rond (fun hz9 => ?_)
  refine VJ.idiv C dJ9_floorDiv_7cf53_2 hz9 ?_
  refine VJ.topi C (fun v1 => ?_)
  refine VJ.istore_n C [(2, .int v1), (0, .int x0), (1, .int x1)] dJ9_floorDiv_7cf53_3 (Nat.le_of_ble_eq_true rfl) rfl ?_
  refine VJ.iload_n C 1 dJ9_floorDiv_7cf53_4 rfl ?_
  refine VJ.iload_n C 2 dJ9_floorDiv_7cf53_5 rfl ?_
  refine VJ.ixor C dJ9_floorDiv_7cf53_6 ?_
  refine VJ.if_ge C 21 dJ9_floorDiv_7cf53_7 (by decide) (fun _ => ?_) (fun _ => ?_)
  · refine VJ.iload_n C 0 dJ9_floorDiv_7cf53_21 rfl ?_
    exact VJ.iret C hret rfl rfl dJ9_floorDiv_7cf53_22
  · refine VJ.iload_n C 0 dJ9_floorDiv_7cf53_10 rfl ?_
    refine VJ.iload_n C 2 dJ9_floorDiv_7cf53_11 rfl ?_
    refine VJ.imul C dJ9_floorDiv_7cf53_12 ?_
    refine VJ.iload_n C 1 dJ9_floorDiv_7cf53_13 rfl ?_
    refine VJ.icmp_eq C 21 dJ9_floorDiv_7cf53_14 (by decide) (fun _ => ?_) (fun _ => ?_)
    · refine VJ.iload_n C 0 dJ9_floorDiv_7cf53_21 rfl ?_
      exact VJ.iret C hret rfl rfl dJ9_floorDiv_7cf53_22
    · refine VJ.iload_n C 0 dJ9_floorDiv_7cf53_17 rfl ?_
      refine VJ.iconst (v := 1) C dJ9_floorDiv_7cf53_18 (by decide) ?_
      refine VJ.isub C dJ9_floorDiv_7cf53_19 ?_
      exact VJ.iret C hret rfl rfl dJ9_floorDiv_7cf53_20

set_option maxHeartbeats 4000000 in
set_option maxRecDepth 100000 in
def f_J7_fill_53178_l5b (N : Nat) (n : Nat) (k5 : OI → Int32 → Int32 → Int32 → Option OI) (g : OI) (x1 : Int32) (x2 : Int32) (x3 : Int32) : Option OI :=
  if x3 ≤ x2 then (some g) else (og x2 n (ol (upd g x2.toNatClampNeg x1) (fun g2 => ol (x2 + Int32.ofInt 1) (fun v3 => k5 g2 x1 v3 x3))))
set_option maxHeartbeats 4000000 in
set_option maxRecDepth 100000 in
def f_J7_fill_53178_l5 (N : Nat) (n : Nat) : Nat → OI → Int32 → Int32 → Int32 → Option OI
  | 0 => fun _ _ _ _ => none
  | n9 + 1 => f_J7_fill_53178_l5b N n (f_J7_fill_53178_l5 N n n9)
def f_J7_fill_53178 (N : Nat) (n : Nat) (g : OI) (x1 : Int32) : Option OI :=
  ol (nI n) (fun v1 => f_J7_fill_53178_l5 N n N g x1 0 v1)
abbrev rmJ7_fill_53178 : Room := { frames := 0, cells := 0, slots := 0, locals := 0 }
theorem hy_J7_fill_53178 : yJ7_fill_53178.cls ≠ "java/lang/invoke/MethodHandle" ∧ yJ7_fill_53178.cls ≠ "java/lang/invoke/VarHandle" ∧ (parseMethodDescriptor yJ7_fill_53178.desc).map (fun d => d.parameters.length) = some 2 := by decide +kernel
theorem hyV_J7_fill_53178 : yJ7_fill_53178.cls = RJ7 ∧ yJ7_fill_53178.cls ≠ "java/lang/invoke/MethodHandle" ∧ yJ7_fill_53178.cls ≠ "java/lang/invoke/VarHandle" ∧ (parseMethodDescriptor yJ7_fill_53178.desc).map (fun d => d.parameters.length) = some 2 := ⟨rfl, hy_J7_fill_53178⟩
set_option maxHeartbeats 8000000 in
set_option maxRecDepth 100000 in
theorem c_J7_fill_53178 (l : Launch) (G : va_G) (cI cZ cQ cU cJ : ClassId) (N : Nat) (a : Nat) (n : Nat) (g : OI) (x1 : Int32) (out : OI) (hf : f_J7_fill_53178 N n g x1 = some out) : Con l yJ7_fill_53178 wsJ7_fill_53178 rmJ7_fill_53178 G vwCl (tys cI cZ cQ cU cJ) nws [.ref a, .int x1] (pf [[(a, .inl (cI, n, .inl g))]]) (none) (pf [[(a, .inl (cI, n, .inl out))]]) := by
  refine con_of (rv := fun out : OI => none) (Wd := fun out : OI => pf [[(a, .inl (cI, n, .inl out))]]) (maxL := 4) (own := RJ7) rfl (plainFor_of_name (by decide +kernel)) rfl (Nat.le_of_ble_eq_true rfl) ?_ hf
  intro p e s m args below meth c A C hret hname
  have j5 : ∀ (n9 : Nat) (g : OI) (x1 : Int32) (x2 : Int32) (x3 : Int32), VJ p l e rmJ7_fill_53178 s m args below meth c 4 G vwCl A (QR below G vwCl A args s rmJ7_fill_53178.cells rmJ7_fill_53178.slots (fun out : OI => none) (fun out : OI => pf [[(a, .inl (cI, n, .inl out))]])) 0 0 (f_J7_fill_53178_l5 N n  n9 g x1 x2 x3) (pf [[(a, .inl (cI, n, .inl g))]]) 5 [(0, .ref a), (1, .int x1), (2, .int x2), (3, .int x3)] [] := by
    intro  n9
    induction n9 with
    | zero => intro g x1 x2 x3; exact VJ.fnone rfl
    | succ n9 i5 =>
      intro g x1 x2 x3
      refine VJ.eqf (f' := f_J7_fill_53178_l5b N n  (f_J7_fill_53178_l5 N n  n9) g x1 x2 x3) rfl ?_
      generalize f_J7_fill_53178_l5 N n  n9 = k5 at i5 ⊢
      unfold f_J7_fill_53178_l5b
      refine VJ.iload_n C 2 dJ7_fill_53178_5 rfl ?_
      refine VJ.iload_n C 3 dJ7_fill_53178_6 rfl ?_
      refine VJ.icmp_ge C 20 dJ7_fill_53178_7 (by decide) (fun _ => ?_) (fun _ => ?_)
      · exact VJ.vret C hret rfl rfl dJ7_fill_53178_20
      · refine VJ.aload_n C 0 dJ7_fill_53178_10 rfl ?_
        refine VJ.iload_n C 2 dJ7_fill_53178_11 rfl ?_
        refine VJ.iload_n C 1 dJ7_fill_53178_12 rfl ?_
        refine VJ.iast C 0 0 (fun g2 => pf [[(a, .inl (cI, n, .inl g2))]]) rfl rfl (fun _ => rfl) dJ7_fill_53178_13 (fun g2 _ => ?_)
        refine VJ.iincN C 2 (fun v3 => [(2, .int v3), (0, .ref a), (1, .int x1), (3, .int x3)]) dJ7_fill_53178_14 rfl (Nat.le_of_ble_eq_true rfl) (fun _ => rfl) (fun v3 => ?_)
        refine VJ.goto C 5 dJ7_fill_53178_17 (by decide) ?_
        refine VJ.sub [1, 2, 0, 3] rfl ?_
        exact i5 g2 x1 v3 x3
  unfold f_J7_fill_53178
  refine VJ.iconst (v := 0) C dJ7_fill_53178_0 (by decide) ?_
  refine VJ.istore_n C [(2, .int 0), (0, .ref a), (1, .int x1)] dJ7_fill_53178_1 (Nat.le_of_ble_eq_true rfl) rfl ?_
  refine VJ.aload_n C 1 dJ7_fill_53178_2 rfl ?_
  refine VJ.alen C 0 0 (v := nI n) rfl rfl rfl dJ7_fill_53178_3 ?_
  refine VJ.topi C (fun v1 => ?_)
  refine VJ.istore_n C [(3, .int v1), (2, .int 0), (0, .ref a), (1, .int x1)] dJ7_fill_53178_4 (Nat.le_of_ble_eq_true rfl) rfl ?_
  refine VJ.sub [2, 3, 1, 0] rfl ?_
  exact j5 N g x1 0 v1

def f_X5_officeOf (x0 : Int32) : Option Int32 :=
  ob1 (f_J9_floorDiv_7cf53 x0 4) (fun r1 => some r1)
abbrev rmX5_officeOf : Room := { frames := 1, cells := 0, slots := 0, locals := 22 }
theorem hy_X5_officeOf : yX5_officeOf.cls ≠ "java/lang/invoke/MethodHandle" ∧ yX5_officeOf.cls ≠ "java/lang/invoke/VarHandle" ∧ (parseMethodDescriptor yX5_officeOf.desc).map (fun d => d.parameters.length) = some 1 := by decide +kernel
theorem hyV_X5_officeOf : yX5_officeOf.cls = RX5 ∧ yX5_officeOf.cls ≠ "java/lang/invoke/MethodHandle" ∧ yX5_officeOf.cls ≠ "java/lang/invoke/VarHandle" ∧ (parseMethodDescriptor yX5_officeOf.desc).map (fun d => d.parameters.length) = some 1 := ⟨rfl, hy_X5_officeOf⟩
set_option maxHeartbeats 8000000 in
set_option maxRecDepth 100000 in
theorem c_X5_officeOf (l : Launch) (G : va_G) (cI cZ cQ cU cJ : ClassId) (x0 : Int32) (out : Int32) (hf : f_X5_officeOf x0 = some out) : Con l yX5_officeOf wsX5_officeOf rmX5_officeOf G vwCl (tys cI cZ cQ cU cJ) nws [.int x0] (pf []) (some (.int out)) (pf []) := by
  refine con_of (rv := fun out : Int32 => some (.int out)) (Wd := fun out : Int32 => pf []) (maxL := 1) (own := RX5) rfl (plainFor_of_name (by decide +kernel)) rfl (Nat.le_of_ble_eq_true rfl) ?_ hf
  intro p e s m args below meth c A C hret hname
  unfold f_X5_officeOf
  refine VJ.iload_n C 0 dX5_officeOf_0 rfl ?_
  refine VJ.iconst (v := 4) C dX5_officeOf_1 (by decide) ?_
  refine VJ.callS1 C [.int x0, .int 4] (pf []) (pf []) (fun r1 => some (.int r1)) (fun r1 => pf []) (fun r1 => pf []) (fun r1 => [.int r1]) 0 0 (fun _ h9 => c_J9_floorDiv_7cf53 l G cI cZ cQ cU cJ x0 4 _ h9) (vj_pn _) (fun _ => vj_pn' _) (va_cwS 2 C.1.2.2.2.2 gX5_officeOf_J9_floorDiv_7cf53 rfl rfl rfl hy_J9_floorDiv_7cf53 ⟨Nat.le_of_ble_eq_true rfl, Nat.le_of_ble_eq_true rfl⟩) rfl rfl (fun _ => rfl) (Nat.le_of_ble_eq_true rfl) dX5_officeOf_2 ⟨Nat.le_of_ble_eq_true rfl, Nat.le_of_ble_eq_true rfl⟩ ⟨rfl, rfl⟩ (fun r1 => ?_)
  exact VJ.iret C hret rfl rfl dX5_officeOf_5

def f_X0_isKnownOn (AL : List Nat) (AI : Nat → OI) (AR : Nat → OO) (a0 : Nat) (x1 : Int32) : Option Int32 :=
  om a0 AL (if x1 < (AI a0 1) then (some 0) else (om a0 AL (oc (AR a0 0) (some 1) (fun a3 => om a0 AL (oq (AR a0 0) (fun a5 => om a5 AL (if (AI a5 1) ≤ x1 then (some 0) else (some 1))))))))
abbrev rmX0_isKnownOn : Room := { frames := 0, cells := 0, slots := 0, locals := 0 }
theorem in_X0_isKnownOn_X0 : ∀ w ∈ u_ws RX0 TX0 10, w ∈ wsX0_isKnownOn := in_of 3 rfl
theorem hy_X0_isKnownOn : yX0_isKnownOn.cls ≠ "java/lang/invoke/MethodHandle" ∧ yX0_isKnownOn.cls ≠ "java/lang/invoke/VarHandle" ∧ (parseMethodDescriptor yX0_isKnownOn.desc).map (fun d => d.parameters.length) = some 1 := by decide +kernel
theorem hyV_X0_isKnownOn : yX0_isKnownOn.cls = RX0 ∧ yX0_isKnownOn.cls ≠ "java/lang/invoke/MethodHandle" ∧ yX0_isKnownOn.cls ≠ "java/lang/invoke/VarHandle" ∧ (parseMethodDescriptor yX0_isKnownOn.desc).map (fun d => d.parameters.length) = some 1 := ⟨rfl, hy_X0_isKnownOn⟩
set_option maxHeartbeats 8000000 in
set_option maxRecDepth 100000 in
theorem c_X0_isKnownOn (l : Launch) (G : va_G) (cI cZ cQ cU cJ : ClassId) (AL : List Nat) (AI : Nat → OI) (AR : Nat → OO) (a0 : Nat) (x1 : Int32) (out : Int32) (hf : f_X0_isKnownOn AL AI AR a0 x1 = some out) : Con l yX0_isKnownOn wsX0_isKnownOn rmX0_isKnownOn G vwCl (tys cI cZ cQ cU cJ) nws [.ref a0, .int x1] (pf [pW AL AI AR]) (some (.int out)) (pf [pW AL AI AR]) := by
  refine con_of (rv := fun out : Int32 => some (.int out)) (Wd := fun out : Int32 => pf [pW AL AI AR]) (maxL := 2) (own := RX0) rfl (plainFor_of_name (by decide +kernel)) rfl (Nat.le_of_ble_eq_true rfl) ?_ hf
  intro p e s m args below meth c A C hret hname
  unfold f_X0_isKnownOn
  refine VJ.aload_n C 0 dX0_isKnownOn_0 rfl ?_
  refine VJ.rom (fun h9 => ?_)
  obtain ⟨p1, ep1⟩ := pool_at (ps := [pW AL AI AR]) (List.mem_of_getElem? (i := 0) rfl) h9
  refine VJ.get (C0 := RX0) (T := TX0) (N := 10) (ci := 0) C in_X0_isKnownOn_X0 p1 ep1 rfl 1 (Nat.le_of_ble_eq_true rfl) (C.1.2.2.2.2 _ (List.mem_of_getElem? (i := 1) rfl)) (fun _ h9 => h9) rfl dX0_isKnownOn_1 ?_
  refine VJ.iload_n C 1 dX0_isKnownOn_4 rfl ?_
  refine VJ.icmp_gt C 30 dX0_isKnownOn_5 (by decide) (fun _ => ?_) (fun _ => ?_)
  · refine VJ.iconst (v := 0) C dX0_isKnownOn_30 (by decide) ?_
    exact VJ.zret C rfl hret rfl rfl dX0_isKnownOn_31
  · refine VJ.aload_n C 0 dX0_isKnownOn_8 rfl ?_
    refine VJ.rom (fun h9 => ?_)
    obtain ⟨p2, ep2⟩ := pool_at (ps := [pW AL AI AR]) (List.mem_of_getElem? (i := 0) rfl) h9
    refine VJ.get (C0 := RX0) (T := TX0) (N := 10) (ci := 0) C in_X0_isKnownOn_X0 p2 ep2 rfl 8 (Nat.le_of_ble_eq_true rfl) (C.1.2.2.2.2 _ (List.mem_of_getElem? (i := 2) rfl)) (fun _ h9 => h9) rfl dX0_isKnownOn_9 ?_
    refine VJ.ifnull C 26 dX0_isKnownOn_12 (by decide) (fun _ => ?_) (fun a3 _ => ?_)
    · refine VJ.iconst (v := 1) C dX0_isKnownOn_26 (by decide) ?_
      refine VJ.goto C 31 dX0_isKnownOn_27 (by decide) ?_
      exact VJ.zret C rfl hret rfl rfl dX0_isKnownOn_31
    · refine VJ.aload_n C 0 dX0_isKnownOn_15 rfl ?_
      refine VJ.rom (fun h9 => ?_)
      obtain ⟨p4, ep4⟩ := pool_at (ps := [pW AL AI AR]) (List.mem_of_getElem? (i := 0) rfl) h9
      refine VJ.get (C0 := RX0) (T := TX0) (N := 10) (ci := 0) C in_X0_isKnownOn_X0 p4 ep4 rfl 8 (Nat.le_of_ble_eq_true rfl) (C.1.2.2.2.2 _ (List.mem_of_getElem? (i := 2) rfl)) (fun _ h9 => h9) rfl dX0_isKnownOn_16 ?_
      refine VJ.roq (fun a5 e9 => ?_)
      rw [e9]
      refine VJ.rom (fun h9 => ?_)
      obtain ⟨p6, ep6⟩ := pool_at (ps := [pW AL AI AR]) (List.mem_of_getElem? (i := 0) rfl) h9
      refine VJ.get (C0 := RX0) (T := TX0) (N := 10) (ci := 0) C in_X0_isKnownOn_X0 p6 ep6 rfl 1 (Nat.le_of_ble_eq_true rfl) (C.1.2.2.2.2 _ (List.mem_of_getElem? (i := 1) rfl)) (fun _ h9 => h9) rfl dX0_isKnownOn_19 ?_
      refine VJ.iload_n C 1 dX0_isKnownOn_22 rfl ?_
      refine VJ.icmp_le C 30 dX0_isKnownOn_23 (by decide) (fun _ => ?_) (fun _ => ?_)
      · refine VJ.iconst (v := 0) C dX0_isKnownOn_30 (by decide) ?_
        exact VJ.zret C rfl hret rfl rfl dX0_isKnownOn_31
      · refine VJ.iconst (v := 1) C dX0_isKnownOn_26 (by decide) ?_
        refine VJ.goto C 31 dX0_isKnownOn_27 (by decide) ?_
        exact VJ.zret C rfl hret rfl rfl dX0_isKnownOn_31

def f_X1_find (ta : Int32) (ea : Option Nat) (wa : OO) (x1 : Int32) : Option (Option Nat) :=
  if x1 < 0 then (some none) else (if 150 ≤ x1 then (some none) else (og x1 150 (some (wa x1.toNatClampNeg))))
abbrev rmX1_find : Room := { frames := 0, cells := 0, slots := 0, locals := 0 }
theorem in_X1_find_X1 : ∀ w ∈ u_ws RX1 TX1 3, w ∈ wsX1_find := in_of 2 rfl
theorem hy_X1_find : yX1_find.cls ≠ "java/lang/invoke/MethodHandle" ∧ yX1_find.cls ≠ "java/lang/invoke/VarHandle" ∧ (parseMethodDescriptor yX1_find.desc).map (fun d => d.parameters.length) = some 1 := by decide +kernel
theorem hyV_X1_find : yX1_find.cls = RX1 ∧ yX1_find.cls ≠ "java/lang/invoke/MethodHandle" ∧ yX1_find.cls ≠ "java/lang/invoke/VarHandle" ∧ (parseMethodDescriptor yX1_find.desc).map (fun d => d.parameters.length) = some 1 := ⟨rfl, hy_X1_find⟩
set_option maxHeartbeats 8000000 in
set_option maxRecDepth 100000 in
theorem c_X1_find (l : Launch) (G : va_G) (cI cZ cQ cU cJ : ClassId) (oa : Nat) (ra : Nat) (ta : Int32) (ea : Option Nat) (wa : OO) (x1 : Int32) (out : Option Nat) (hf : f_X1_find ta ea wa x1 = some out) : Con l yX1_find wsX1_find rmX1_find G vwCl (tys cI cZ cQ cU cJ) nws [.ref oa, .int x1] (pf [aW cQ oa ra ta ea wa]) (some (va_rf out)) (pf [aW cQ oa ra ta ea wa]) := by
  refine con_of (rv := fun out : Option Nat => some (va_rf out)) (Wd := fun out : Option Nat => pf [aW cQ oa ra ta ea wa]) (maxL := 2) (own := RX1) rfl (plainFor_of_name (by decide +kernel)) rfl (Nat.le_of_ble_eq_true rfl) ?_ hf
  intro p e s m args below meth c A C hret hname
  unfold f_X1_find
  refine VJ.iload_n C 1 dX1_find_0 rfl ?_
  refine VJ.if_lt C 22 dX1_find_1 (by decide) (fun _ => ?_) (fun _ => ?_)
  · refine VJ.null C dX1_find_22 ?_
    exact VJ.aretq (x := none) C hret rfl rfl dX1_find_23
  · refine VJ.iload_n C 1 dX1_find_4 rfl ?_
    refine VJ.aload_n C 0 dX1_find_5 rfl ?_
    refine VJ.get (C0 := RX1) (T := TX1) (N := 3) (ci := 1) C in_X1_find_X1 0 rfl rfl 0 (Nat.le_of_ble_eq_true rfl) (C.1.2.2.2.2 _ (List.mem_of_getElem? (i := 1) rfl)) (fun _ h9 => h9) (v := .ref ra) rfl dX1_find_6 ?_
    refine VJ.alen C 1 2 (v := 150) rfl rfl (show Int32.ofNat 150 = 150 by decide) dX1_find_9 ?_
    refine VJ.icmp_ge C 22 dX1_find_10 (by decide) (fun _ => ?_) (fun _ => ?_)
    · refine VJ.null C dX1_find_22 ?_
      exact VJ.aretq (x := none) C hret rfl rfl dX1_find_23
    · refine VJ.aload_n C 0 dX1_find_13 rfl ?_
      refine VJ.get (C0 := RX1) (T := TX1) (N := 3) (ci := 1) C in_X1_find_X1 0 rfl rfl 0 (Nat.le_of_ble_eq_true rfl) (C.1.2.2.2.2 _ (List.mem_of_getElem? (i := 1) rfl)) (fun _ h9 => h9) (v := .ref ra) rfl dX1_find_14 ?_
      refine VJ.iload_n C 1 dX1_find_17 rfl ?_
      refine VJ.aaldq (C0 := "Residentroll$Act") C 1 2 rfl rfl dX1_find_18 ?_
      refine VJ.goto C 23 dX1_find_19 (by decide) ?_
      exact VJ.aretq (x := wa x1.toNatClampNeg) C hret rfl rfl dX1_find_23

def f_X2_isLiving (I : OI) (R : RI) (cm : Option Nat) (x1 : Int32) : Option Int32 :=
  if x1 < 0 then (some 0) else (if 24 ≤ x1 then (some 0) else (og x1 24 (if (R 1 x1.toNatClampNeg) = 1 then (some 1) else (some 0))))
abbrev rmX2_isLiving : Room := { frames := 0, cells := 0, slots := 0, locals := 0 }
theorem in_X2_isLiving_X2 : ∀ w ∈ u_ws RX2 TX2 13, w ∈ wsX2_isLiving := in_of 2 rfl
theorem hy_X2_isLiving : yX2_isLiving.cls ≠ "java/lang/invoke/MethodHandle" ∧ yX2_isLiving.cls ≠ "java/lang/invoke/VarHandle" ∧ (parseMethodDescriptor yX2_isLiving.desc).map (fun d => d.parameters.length) = some 1 := by decide +kernel
theorem hyV_X2_isLiving : yX2_isLiving.cls = RX2 ∧ yX2_isLiving.cls ≠ "java/lang/invoke/MethodHandle" ∧ yX2_isLiving.cls ≠ "java/lang/invoke/VarHandle" ∧ (parseMethodDescriptor yX2_isLiving.desc).map (fun d => d.parameters.length) = some 1 := ⟨rfl, hy_X2_isLiving⟩
set_option maxHeartbeats 8000000 in
set_option maxRecDepth 100000 in
theorem c_X2_isLiving (l : Launch) (G : va_G) (cI cZ cQ cU cJ : ClassId) (o : Nat) (ad : Nat → Nat) (I : OI) (R : RI) (cm : Option Nat) (x1 : Int32) (out : Int32) (hf : f_X2_isLiving I R cm x1 = some out) : Con l yX2_isLiving wsX2_isLiving rmX2_isLiving G vwCl (tys cI cZ cQ cU cJ) nws [.ref o, .int x1] (pf [lW cI cZ o ad I R cm]) (some (.int out)) (pf [lW cI cZ o ad I R cm]) := by
  refine con_of (rv := fun out : Int32 => some (.int out)) (Wd := fun out : Int32 => pf [lW cI cZ o ad I R cm]) (maxL := 2) (own := RX2) rfl (plainFor_of_name (by decide +kernel)) rfl (Nat.le_of_ble_eq_true rfl) ?_ hf
  intro p e s m args below meth c A C hret hname
  unfold f_X2_isLiving
  refine VJ.iload_n C 1 dX2_isLiving_0 rfl ?_
  refine VJ.if_lt C 27 dX2_isLiving_1 (by decide) (fun _ => ?_) (fun _ => ?_)
  · refine VJ.iconst (v := 0) C dX2_isLiving_27 (by decide) ?_
    exact VJ.zret C rfl hret rfl rfl dX2_isLiving_28
  · refine VJ.iload_n C 1 dX2_isLiving_4 rfl ?_
    refine VJ.aload_n C 0 dX2_isLiving_5 rfl ?_
    refine VJ.get (C0 := RX2) (T := TX2) (N := 13) (ci := 2) C in_X2_isLiving_X2 0 rfl rfl 1 (Nat.le_of_ble_eq_true rfl) (C.1.2.2.2.2 _ (List.mem_of_getElem? (i := 1) rfl)) (fun _ h9 => h9) (v := .ref (ad 1)) rfl dX2_isLiving_6 ?_
    refine VJ.alen C 2 0 (v := 24) rfl rfl (show Int32.ofNat 24 = 24 by decide) dX2_isLiving_9 ?_
    refine VJ.icmp_ge C 27 dX2_isLiving_10 (by decide) (fun _ => ?_) (fun _ => ?_)
    · refine VJ.iconst (v := 0) C dX2_isLiving_27 (by decide) ?_
      exact VJ.zret C rfl hret rfl rfl dX2_isLiving_28
    · refine VJ.aload_n C 0 dX2_isLiving_13 rfl ?_
      refine VJ.get (C0 := RX2) (T := TX2) (N := 13) (ci := 2) C in_X2_isLiving_X2 0 rfl rfl 1 (Nat.le_of_ble_eq_true rfl) (C.1.2.2.2.2 _ (List.mem_of_getElem? (i := 1) rfl)) (fun _ h9 => h9) (v := .ref (ad 1)) rfl dX2_isLiving_14 ?_
      refine VJ.iload_n C 1 dX2_isLiving_17 rfl ?_
      refine VJ.iald C 2 0 rfl rfl dX2_isLiving_18 ?_
      refine VJ.iconst (v := 1) C dX2_isLiving_19 (by decide) ?_
      refine VJ.icmp_ne C 27 dX2_isLiving_20 (by decide) (fun _ => ?_) (fun _ => ?_)
      · refine VJ.iconst (v := 0) C dX2_isLiving_27 (by decide) ?_
        exact VJ.zret C rfl hret rfl rfl dX2_isLiving_28
      · refine VJ.iconst (v := 1) C dX2_isLiving_23 (by decide) ?_
        refine VJ.goto C 28 dX2_isLiving_24 (by decide) ?_
        exact VJ.zret C rfl hret rfl rfl dX2_isLiving_28

def f_X2_areTwoLiving (I : OI) (R : RI) (cm : Option Nat) (x1 : Int32) (x2 : Int32) : Option Int32 :=
  if x1 = x2 then (some 0) else (ob1 (f_X2_isLiving I R cm x1) (fun r1 => if r1 = 0 then (some 0) else (ob1 (f_X2_isLiving I R cm x2) (fun r2 => if r2 = 0 then (some 0) else (some 1)))))
abbrev rmX2_areTwoLiving : Room := { frames := 1, cells := 0, slots := 0, locals := 21 }
theorem hy_X2_areTwoLiving : yX2_areTwoLiving.cls ≠ "java/lang/invoke/MethodHandle" ∧ yX2_areTwoLiving.cls ≠ "java/lang/invoke/VarHandle" ∧ (parseMethodDescriptor yX2_areTwoLiving.desc).map (fun d => d.parameters.length) = some 2 := by decide +kernel
theorem hyV_X2_areTwoLiving : yX2_areTwoLiving.cls = RX2 ∧ yX2_areTwoLiving.cls ≠ "java/lang/invoke/MethodHandle" ∧ yX2_areTwoLiving.cls ≠ "java/lang/invoke/VarHandle" ∧ (parseMethodDescriptor yX2_areTwoLiving.desc).map (fun d => d.parameters.length) = some 2 := ⟨rfl, hy_X2_areTwoLiving⟩
set_option maxHeartbeats 8000000 in
set_option maxRecDepth 100000 in
theorem c_X2_areTwoLiving (l : Launch) (G : va_G) (cI cZ cQ cU cJ : ClassId) (o : Nat) (ad : Nat → Nat) (I : OI) (R : RI) (cm : Option Nat) (x1 : Int32) (x2 : Int32) (out : Int32) (hf : f_X2_areTwoLiving I R cm x1 x2 = some out) : Con l yX2_areTwoLiving wsX2_areTwoLiving rmX2_areTwoLiving G vwCl (tys cI cZ cQ cU cJ) nws [.ref o, .int x1, .int x2] (pf [lW cI cZ o ad I R cm]) (some (.int out)) (pf [lW cI cZ o ad I R cm]) := by
  refine con_of (rv := fun out : Int32 => some (.int out)) (Wd := fun out : Int32 => pf [lW cI cZ o ad I R cm]) (maxL := 3) (own := RX2) rfl (plainFor_of_name (by decide +kernel)) rfl (Nat.le_of_ble_eq_true rfl) ?_ hf
  intro p e s m args below meth c A C hret hname
  unfold f_X2_areTwoLiving
  refine VJ.iload_n C 1 dX2_areTwoLiving_0 rfl ?_
  refine VJ.iload_n C 2 dX2_areTwoLiving_1 rfl ?_
  refine VJ.icmp_eq C 25 dX2_areTwoLiving_2 (by decide) (fun _ => ?_) (fun _ => ?_)
  · refine VJ.iconst (v := 0) C dX2_areTwoLiving_25 (by decide) ?_
    exact VJ.zret C rfl hret rfl rfl dX2_areTwoLiving_26
  · refine VJ.aload_n C 0 dX2_areTwoLiving_5 rfl ?_
    refine VJ.iload_n C 1 dX2_areTwoLiving_6 rfl ?_
    refine VJ.callV1 C [.int x1] (pf [lW cI cZ o ad I R cm]) ([]) (fun r1 => some (.int r1)) (fun r1 => pf [lW cI cZ o ad I R cm]) (fun r1 => pf [lW cI cZ o ad I R cm]) (fun r1 => [.int r1]) 0 0 (fun _ h9 => c_X2_isLiving l G cI cZ cQ cU cJ o ad I R cm x1 _ h9) (vj_p0 _) (fun _ => vj_p0' _) 0 rfl rfl (cwV 1 C.1.2.2.2.2 gX2_areTwoLiving_X2_isLiving rfl rfl rfl hyV_X2_isLiving ⟨Nat.le_of_ble_eq_true rfl, Nat.le_of_ble_eq_true rfl⟩) rfl rfl (fun _ => rfl) (Nat.le_of_ble_eq_true rfl) dX2_areTwoLiving_7 ⟨Nat.le_of_ble_eq_true rfl, Nat.le_of_ble_eq_true rfl⟩ ⟨rfl, rfl⟩ (fun r1 => ?_)
    refine VJ.if_eq C 25 dX2_areTwoLiving_10 (by decide) (fun _ => ?_) (fun _ => ?_)
    · refine VJ.iconst (v := 0) C dX2_areTwoLiving_25 (by decide) ?_
      exact VJ.zret C rfl hret rfl rfl dX2_areTwoLiving_26
    · refine VJ.aload_n C 0 dX2_areTwoLiving_13 rfl ?_
      refine VJ.iload_n C 2 dX2_areTwoLiving_14 rfl ?_
      refine VJ.callV1 C [.int x2] (pf [lW cI cZ o ad I R cm]) ([]) (fun r2 => some (.int r2)) (fun r2 => pf [lW cI cZ o ad I R cm]) (fun r2 => pf [lW cI cZ o ad I R cm]) (fun r2 => [.int r2]) 0 0 (fun _ h9 => c_X2_isLiving l G cI cZ cQ cU cJ o ad I R cm x2 _ h9) (vj_p0 _) (fun _ => vj_p0' _) 0 rfl rfl (cwV 1 C.1.2.2.2.2 gX2_areTwoLiving_X2_isLiving rfl rfl rfl hyV_X2_isLiving ⟨Nat.le_of_ble_eq_true rfl, Nat.le_of_ble_eq_true rfl⟩) rfl rfl (fun _ => rfl) (Nat.le_of_ble_eq_true rfl) dX2_areTwoLiving_15 ⟨Nat.le_of_ble_eq_true rfl, Nat.le_of_ble_eq_true rfl⟩ ⟨rfl, rfl⟩ (fun r2 => ?_)
      refine VJ.if_eq C 25 dX2_areTwoLiving_18 (by decide) (fun _ => ?_) (fun _ => ?_)
      · refine VJ.iconst (v := 0) C dX2_areTwoLiving_25 (by decide) ?_
        exact VJ.zret C rfl hret rfl rfl dX2_areTwoLiving_26
      · refine VJ.iconst (v := 1) C dX2_areTwoLiving_21 (by decide) ?_
        refine VJ.goto C 26 dX2_areTwoLiving_22 (by decide) ?_
        exact VJ.zret C rfl hret rfl rfl dX2_areTwoLiving_26

def f_X2_isBorn (I : OI) (R : RI) (cm : Option Nat) (x1 : Int32) : Option Int32 :=
  ol (atv 24 (R 1) x1) (fun v1 => if v1 = 1 then (some 1) else (if v1 = 2 then (some 1) else (some 0)))
abbrev rmX2_isBorn : Room := { frames := 1, cells := 0, slots := 0, locals := 21 }
theorem in_X2_isBorn_X2 : ∀ w ∈ u_ws RX2 TX2 13, w ∈ wsX2_isBorn := in_of 5 rfl
theorem hy_X2_isBorn : yX2_isBorn.cls ≠ "java/lang/invoke/MethodHandle" ∧ yX2_isBorn.cls ≠ "java/lang/invoke/VarHandle" ∧ (parseMethodDescriptor yX2_isBorn.desc).map (fun d => d.parameters.length) = some 1 := by decide +kernel
theorem hyV_X2_isBorn : yX2_isBorn.cls = RX2 ∧ yX2_isBorn.cls ≠ "java/lang/invoke/MethodHandle" ∧ yX2_isBorn.cls ≠ "java/lang/invoke/VarHandle" ∧ (parseMethodDescriptor yX2_isBorn.desc).map (fun d => d.parameters.length) = some 1 := ⟨rfl, hy_X2_isBorn⟩
set_option maxHeartbeats 8000000 in
set_option maxRecDepth 100000 in
theorem c_X2_isBorn (l : Launch) (G : va_G) (cI cZ cQ cU cJ : ClassId) (o : Nat) (ad : Nat → Nat) (I : OI) (R : RI) (cm : Option Nat) (x1 : Int32) (out : Int32) (hf : f_X2_isBorn I R cm x1 = some out) : Con l yX2_isBorn wsX2_isBorn rmX2_isBorn G vwCl (tys cI cZ cQ cU cJ) nws [.ref o, .int x1] (pf [lW cI cZ o ad I R cm]) (some (.int out)) (pf [lW cI cZ o ad I R cm]) := by
  refine con_of (rv := fun out : Int32 => some (.int out)) (Wd := fun out : Int32 => pf [lW cI cZ o ad I R cm]) (maxL := 3) (own := RX2) rfl (plainFor_of_name (by decide +kernel)) rfl (Nat.le_of_ble_eq_true rfl) ?_ hf
  intro p e s m args below meth c A C hret hname
  unfold f_X2_isBorn
  refine VJ.aload_n C 0 dX2_isBorn_0 rfl ?_
  refine VJ.get (C0 := RX2) (T := TX2) (N := 13) (ci := 2) C in_X2_isBorn_X2 0 rfl rfl 1 (Nat.le_of_ble_eq_true rfl) (C.1.2.2.2.2 _ (List.mem_of_getElem? (i := 1) rfl)) (fun _ h9 => h9) (v := .ref (ad 1)) rfl dX2_isBorn_1 ?_
  refine VJ.iload_n C 1 dX2_isBorn_4 rfl ?_
  refine VJ.atSN (q0 := 2) C rfl (c_X5_att l G cI cZ cQ cU cJ (ad 1) 24 (Nat.le_of_ble_eq_true rfl) (R 1) x1) (⟨va_cnB 2 C.1.2.2.2.2 gX2_isBorn_X5_at_n116 rfl rfl rfl (C.nestM (List.mem_of_getElem? (i := 35) rfl)) (C.1.2.2.2.2 _ (List.mem_of_getElem? (i := 3) rfl)) hy_X5_at ⟨Nat.le_of_ble_eq_true rfl, Nat.le_of_ble_eq_true rfl⟩, (C.1.2.2.2.2 _ (List.mem_of_getElem? (i := 2) rfl)), trivial⟩) rfl (Nat.le_of_ble_eq_true rfl) dX2_isBorn_5 ⟨Nat.le_of_ble_eq_true rfl, Nat.le_of_ble_eq_true rfl⟩ ⟨rfl, rfl⟩ ?_
  refine VJ.topi C (fun v1 => ?_)
  refine VJ.istore_n C [(2, .int v1), (0, .ref o), (1, .int x1)] dX2_isBorn_8 (Nat.le_of_ble_eq_true rfl) rfl ?_
  refine VJ.iload_n C 0 dX2_isBorn_9 rfl ?_
  refine VJ.iconst (v := 1) C dX2_isBorn_10 (by decide) ?_
  refine VJ.icmp_eq C 19 dX2_isBorn_11 (by decide) (fun _ => ?_) (fun _ => ?_)
  · refine VJ.iconst (v := 1) C dX2_isBorn_19 (by decide) ?_
    refine VJ.goto C 24 dX2_isBorn_20 (by decide) ?_
    exact VJ.zret C rfl hret rfl rfl dX2_isBorn_24
  · refine VJ.iload_n C 0 dX2_isBorn_14 rfl ?_
    refine VJ.iconst (v := 2) C dX2_isBorn_15 (by decide) ?_
    refine VJ.icmp_ne C 23 dX2_isBorn_16 (by decide) (fun _ => ?_) (fun _ => ?_)
    · refine VJ.iconst (v := 0) C dX2_isBorn_23 (by decide) ?_
      exact VJ.zret C rfl hret rfl rfl dX2_isBorn_24
    · refine VJ.iconst (v := 1) C dX2_isBorn_19 (by decide) ?_
      refine VJ.goto C 24 dX2_isBorn_20 (by decide) ?_
      exact VJ.zret C rfl hret rfl rfl dX2_isBorn_24

def f_X2_dwellingOf (I : OI) (R : RI) (cm : Option Nat) (x1 : Int32) : Option Int32 :=
  some (atv 24 (R 2) x1)
abbrev rmX2_dwellingOf : Room := { frames := 1, cells := 0, slots := 0, locals := 21 }
theorem in_X2_dwellingOf_X2 : ∀ w ∈ u_ws RX2 TX2 13, w ∈ wsX2_dwellingOf := in_of 5 rfl
theorem hy_X2_dwellingOf : yX2_dwellingOf.cls ≠ "java/lang/invoke/MethodHandle" ∧ yX2_dwellingOf.cls ≠ "java/lang/invoke/VarHandle" ∧ (parseMethodDescriptor yX2_dwellingOf.desc).map (fun d => d.parameters.length) = some 1 := by decide +kernel
theorem hyV_X2_dwellingOf : yX2_dwellingOf.cls = RX2 ∧ yX2_dwellingOf.cls ≠ "java/lang/invoke/MethodHandle" ∧ yX2_dwellingOf.cls ≠ "java/lang/invoke/VarHandle" ∧ (parseMethodDescriptor yX2_dwellingOf.desc).map (fun d => d.parameters.length) = some 1 := ⟨rfl, hy_X2_dwellingOf⟩
set_option maxHeartbeats 8000000 in
set_option maxRecDepth 100000 in
theorem c_X2_dwellingOf (l : Launch) (G : va_G) (cI cZ cQ cU cJ : ClassId) (o : Nat) (ad : Nat → Nat) (I : OI) (R : RI) (cm : Option Nat) (x1 : Int32) (out : Int32) (hf : f_X2_dwellingOf I R cm x1 = some out) : Con l yX2_dwellingOf wsX2_dwellingOf rmX2_dwellingOf G vwCl (tys cI cZ cQ cU cJ) nws [.ref o, .int x1] (pf [lW cI cZ o ad I R cm]) (some (.int out)) (pf [lW cI cZ o ad I R cm]) := by
  refine con_of (rv := fun out : Int32 => some (.int out)) (Wd := fun out : Int32 => pf [lW cI cZ o ad I R cm]) (maxL := 2) (own := RX2) rfl (plainFor_of_name (by decide +kernel)) rfl (Nat.le_of_ble_eq_true rfl) ?_ hf
  intro p e s m args below meth c A C hret hname
  unfold f_X2_dwellingOf
  refine VJ.aload_n C 0 dX2_dwellingOf_0 rfl ?_
  refine VJ.get (C0 := RX2) (T := TX2) (N := 13) (ci := 2) C in_X2_dwellingOf_X2 0 rfl rfl 2 (Nat.le_of_ble_eq_true rfl) (C.1.2.2.2.2 _ (List.mem_of_getElem? (i := 1) rfl)) (fun _ h9 => h9) (v := .ref (ad 2)) rfl dX2_dwellingOf_1 ?_
  refine VJ.iload_n C 1 dX2_dwellingOf_4 rfl ?_
  refine VJ.atSN (q0 := 3) C rfl (c_X5_att l G cI cZ cQ cU cJ (ad 2) 24 (Nat.le_of_ble_eq_true rfl) (R 2) x1) (⟨va_cnB 2 C.1.2.2.2.2 gX2_dwellingOf_X5_at_n116 rfl rfl rfl (C.nestM (List.mem_of_getElem? (i := 35) rfl)) (C.1.2.2.2.2 _ (List.mem_of_getElem? (i := 3) rfl)) hy_X5_at ⟨Nat.le_of_ble_eq_true rfl, Nat.le_of_ble_eq_true rfl⟩, (C.1.2.2.2.2 _ (List.mem_of_getElem? (i := 2) rfl)), trivial⟩) rfl (Nat.le_of_ble_eq_true rfl) dX2_dwellingOf_5 ⟨Nat.le_of_ble_eq_true rfl, Nat.le_of_ble_eq_true rfl⟩ ⟨rfl, rfl⟩ ?_
  exact VJ.iret C hret rfl rfl dX2_dwellingOf_8

def f_X2_areInOneDwelling (I : OI) (R : RI) (cm : Option Nat) (x1 : Int32) (x2 : Int32) : Option Int32 :=
  ob1 (f_X2_isLiving I R cm x1) (fun r1 => if r1 = 0 then (some 0) else (ob1 (f_X2_isLiving I R cm x2) (fun r2 => if r2 = 0 then (some 0) else (if (atv 24 (R 2) x1) = (atv 24 (R 2) x2) then (some 1) else (some 0)))))
abbrev rmX2_areInOneDwelling : Room := { frames := 1, cells := 0, slots := 0, locals := 21 }
theorem in_X2_areInOneDwelling_X2 : ∀ w ∈ u_ws RX2 TX2 13, w ∈ wsX2_areInOneDwelling := in_of 11 rfl
theorem hy_X2_areInOneDwelling : yX2_areInOneDwelling.cls ≠ "java/lang/invoke/MethodHandle" ∧ yX2_areInOneDwelling.cls ≠ "java/lang/invoke/VarHandle" ∧ (parseMethodDescriptor yX2_areInOneDwelling.desc).map (fun d => d.parameters.length) = some 2 := by decide +kernel
theorem hyV_X2_areInOneDwelling : yX2_areInOneDwelling.cls = RX2 ∧ yX2_areInOneDwelling.cls ≠ "java/lang/invoke/MethodHandle" ∧ yX2_areInOneDwelling.cls ≠ "java/lang/invoke/VarHandle" ∧ (parseMethodDescriptor yX2_areInOneDwelling.desc).map (fun d => d.parameters.length) = some 2 := ⟨rfl, hy_X2_areInOneDwelling⟩
set_option maxHeartbeats 8000000 in
set_option maxRecDepth 100000 in
theorem c_X2_areInOneDwelling (l : Launch) (G : va_G) (cI cZ cQ cU cJ : ClassId) (o : Nat) (ad : Nat → Nat) (I : OI) (R : RI) (cm : Option Nat) (x1 : Int32) (x2 : Int32) (out : Int32) (hf : f_X2_areInOneDwelling I R cm x1 x2 = some out) : Con l yX2_areInOneDwelling wsX2_areInOneDwelling rmX2_areInOneDwelling G vwCl (tys cI cZ cQ cU cJ) nws [.ref o, .int x1, .int x2] (pf [lW cI cZ o ad I R cm]) (some (.int out)) (pf [lW cI cZ o ad I R cm]) := by
  refine con_of (rv := fun out : Int32 => some (.int out)) (Wd := fun out : Int32 => pf [lW cI cZ o ad I R cm]) (maxL := 3) (own := RX2) rfl (plainFor_of_name (by decide +kernel)) rfl (Nat.le_of_ble_eq_true rfl) ?_ hf
  intro p e s m args below meth c A C hret hname
  unfold f_X2_areInOneDwelling
  refine VJ.aload_n C 0 dX2_areInOneDwelling_0 rfl ?_
  refine VJ.iload_n C 1 dX2_areInOneDwelling_1 rfl ?_
  refine VJ.callV1 C [.int x1] (pf [lW cI cZ o ad I R cm]) ([]) (fun r1 => some (.int r1)) (fun r1 => pf [lW cI cZ o ad I R cm]) (fun r1 => pf [lW cI cZ o ad I R cm]) (fun r1 => [.int r1]) 0 0 (fun _ h9 => c_X2_isLiving l G cI cZ cQ cU cJ o ad I R cm x1 _ h9) (vj_p0 _) (fun _ => vj_p0' _) 0 rfl rfl (cwV 1 C.1.2.2.2.2 gX2_areInOneDwelling_X2_isLiving rfl rfl rfl hyV_X2_isLiving ⟨Nat.le_of_ble_eq_true rfl, Nat.le_of_ble_eq_true rfl⟩) rfl rfl (fun _ => rfl) (Nat.le_of_ble_eq_true rfl) dX2_areInOneDwelling_2 ⟨Nat.le_of_ble_eq_true rfl, Nat.le_of_ble_eq_true rfl⟩ ⟨rfl, rfl⟩ (fun r1 => ?_)
  refine VJ.if_eq C 39 dX2_areInOneDwelling_5 (by decide) (fun _ => ?_) (fun _ => ?_)
  · refine VJ.iconst (v := 0) C dX2_areInOneDwelling_39 (by decide) ?_
    exact VJ.zret C rfl hret rfl rfl dX2_areInOneDwelling_40
  · refine VJ.aload_n C 0 dX2_areInOneDwelling_8 rfl ?_
    refine VJ.iload_n C 2 dX2_areInOneDwelling_9 rfl ?_
    refine VJ.callV1 C [.int x2] (pf [lW cI cZ o ad I R cm]) ([]) (fun r2 => some (.int r2)) (fun r2 => pf [lW cI cZ o ad I R cm]) (fun r2 => pf [lW cI cZ o ad I R cm]) (fun r2 => [.int r2]) 0 0 (fun _ h9 => c_X2_isLiving l G cI cZ cQ cU cJ o ad I R cm x2 _ h9) (vj_p0 _) (fun _ => vj_p0' _) 0 rfl rfl (cwV 1 C.1.2.2.2.2 gX2_areInOneDwelling_X2_isLiving rfl rfl rfl hyV_X2_isLiving ⟨Nat.le_of_ble_eq_true rfl, Nat.le_of_ble_eq_true rfl⟩) rfl rfl (fun _ => rfl) (Nat.le_of_ble_eq_true rfl) dX2_areInOneDwelling_10 ⟨Nat.le_of_ble_eq_true rfl, Nat.le_of_ble_eq_true rfl⟩ ⟨rfl, rfl⟩ (fun r2 => ?_)
    refine VJ.if_eq C 39 dX2_areInOneDwelling_13 (by decide) (fun _ => ?_) (fun _ => ?_)
    · refine VJ.iconst (v := 0) C dX2_areInOneDwelling_39 (by decide) ?_
      exact VJ.zret C rfl hret rfl rfl dX2_areInOneDwelling_40
    · refine VJ.aload_n C 0 dX2_areInOneDwelling_16 rfl ?_
      refine VJ.get (C0 := RX2) (T := TX2) (N := 13) (ci := 2) C in_X2_areInOneDwelling_X2 0 rfl rfl 2 (Nat.le_of_ble_eq_true rfl) (C.1.2.2.2.2 _ (List.mem_of_getElem? (i := 1) rfl)) (fun _ h9 => h9) (v := .ref (ad 2)) rfl dX2_areInOneDwelling_17 ?_
      refine VJ.iload_n C 1 dX2_areInOneDwelling_20 rfl ?_
      refine VJ.atSN (q0 := 3) C rfl (c_X5_att l G cI cZ cQ cU cJ (ad 2) 24 (Nat.le_of_ble_eq_true rfl) (R 2) x1) (⟨va_cnB 2 C.1.2.2.2.2 gX2_areInOneDwelling_X5_at_n116 rfl rfl rfl (C.nestM (List.mem_of_getElem? (i := 35) rfl)) (C.1.2.2.2.2 _ (List.mem_of_getElem? (i := 9) rfl)) hy_X5_at ⟨Nat.le_of_ble_eq_true rfl, Nat.le_of_ble_eq_true rfl⟩, (C.1.2.2.2.2 _ (List.mem_of_getElem? (i := 8) rfl)), trivial⟩) rfl (Nat.le_of_ble_eq_true rfl) dX2_areInOneDwelling_21 ⟨Nat.le_of_ble_eq_true rfl, Nat.le_of_ble_eq_true rfl⟩ ⟨rfl, rfl⟩ ?_
      refine VJ.aload_n C 0 dX2_areInOneDwelling_24 rfl ?_
      refine VJ.get (C0 := RX2) (T := TX2) (N := 13) (ci := 2) C in_X2_areInOneDwelling_X2 0 rfl rfl 2 (Nat.le_of_ble_eq_true rfl) (C.1.2.2.2.2 _ (List.mem_of_getElem? (i := 1) rfl)) (fun _ h9 => h9) (v := .ref (ad 2)) rfl dX2_areInOneDwelling_25 ?_
      refine VJ.iload_n C 2 dX2_areInOneDwelling_28 rfl ?_
      refine VJ.atSN (q0 := 3) C rfl (c_X5_att l G cI cZ cQ cU cJ (ad 2) 24 (Nat.le_of_ble_eq_true rfl) (R 2) x2) (⟨va_cnB 2 C.1.2.2.2.2 gX2_areInOneDwelling_X5_at_n116 rfl rfl rfl (C.nestM (List.mem_of_getElem? (i := 35) rfl)) (C.1.2.2.2.2 _ (List.mem_of_getElem? (i := 9) rfl)) hy_X5_at ⟨Nat.le_of_ble_eq_true rfl, Nat.le_of_ble_eq_true rfl⟩, (C.1.2.2.2.2 _ (List.mem_of_getElem? (i := 8) rfl)), trivial⟩) rfl (Nat.le_of_ble_eq_true rfl) dX2_areInOneDwelling_29 ⟨Nat.le_of_ble_eq_true rfl, Nat.le_of_ble_eq_true rfl⟩ ⟨rfl, rfl⟩ ?_
      refine VJ.icmp_ne C 39 dX2_areInOneDwelling_32 (by decide) (fun _ => ?_) (fun _ => ?_)
      · refine VJ.iconst (v := 0) C dX2_areInOneDwelling_39 (by decide) ?_
        exact VJ.zret C rfl hret rfl rfl dX2_areInOneDwelling_40
      · refine VJ.iconst (v := 1) C dX2_areInOneDwelling_35 (by decide) ?_
        refine VJ.goto C 40 dX2_areInOneDwelling_36 (by decide) ?_
        exact VJ.zret C rfl hret rfl rfl dX2_areInOneDwelling_40

def f_X2_ageOf (I : OI) (R : RI) (cm : Option Nat) (x1 : Int32) : Option Int32 :=
  ob1 (f_X2_isLiving I R cm x1) (fun r1 => if r1 = 0 then (some (-1)) else (ob1 (f_J9_floorDiv_7cf53 ((I 0) - (atv 24 (R 7) x1)) 365) (fun r2 => some r2)))
abbrev rmX2_ageOf : Room := { frames := 1, cells := 0, slots := 0, locals := 22 }
theorem in_X2_ageOf_X2 : ∀ w ∈ u_ws RX2 TX2 13, w ∈ wsX2_ageOf := in_of 16 rfl
theorem hy_X2_ageOf : yX2_ageOf.cls ≠ "java/lang/invoke/MethodHandle" ∧ yX2_ageOf.cls ≠ "java/lang/invoke/VarHandle" ∧ (parseMethodDescriptor yX2_ageOf.desc).map (fun d => d.parameters.length) = some 1 := by decide +kernel
theorem hyV_X2_ageOf : yX2_ageOf.cls = RX2 ∧ yX2_ageOf.cls ≠ "java/lang/invoke/MethodHandle" ∧ yX2_ageOf.cls ≠ "java/lang/invoke/VarHandle" ∧ (parseMethodDescriptor yX2_ageOf.desc).map (fun d => d.parameters.length) = some 1 := ⟨rfl, hy_X2_ageOf⟩
set_option maxHeartbeats 8000000 in
set_option maxRecDepth 100000 in
theorem c_X2_ageOf (l : Launch) (G : va_G) (cI cZ cQ cU cJ : ClassId) (o : Nat) (ad : Nat → Nat) (I : OI) (R : RI) (cm : Option Nat) (x1 : Int32) (out : Int32) (hf : f_X2_ageOf I R cm x1 = some out) : Con l yX2_ageOf wsX2_ageOf rmX2_ageOf G vwCl (tys cI cZ cQ cU cJ) nws [.ref o, .int x1] (pf [lW cI cZ o ad I R cm]) (some (.int out)) (pf [lW cI cZ o ad I R cm]) := by
  refine con_of (rv := fun out : Int32 => some (.int out)) (Wd := fun out : Int32 => pf [lW cI cZ o ad I R cm]) (maxL := 2) (own := RX2) rfl (plainFor_of_name (by decide +kernel)) rfl (Nat.le_of_ble_eq_true rfl) ?_ hf
  intro p e s m args below meth c A C hret hname
  unfold f_X2_ageOf
  refine VJ.aload_n C 0 dX2_ageOf_0 rfl ?_
  refine VJ.iload_n C 1 dX2_ageOf_1 rfl ?_
  refine VJ.callV1 C [.int x1] (pf [lW cI cZ o ad I R cm]) ([]) (fun r1 => some (.int r1)) (fun r1 => pf [lW cI cZ o ad I R cm]) (fun r1 => pf [lW cI cZ o ad I R cm]) (fun r1 => [.int r1]) 0 0 (fun _ h9 => c_X2_isLiving l G cI cZ cQ cU cJ o ad I R cm x1 _ h9) (vj_p0 _) (fun _ => vj_p0' _) 0 rfl rfl (cwV 1 C.1.2.2.2.2 gX2_ageOf_X2_isLiving rfl rfl rfl hyV_X2_isLiving ⟨Nat.le_of_ble_eq_true rfl, Nat.le_of_ble_eq_true rfl⟩) rfl rfl (fun _ => rfl) (Nat.le_of_ble_eq_true rfl) dX2_ageOf_2 ⟨Nat.le_of_ble_eq_true rfl, Nat.le_of_ble_eq_true rfl⟩ ⟨rfl, rfl⟩ (fun r1 => ?_)
  refine VJ.if_eq C 30 dX2_ageOf_5 (by decide) (fun _ => ?_) (fun _ => ?_)
  · refine VJ.iconst (v := (-1)) C dX2_ageOf_30 (by decide) ?_
    exact VJ.iret C hret rfl rfl dX2_ageOf_31
  · refine VJ.aload_n C 0 dX2_ageOf_8 rfl ?_
    refine VJ.get (C0 := RX2) (T := TX2) (N := 13) (ci := 2) C in_X2_ageOf_X2 0 rfl rfl 10 (Nat.le_of_ble_eq_true rfl) (C.1.2.2.2.2 _ (List.mem_of_getElem? (i := 1) rfl)) (fun _ h9 => h9) (v := .int (I 0)) rfl dX2_ageOf_9 ?_
    refine VJ.aload_n C 0 dX2_ageOf_12 rfl ?_
    refine VJ.get (C0 := RX2) (T := TX2) (N := 13) (ci := 2) C in_X2_ageOf_X2 0 rfl rfl 7 (Nat.le_of_ble_eq_true rfl) (C.1.2.2.2.2 _ (List.mem_of_getElem? (i := 2) rfl)) (fun _ h9 => h9) (v := .ref (ad 7)) rfl dX2_ageOf_13 ?_
    refine VJ.iload_n C 1 dX2_ageOf_16 rfl ?_
    refine VJ.atSN (q0 := 8) C rfl (c_X5_att l G cI cZ cQ cU cJ (ad 7) 24 (Nat.le_of_ble_eq_true rfl) (R 7) x1) (⟨va_cnB 2 C.1.2.2.2.2 gX2_ageOf_X5_at_n116 rfl rfl rfl (C.nestM (List.mem_of_getElem? (i := 35) rfl)) (C.1.2.2.2.2 _ (List.mem_of_getElem? (i := 10) rfl)) hy_X5_at ⟨Nat.le_of_ble_eq_true rfl, Nat.le_of_ble_eq_true rfl⟩, (C.1.2.2.2.2 _ (List.mem_of_getElem? (i := 9) rfl)), trivial⟩) rfl (Nat.le_of_ble_eq_true rfl) dX2_ageOf_17 ⟨Nat.le_of_ble_eq_true rfl, Nat.le_of_ble_eq_true rfl⟩ ⟨rfl, rfl⟩ ?_
    refine VJ.isub C dX2_ageOf_20 ?_
    refine VJ.sipush (v := 365) C dX2_ageOf_21 (by decide) ?_
    refine VJ.callS1 C [.int ((I 0) - (atv 24 (R 7) x1)), .int 365] (pf []) (pf [lW cI cZ o ad I R cm]) (fun r2 => some (.int r2)) (fun r2 => pf []) (fun r2 => pf [lW cI cZ o ad I R cm]) (fun r2 => [.int r2]) 0 0 (fun _ h9 => c_J9_floorDiv_7cf53 l G cI cZ cQ cU cJ ((I 0) - (atv 24 (R 7) x1)) 365 _ h9) (vj_pn _) (fun _ => vj_pn' _) (va_cwS 2 C.1.2.2.2.2 gX2_ageOf_J9_floorDiv_7cf53 rfl rfl rfl hy_J9_floorDiv_7cf53 ⟨Nat.le_of_ble_eq_true rfl, Nat.le_of_ble_eq_true rfl⟩) rfl rfl (fun _ => rfl) (Nat.le_of_ble_eq_true rfl) dX2_ageOf_24 ⟨Nat.le_of_ble_eq_true rfl, Nat.le_of_ble_eq_true rfl⟩ ⟨rfl, rfl⟩ (fun r2 => ?_)
    refine VJ.goto C 31 dX2_ageOf_27 (by decide) ?_
    exact VJ.iret C hret rfl rfl dX2_ageOf_31

set_option maxHeartbeats 4000000 in
set_option maxRecDepth 100000 in
def f_X2_beBorn_j30 (AL : List Nat) (I : OI) (cm : Option Nat) (AI : Nat → OI) (AR : Nat → OO) (R : RI) (x1 : Int32) (x3 : Nat) (y0 : Int32) : Option RI :=
  ol (va_up R 1 (putv 24 (R 1) x1 1)) (fun R1 => om x3 AL (ol (va_up R1 2 (putv 24 (R1 2) x1 (AI x3 5))) (fun R3 => om x3 AL (ol (va_up R3 3 (putv 24 (R3 3) x1 (AI x3 6))) (fun R5 => ol (va_up R5 5 (putv 24 (R5 5) x1 y0)) (fun R6 => ol (va_up R6 6 (putv 24 (R6 6) x1 y0)) (fun R7 => om x3 AL (ol (va_up R7 7 (putv 24 (R7 7) x1 (AI x3 2))) (fun R9 => some R9)))))))))
def f_X2_beBorn (AL : List Nat) (I : OI) (cm : Option Nat) (AI : Nat → OI) (AR : Nat → OO) (R : RI) (x1 : Int32) (x2 : Int32) (x3 : Nat) : Option RI :=
  if (atv 24 (R 1) x1) = 0 then (if x2 = x1 then (f_X2_beBorn_j30 AL I cm AI AR R x1 x3 (-1)) else (ob1 (f_X2_isLiving I R cm x2) (fun r10 => if r10 = 0 then (f_X2_beBorn_j30 AL I cm AI AR R x1 x3 (-1)) else (f_X2_beBorn_j30 AL I cm AI AR R x1 x3 x2)))) else (some R)
abbrev rmX2_beBorn : Room := { frames := 1, cells := 0, slots := 0, locals := 22 }
theorem in_X2_beBorn_X0 : ∀ w ∈ u_ws RX0 TX0 10, w ∈ wsX2_beBorn := in_of 30 rfl
theorem in_X2_beBorn_X2 : ∀ w ∈ u_ws RX2 TX2 13, w ∈ wsX2_beBorn := in_of 17 rfl
theorem hy_X2_beBorn : yX2_beBorn.cls ≠ "java/lang/invoke/MethodHandle" ∧ yX2_beBorn.cls ≠ "java/lang/invoke/VarHandle" ∧ (parseMethodDescriptor yX2_beBorn.desc).map (fun d => d.parameters.length) = some 3 := by decide +kernel
theorem hyV_X2_beBorn : yX2_beBorn.cls = RX2 ∧ yX2_beBorn.cls ≠ "java/lang/invoke/MethodHandle" ∧ yX2_beBorn.cls ≠ "java/lang/invoke/VarHandle" ∧ (parseMethodDescriptor yX2_beBorn.desc).map (fun d => d.parameters.length) = some 3 := ⟨rfl, hy_X2_beBorn⟩
set_option maxHeartbeats 8000000 in
set_option maxRecDepth 100000 in
theorem c_X2_beBorn (l : Launch) (G : va_G) (cI cZ cQ cU cJ : ClassId) (o : Nat) (ad : Nat → Nat) (I : OI) (R : RI) (cm : Option Nat) (AL : List Nat) (AI : Nat → OI) (AR : Nat → OO) (x1 : Int32) (x2 : Int32) (x3 : Nat) (out : RI) (hf : f_X2_beBorn AL I cm AI AR R x1 x2 x3 = some out) : Con l yX2_beBorn wsX2_beBorn rmX2_beBorn G vwCl (tys cI cZ cQ cU cJ) nws [.ref o, .int x1, .int x2, .ref x3] (pf [lW cI cZ o ad I R cm, pW AL AI AR]) (none) (pf [lW cI cZ o ad I out cm, pW AL AI AR]) := by
  refine con_of (rv := fun out : RI => none) (Wd := fun out : RI => pf [lW cI cZ o ad I out cm, pW AL AI AR]) (maxL := 5) (own := RX2) rfl (plainFor_of_name (by decide +kernel)) rfl (Nat.le_of_ble_eq_true rfl) ?_ hf
  intro p e s m args below meth c A C hret hname
  have j30 : ∀ (R : RI) (x1 : Int32) (x3 : Nat) (y0 : Int32), VJ p l e rmX2_beBorn s m args below meth c 5 G vwCl A (QR below G vwCl A args s rmX2_beBorn.cells rmX2_beBorn.slots (fun out : RI => none) (fun out : RI => pf [lW cI cZ o ad I out cm, pW AL AI AR])) 0 0 (f_X2_beBorn_j30 AL I cm AI AR  R x1 x3 y0) (pf [lW cI cZ o ad I R cm, pW AL AI AR]) 30 [(0, .ref o), (1, .int x1), (3, .ref x3)] [.int y0] := by
    intro  R x1 x3 y0
    unfold f_X2_beBorn_j30
    refine VJ.istore C [(4, .int y0), (0, .ref o), (1, .int x1), (3, .ref x3)] dX2_beBorn_30 (Nat.le_of_ble_eq_true rfl) rfl ?_
    refine VJ.aload_n C 1 dX2_beBorn_32 rfl ?_
    refine VJ.get (C0 := RX2) (T := TX2) (N := 13) (ci := 2) C in_X2_beBorn_X2 0 rfl rfl 1 (Nat.le_of_ble_eq_true rfl) (C.1.2.2.2.2 _ (List.mem_of_getElem? (i := 1) rfl)) (fun _ h9 => h9) (v := .ref (ad 1)) rfl dX2_beBorn_33 ?_
    refine VJ.iload_n C 2 dX2_beBorn_36 rfl ?_
    refine VJ.iconst (v := 1) C dX2_beBorn_37 (by decide) ?_
    refine VJ.putSN (q0 := 2) C R 1 (fun R1 => pf [lW cI cZ o ad I R1 cm, pW AL AI AR]) rfl (fun _ => rfl) (c_X5_putt l G cI cZ cQ cU cJ (ad 1) 24 (Nat.le_of_ble_eq_true rfl) (R 1) x1 1) (⟨va_cnB 3 C.1.2.2.2.2 gX2_beBorn_X5_put_n112 rfl rfl rfl (C.nestM (List.mem_of_getElem? (i := 34) rfl)) (C.1.2.2.2.2 _ (List.mem_of_getElem? (i := 8) rfl)) hy_X5_put ⟨Nat.le_of_ble_eq_true rfl, Nat.le_of_ble_eq_true rfl⟩, (C.1.2.2.2.2 _ (List.mem_of_getElem? (i := 15) rfl)), trivial⟩) rfl (Nat.le_of_ble_eq_true rfl) dX2_beBorn_38 ⟨Nat.le_of_ble_eq_true rfl, Nat.le_of_ble_eq_true rfl⟩ ⟨rfl, rfl⟩ (fun R1 => ?_)
    refine VJ.aload_n C 1 dX2_beBorn_41 rfl ?_
    refine VJ.get (C0 := RX2) (T := TX2) (N := 13) (ci := 2) C in_X2_beBorn_X2 0 rfl rfl 2 (Nat.le_of_ble_eq_true rfl) (C.1.2.2.2.2 _ (List.mem_of_getElem? (i := 2) rfl)) (fun _ h9 => h9) (v := .ref (ad 2)) rfl dX2_beBorn_42 ?_
    refine VJ.iload_n C 2 dX2_beBorn_45 rfl ?_
    refine VJ.aload_n C 3 dX2_beBorn_46 rfl ?_
    refine VJ.rom (fun h9 => ?_)
    obtain ⟨p2, ep2⟩ := pool_at (ps := [lW cI cZ o ad I R1 cm, pW AL AI AR]) (List.mem_of_getElem? (i := 1) rfl) h9
    refine VJ.getN (C0 := RX0) (T := TX0) (N := 10) (ci := 0) C in_X2_beBorn_X0 p2 ep2 rfl 5 (Nat.le_of_ble_eq_true rfl) (C.nest (List.mem_of_getElem? (i := 14) rfl) rfl) (fun _ h9 => h9) rfl dX2_beBorn_47 ?_
    refine VJ.putSN (q0 := 3) C R1 2 (fun R3 => pf [lW cI cZ o ad I R3 cm, pW AL AI AR]) rfl (fun _ => rfl) (c_X5_putt l G cI cZ cQ cU cJ (ad 2) 24 (Nat.le_of_ble_eq_true rfl) (R1 2) x1 (AI x3 5)) (⟨va_cnB 3 C.1.2.2.2.2 gX2_beBorn_X5_put_n112 rfl rfl rfl (C.nestM (List.mem_of_getElem? (i := 34) rfl)) (C.1.2.2.2.2 _ (List.mem_of_getElem? (i := 8) rfl)) hy_X5_put ⟨Nat.le_of_ble_eq_true rfl, Nat.le_of_ble_eq_true rfl⟩, (C.1.2.2.2.2 _ (List.mem_of_getElem? (i := 15) rfl)), trivial⟩) rfl (Nat.le_of_ble_eq_true rfl) dX2_beBorn_50 ⟨Nat.le_of_ble_eq_true rfl, Nat.le_of_ble_eq_true rfl⟩ ⟨rfl, rfl⟩ (fun R3 => ?_)
    refine VJ.aload_n C 1 dX2_beBorn_53 rfl ?_
    refine VJ.get (C0 := RX2) (T := TX2) (N := 13) (ci := 2) C in_X2_beBorn_X2 0 rfl rfl 3 (Nat.le_of_ble_eq_true rfl) (C.1.2.2.2.2 _ (List.mem_of_getElem? (i := 3) rfl)) (fun _ h9 => h9) (v := .ref (ad 3)) rfl dX2_beBorn_54 ?_
    refine VJ.iload_n C 2 dX2_beBorn_57 rfl ?_
    refine VJ.aload_n C 3 dX2_beBorn_58 rfl ?_
    refine VJ.rom (fun h9 => ?_)
    obtain ⟨p4, ep4⟩ := pool_at (ps := [lW cI cZ o ad I R3 cm, pW AL AI AR]) (List.mem_of_getElem? (i := 1) rfl) h9
    refine VJ.getN (C0 := RX0) (T := TX0) (N := 10) (ci := 0) C in_X2_beBorn_X0 p4 ep4 rfl 6 (Nat.le_of_ble_eq_true rfl) (C.nest (List.mem_of_getElem? (i := 16) rfl) rfl) (fun _ h9 => h9) rfl dX2_beBorn_59 ?_
    refine VJ.putSN (q0 := 4) C R3 3 (fun R5 => pf [lW cI cZ o ad I R5 cm, pW AL AI AR]) rfl (fun _ => rfl) (c_X5_putt l G cI cZ cQ cU cJ (ad 3) 24 (Nat.le_of_ble_eq_true rfl) (R3 3) x1 (AI x3 6)) (⟨va_cnB 3 C.1.2.2.2.2 gX2_beBorn_X5_put_n112 rfl rfl rfl (C.nestM (List.mem_of_getElem? (i := 34) rfl)) (C.1.2.2.2.2 _ (List.mem_of_getElem? (i := 8) rfl)) hy_X5_put ⟨Nat.le_of_ble_eq_true rfl, Nat.le_of_ble_eq_true rfl⟩, (C.1.2.2.2.2 _ (List.mem_of_getElem? (i := 15) rfl)), trivial⟩) rfl (Nat.le_of_ble_eq_true rfl) dX2_beBorn_62 ⟨Nat.le_of_ble_eq_true rfl, Nat.le_of_ble_eq_true rfl⟩ ⟨rfl, rfl⟩ (fun R5 => ?_)
    refine VJ.aload_n C 1 dX2_beBorn_65 rfl ?_
    refine VJ.get (C0 := RX2) (T := TX2) (N := 13) (ci := 2) C in_X2_beBorn_X2 0 rfl rfl 5 (Nat.le_of_ble_eq_true rfl) (C.1.2.2.2.2 _ (List.mem_of_getElem? (i := 4) rfl)) (fun _ h9 => h9) (v := .ref (ad 5)) rfl dX2_beBorn_66 ?_
    refine VJ.iload_n C 2 dX2_beBorn_69 rfl ?_
    refine VJ.iload C 0 dX2_beBorn_70 rfl ?_
    refine VJ.putSN (q0 := 6) C R5 5 (fun R6 => pf [lW cI cZ o ad I R6 cm, pW AL AI AR]) rfl (fun _ => rfl) (c_X5_putt l G cI cZ cQ cU cJ (ad 5) 24 (Nat.le_of_ble_eq_true rfl) (R5 5) x1 y0) (⟨va_cnB 3 C.1.2.2.2.2 gX2_beBorn_X5_put_n112 rfl rfl rfl (C.nestM (List.mem_of_getElem? (i := 34) rfl)) (C.1.2.2.2.2 _ (List.mem_of_getElem? (i := 8) rfl)) hy_X5_put ⟨Nat.le_of_ble_eq_true rfl, Nat.le_of_ble_eq_true rfl⟩, (C.1.2.2.2.2 _ (List.mem_of_getElem? (i := 15) rfl)), trivial⟩) rfl (Nat.le_of_ble_eq_true rfl) dX2_beBorn_72 ⟨Nat.le_of_ble_eq_true rfl, Nat.le_of_ble_eq_true rfl⟩ ⟨rfl, rfl⟩ (fun R6 => ?_)
    refine VJ.aload_n C 1 dX2_beBorn_75 rfl ?_
    refine VJ.get (C0 := RX2) (T := TX2) (N := 13) (ci := 2) C in_X2_beBorn_X2 0 rfl rfl 6 (Nat.le_of_ble_eq_true rfl) (C.1.2.2.2.2 _ (List.mem_of_getElem? (i := 5) rfl)) (fun _ h9 => h9) (v := .ref (ad 6)) rfl dX2_beBorn_76 ?_
    refine VJ.iload_n C 2 dX2_beBorn_79 rfl ?_
    refine VJ.iload C 0 dX2_beBorn_80 rfl ?_
    refine VJ.putSN (q0 := 7) C R6 6 (fun R7 => pf [lW cI cZ o ad I R7 cm, pW AL AI AR]) rfl (fun _ => rfl) (c_X5_putt l G cI cZ cQ cU cJ (ad 6) 24 (Nat.le_of_ble_eq_true rfl) (R6 6) x1 y0) (⟨va_cnB 3 C.1.2.2.2.2 gX2_beBorn_X5_put_n112 rfl rfl rfl (C.nestM (List.mem_of_getElem? (i := 34) rfl)) (C.1.2.2.2.2 _ (List.mem_of_getElem? (i := 8) rfl)) hy_X5_put ⟨Nat.le_of_ble_eq_true rfl, Nat.le_of_ble_eq_true rfl⟩, (C.1.2.2.2.2 _ (List.mem_of_getElem? (i := 15) rfl)), trivial⟩) rfl (Nat.le_of_ble_eq_true rfl) dX2_beBorn_82 ⟨Nat.le_of_ble_eq_true rfl, Nat.le_of_ble_eq_true rfl⟩ ⟨rfl, rfl⟩ (fun R7 => ?_)
    refine VJ.aload_n C 1 dX2_beBorn_85 rfl ?_
    refine VJ.get (C0 := RX2) (T := TX2) (N := 13) (ci := 2) C in_X2_beBorn_X2 0 rfl rfl 7 (Nat.le_of_ble_eq_true rfl) (C.1.2.2.2.2 _ (List.mem_of_getElem? (i := 6) rfl)) (fun _ h9 => h9) (v := .ref (ad 7)) rfl dX2_beBorn_86 ?_
    refine VJ.iload_n C 2 dX2_beBorn_89 rfl ?_
    refine VJ.aload_n C 3 dX2_beBorn_90 rfl ?_
    refine VJ.rom (fun h9 => ?_)
    obtain ⟨p8, ep8⟩ := pool_at (ps := [lW cI cZ o ad I R7 cm, pW AL AI AR]) (List.mem_of_getElem? (i := 1) rfl) h9
    refine VJ.getN (C0 := RX0) (T := TX0) (N := 10) (ci := 0) C in_X2_beBorn_X0 p8 ep8 rfl 2 (Nat.le_of_ble_eq_true rfl) (C.nest (List.mem_of_getElem? (i := 8) rfl) rfl) (fun _ h9 => h9) rfl dX2_beBorn_91 ?_
    refine VJ.putSN (q0 := 8) C R7 7 (fun R9 => pf [lW cI cZ o ad I R9 cm, pW AL AI AR]) rfl (fun _ => rfl) (c_X5_putt l G cI cZ cQ cU cJ (ad 7) 24 (Nat.le_of_ble_eq_true rfl) (R7 7) x1 (AI x3 2)) (⟨va_cnB 3 C.1.2.2.2.2 gX2_beBorn_X5_put_n112 rfl rfl rfl (C.nestM (List.mem_of_getElem? (i := 34) rfl)) (C.1.2.2.2.2 _ (List.mem_of_getElem? (i := 8) rfl)) hy_X5_put ⟨Nat.le_of_ble_eq_true rfl, Nat.le_of_ble_eq_true rfl⟩, (C.1.2.2.2.2 _ (List.mem_of_getElem? (i := 15) rfl)), trivial⟩) rfl (Nat.le_of_ble_eq_true rfl) dX2_beBorn_94 ⟨Nat.le_of_ble_eq_true rfl, Nat.le_of_ble_eq_true rfl⟩ ⟨rfl, rfl⟩ (fun R9 => ?_)
    exact VJ.vret C hret rfl rfl dX2_beBorn_97
  unfold f_X2_beBorn
  refine VJ.aload_n C 0 dX2_beBorn_0 rfl ?_
  refine VJ.get (C0 := RX2) (T := TX2) (N := 13) (ci := 2) C in_X2_beBorn_X2 0 rfl rfl 1 (Nat.le_of_ble_eq_true rfl) (C.1.2.2.2.2 _ (List.mem_of_getElem? (i := 1) rfl)) (fun _ h9 => h9) (v := .ref (ad 1)) rfl dX2_beBorn_1 ?_
  refine VJ.iload_n C 1 dX2_beBorn_4 rfl ?_
  refine VJ.atSN (q0 := 2) C rfl (c_X5_att l G cI cZ cQ cU cJ (ad 1) 24 (Nat.le_of_ble_eq_true rfl) (R 1) x1) (⟨va_cnB 2 C.1.2.2.2.2 gX2_beBorn_X5_at_n116 rfl rfl rfl (C.nestM (List.mem_of_getElem? (i := 35) rfl)) (C.1.2.2.2.2 _ (List.mem_of_getElem? (i := 8) rfl)) hy_X5_at ⟨Nat.le_of_ble_eq_true rfl, Nat.le_of_ble_eq_true rfl⟩, (C.1.2.2.2.2 _ (List.mem_of_getElem? (i := 7) rfl)), trivial⟩) rfl (Nat.le_of_ble_eq_true rfl) dX2_beBorn_5 ⟨Nat.le_of_ble_eq_true rfl, Nat.le_of_ble_eq_true rfl⟩ ⟨rfl, rfl⟩ ?_
  refine VJ.if_eq C 12 dX2_beBorn_8 (by decide) (fun _ => ?_) (fun _ => ?_)
  · refine VJ.iload_n C 2 dX2_beBorn_12 rfl ?_
    refine VJ.iload_n C 1 dX2_beBorn_13 rfl ?_
    refine VJ.icmp_eq C 29 dX2_beBorn_14 (by decide) (fun _ => ?_) (fun _ => ?_)
    · refine VJ.iconst (v := (-1)) C dX2_beBorn_29 (by decide) ?_
      refine VJ.sub [0, 1, 3] rfl ?_
      exact j30 R x1 x3 (-1)
    · refine VJ.aload_n C 0 dX2_beBorn_17 rfl ?_
      refine VJ.iload_n C 2 dX2_beBorn_18 rfl ?_
      refine VJ.callV1 C [.int x2] (pf [lW cI cZ o ad I R cm]) (pf [pW AL AI AR]) (fun r10 => some (.int r10)) (fun r10 => pf [lW cI cZ o ad I R cm]) (fun r10 => pf [lW cI cZ o ad I R cm, pW AL AI AR]) (fun r10 => [.int r10]) 0 0 (fun _ h9 => c_X2_isLiving l G cI cZ cQ cU cJ o ad I R cm x2 _ h9) (vj_pf 2 [0, 1] rfl rfl dp_0_1) (fun _ => (vj_pf 2 [0, 1] rfl rfl dp_0_1).symm) 0 rfl rfl (cwV 1 C.1.2.2.2.2 gX2_beBorn_X2_isLiving rfl rfl rfl hyV_X2_isLiving ⟨Nat.le_of_ble_eq_true rfl, Nat.le_of_ble_eq_true rfl⟩) rfl rfl (fun _ => rfl) (Nat.le_of_ble_eq_true rfl) dX2_beBorn_19 ⟨Nat.le_of_ble_eq_true rfl, Nat.le_of_ble_eq_true rfl⟩ ⟨rfl, rfl⟩ (fun r10 => ?_)
      refine VJ.if_eq C 29 dX2_beBorn_22 (by decide) (fun _ => ?_) (fun _ => ?_)
      · refine VJ.iconst (v := (-1)) C dX2_beBorn_29 (by decide) ?_
        refine VJ.sub [0, 1, 3] rfl ?_
        exact j30 R x1 x3 (-1)
      · refine VJ.iload_n C 2 dX2_beBorn_25 rfl ?_
        refine VJ.goto C 30 dX2_beBorn_26 (by decide) ?_
        refine VJ.sub [0, 1, 3] rfl ?_
        exact j30 R x1 x3 x2
  · exact VJ.vret C hret rfl rfl dX2_beBorn_11

def f_X2_bond (I : OI) (cm : Option Nat) (R : RI) (x1 : Int32) (x2 : Int32) : Option RI :=
  ob1 (f_X2_areTwoLiving I R cm x1 x2) (fun r1 => if r1 = 0 then (some R) else (if (atv 24 (R 4) x1) = (-1) then (if (atv 24 (R 4) x2) = (-1) then (ol (va_up R 4 (putv 24 (R 4) x1 x2)) (fun R2 => ol (va_up R2 4 (putv 24 (R2 4) x2 x1)) (fun R3 => some R3))) else (some R)) else (some R)))
abbrev rmX2_bond : Room := { frames := 2, cells := 0, slots := 0, locals := 43 }
theorem in_X2_bond_X2 : ∀ w ∈ u_ws RX2 TX2 13, w ∈ wsX2_bond := in_of 17 rfl
theorem hy_X2_bond : yX2_bond.cls ≠ "java/lang/invoke/MethodHandle" ∧ yX2_bond.cls ≠ "java/lang/invoke/VarHandle" ∧ (parseMethodDescriptor yX2_bond.desc).map (fun d => d.parameters.length) = some 2 := by decide +kernel
theorem hyV_X2_bond : yX2_bond.cls = RX2 ∧ yX2_bond.cls ≠ "java/lang/invoke/MethodHandle" ∧ yX2_bond.cls ≠ "java/lang/invoke/VarHandle" ∧ (parseMethodDescriptor yX2_bond.desc).map (fun d => d.parameters.length) = some 2 := ⟨rfl, hy_X2_bond⟩
set_option maxHeartbeats 8000000 in
set_option maxRecDepth 100000 in
theorem c_X2_bond (l : Launch) (G : va_G) (cI cZ cQ cU cJ : ClassId) (o : Nat) (ad : Nat → Nat) (I : OI) (R : RI) (cm : Option Nat) (x1 : Int32) (x2 : Int32) (out : RI) (hf : f_X2_bond I cm R x1 x2 = some out) : Con l yX2_bond wsX2_bond rmX2_bond G vwCl (tys cI cZ cQ cU cJ) nws [.ref o, .int x1, .int x2] (pf [lW cI cZ o ad I R cm]) (none) (pf [lW cI cZ o ad I out cm]) := by
  refine con_of (rv := fun out : RI => none) (Wd := fun out : RI => pf [lW cI cZ o ad I out cm]) (maxL := 3) (own := RX2) rfl (plainFor_of_name (by decide +kernel)) rfl (Nat.le_of_ble_eq_true rfl) ?_ hf
  intro p e s m args below meth c A C hret hname
  unfold f_X2_bond
  refine VJ.aload_n C 0 dX2_bond_0 rfl ?_
  refine VJ.iload_n C 1 dX2_bond_1 rfl ?_
  refine VJ.iload_n C 2 dX2_bond_2 rfl ?_
  refine VJ.callV1 C [.int x1, .int x2] (pf [lW cI cZ o ad I R cm]) ([]) (fun r1 => some (.int r1)) (fun r1 => pf [lW cI cZ o ad I R cm]) (fun r1 => pf [lW cI cZ o ad I R cm]) (fun r1 => [.int r1]) 0 0 (fun _ h9 => c_X2_areTwoLiving l G cI cZ cQ cU cJ o ad I R cm x1 x2 _ h9) (vj_p0 _) (fun _ => vj_p0' _) 0 rfl rfl (cwV 2 C.1.2.2.2.2 gX2_bond_X2_areTwoLiving rfl rfl rfl hyV_X2_areTwoLiving ⟨Nat.le_of_ble_eq_true rfl, Nat.le_of_ble_eq_true rfl⟩) rfl rfl (fun _ => rfl) (Nat.le_of_ble_eq_true rfl) dX2_bond_3 ⟨Nat.le_of_ble_eq_true rfl, Nat.le_of_ble_eq_true rfl⟩ ⟨rfl, rfl⟩ (fun r1 => ?_)
  refine VJ.if_eq C 51 dX2_bond_6 (by decide) (fun _ => ?_) (fun _ => ?_)
  · exact VJ.vret C hret rfl rfl dX2_bond_51
  · refine VJ.aload_n C 0 dX2_bond_9 rfl ?_
    refine VJ.get (C0 := RX2) (T := TX2) (N := 13) (ci := 2) C in_X2_bond_X2 0 rfl rfl 4 (Nat.le_of_ble_eq_true rfl) (C.1.2.2.2.2 _ (List.mem_of_getElem? (i := 1) rfl)) (fun _ h9 => h9) (v := .ref (ad 4)) rfl dX2_bond_10 ?_
    refine VJ.iload_n C 1 dX2_bond_13 rfl ?_
    refine VJ.atSN (q0 := 5) C rfl (c_X5_att l G cI cZ cQ cU cJ (ad 4) 24 (Nat.le_of_ble_eq_true rfl) (R 4) x1) (⟨va_cnB 2 C.1.2.2.2.2 gX2_bond_X5_at_n116 rfl rfl rfl (C.nestM (List.mem_of_getElem? (i := 35) rfl)) (C.1.2.2.2.2 _ (List.mem_of_getElem? (i := 13) rfl)) hy_X5_at ⟨Nat.le_of_ble_eq_true rfl, Nat.le_of_ble_eq_true rfl⟩, (C.1.2.2.2.2 _ (List.mem_of_getElem? (i := 12) rfl)), trivial⟩) rfl (Nat.le_of_ble_eq_true rfl) dX2_bond_14 ⟨Nat.le_of_ble_eq_true rfl, Nat.le_of_ble_eq_true rfl⟩ ⟨rfl, rfl⟩ ?_
    refine VJ.iconst (v := (-1)) C dX2_bond_17 (by decide) ?_
    refine VJ.icmp_ne C 51 dX2_bond_18 (by decide) (fun _ => ?_) (fun _ => ?_)
    · exact VJ.vret C hret rfl rfl dX2_bond_51
    · refine VJ.aload_n C 0 dX2_bond_21 rfl ?_
      refine VJ.get (C0 := RX2) (T := TX2) (N := 13) (ci := 2) C in_X2_bond_X2 0 rfl rfl 4 (Nat.le_of_ble_eq_true rfl) (C.1.2.2.2.2 _ (List.mem_of_getElem? (i := 1) rfl)) (fun _ h9 => h9) (v := .ref (ad 4)) rfl dX2_bond_22 ?_
      refine VJ.iload_n C 2 dX2_bond_25 rfl ?_
      refine VJ.atSN (q0 := 5) C rfl (c_X5_att l G cI cZ cQ cU cJ (ad 4) 24 (Nat.le_of_ble_eq_true rfl) (R 4) x2) (⟨va_cnB 2 C.1.2.2.2.2 gX2_bond_X5_at_n116 rfl rfl rfl (C.nestM (List.mem_of_getElem? (i := 35) rfl)) (C.1.2.2.2.2 _ (List.mem_of_getElem? (i := 13) rfl)) hy_X5_at ⟨Nat.le_of_ble_eq_true rfl, Nat.le_of_ble_eq_true rfl⟩, (C.1.2.2.2.2 _ (List.mem_of_getElem? (i := 12) rfl)), trivial⟩) rfl (Nat.le_of_ble_eq_true rfl) dX2_bond_26 ⟨Nat.le_of_ble_eq_true rfl, Nat.le_of_ble_eq_true rfl⟩ ⟨rfl, rfl⟩ ?_
      refine VJ.iconst (v := (-1)) C dX2_bond_29 (by decide) ?_
      refine VJ.icmp_ne C 51 dX2_bond_30 (by decide) (fun _ => ?_) (fun _ => ?_)
      · exact VJ.vret C hret rfl rfl dX2_bond_51
      · refine VJ.aload_n C 0 dX2_bond_33 rfl ?_
        refine VJ.get (C0 := RX2) (T := TX2) (N := 13) (ci := 2) C in_X2_bond_X2 0 rfl rfl 4 (Nat.le_of_ble_eq_true rfl) (C.1.2.2.2.2 _ (List.mem_of_getElem? (i := 1) rfl)) (fun _ h9 => h9) (v := .ref (ad 4)) rfl dX2_bond_34 ?_
        refine VJ.iload_n C 1 dX2_bond_37 rfl ?_
        refine VJ.iload_n C 2 dX2_bond_38 rfl ?_
        refine VJ.putSN (q0 := 5) C R 4 (fun R2 => pf [lW cI cZ o ad I R2 cm]) rfl (fun _ => rfl) (c_X5_putt l G cI cZ cQ cU cJ (ad 4) 24 (Nat.le_of_ble_eq_true rfl) (R 4) x1 x2) (⟨va_cnB 3 C.1.2.2.2.2 gX2_bond_X5_put_n112 rfl rfl rfl (C.nestM (List.mem_of_getElem? (i := 34) rfl)) (C.1.2.2.2.2 _ (List.mem_of_getElem? (i := 13) rfl)) hy_X5_put ⟨Nat.le_of_ble_eq_true rfl, Nat.le_of_ble_eq_true rfl⟩, (C.1.2.2.2.2 _ (List.mem_of_getElem? (i := 15) rfl)), trivial⟩) rfl (Nat.le_of_ble_eq_true rfl) dX2_bond_39 ⟨Nat.le_of_ble_eq_true rfl, Nat.le_of_ble_eq_true rfl⟩ ⟨rfl, rfl⟩ (fun R2 => ?_)
        refine VJ.aload_n C 0 dX2_bond_42 rfl ?_
        refine VJ.get (C0 := RX2) (T := TX2) (N := 13) (ci := 2) C in_X2_bond_X2 0 rfl rfl 4 (Nat.le_of_ble_eq_true rfl) (C.1.2.2.2.2 _ (List.mem_of_getElem? (i := 1) rfl)) (fun _ h9 => h9) (v := .ref (ad 4)) rfl dX2_bond_43 ?_
        refine VJ.iload_n C 2 dX2_bond_46 rfl ?_
        refine VJ.iload_n C 1 dX2_bond_47 rfl ?_
        refine VJ.putSN (q0 := 5) C R2 4 (fun R3 => pf [lW cI cZ o ad I R3 cm]) rfl (fun _ => rfl) (c_X5_putt l G cI cZ cQ cU cJ (ad 4) 24 (Nat.le_of_ble_eq_true rfl) (R2 4) x2 x1) (⟨va_cnB 3 C.1.2.2.2.2 gX2_bond_X5_put_n112 rfl rfl rfl (C.nestM (List.mem_of_getElem? (i := 34) rfl)) (C.1.2.2.2.2 _ (List.mem_of_getElem? (i := 13) rfl)) hy_X5_put ⟨Nat.le_of_ble_eq_true rfl, Nat.le_of_ble_eq_true rfl⟩, (C.1.2.2.2.2 _ (List.mem_of_getElem? (i := 15) rfl)), trivial⟩) rfl (Nat.le_of_ble_eq_true rfl) dX2_bond_48 ⟨Nat.le_of_ble_eq_true rfl, Nat.le_of_ble_eq_true rfl⟩ ⟨rfl, rfl⟩ (fun R3 => ?_)
        exact VJ.vret C hret rfl rfl dX2_bond_51

def f_X2_part (I : OI) (cm : Option Nat) (R : RI) (x1 : Int32) (x2 : Int32) : Option RI :=
  ob1 (f_X2_areTwoLiving I R cm x1 x2) (fun r1 => if r1 = 0 then (some R) else (if (atv 24 (R 4) x1) = x2 then (ol (va_up R 4 (putv 24 (R 4) x1 (-1))) (fun R2 => ol (va_up R2 4 (putv 24 (R2 4) x2 (-1))) (fun R3 => some R3))) else (some R)))
abbrev rmX2_part : Room := { frames := 2, cells := 0, slots := 0, locals := 43 }
theorem in_X2_part_X2 : ∀ w ∈ u_ws RX2 TX2 13, w ∈ wsX2_part := in_of 17 rfl
theorem hy_X2_part : yX2_part.cls ≠ "java/lang/invoke/MethodHandle" ∧ yX2_part.cls ≠ "java/lang/invoke/VarHandle" ∧ (parseMethodDescriptor yX2_part.desc).map (fun d => d.parameters.length) = some 2 := by decide +kernel
theorem hyV_X2_part : yX2_part.cls = RX2 ∧ yX2_part.cls ≠ "java/lang/invoke/MethodHandle" ∧ yX2_part.cls ≠ "java/lang/invoke/VarHandle" ∧ (parseMethodDescriptor yX2_part.desc).map (fun d => d.parameters.length) = some 2 := ⟨rfl, hy_X2_part⟩
set_option maxHeartbeats 8000000 in
set_option maxRecDepth 100000 in
theorem c_X2_part (l : Launch) (G : va_G) (cI cZ cQ cU cJ : ClassId) (o : Nat) (ad : Nat → Nat) (I : OI) (R : RI) (cm : Option Nat) (x1 : Int32) (x2 : Int32) (out : RI) (hf : f_X2_part I cm R x1 x2 = some out) : Con l yX2_part wsX2_part rmX2_part G vwCl (tys cI cZ cQ cU cJ) nws [.ref o, .int x1, .int x2] (pf [lW cI cZ o ad I R cm]) (none) (pf [lW cI cZ o ad I out cm]) := by
  refine con_of (rv := fun out : RI => none) (Wd := fun out : RI => pf [lW cI cZ o ad I out cm]) (maxL := 3) (own := RX2) rfl (plainFor_of_name (by decide +kernel)) rfl (Nat.le_of_ble_eq_true rfl) ?_ hf
  intro p e s m args below meth c A C hret hname
  unfold f_X2_part
  refine VJ.aload_n C 0 dX2_part_0 rfl ?_
  refine VJ.iload_n C 1 dX2_part_1 rfl ?_
  refine VJ.iload_n C 2 dX2_part_2 rfl ?_
  refine VJ.callV1 C [.int x1, .int x2] (pf [lW cI cZ o ad I R cm]) ([]) (fun r1 => some (.int r1)) (fun r1 => pf [lW cI cZ o ad I R cm]) (fun r1 => pf [lW cI cZ o ad I R cm]) (fun r1 => [.int r1]) 0 0 (fun _ h9 => c_X2_areTwoLiving l G cI cZ cQ cU cJ o ad I R cm x1 x2 _ h9) (vj_p0 _) (fun _ => vj_p0' _) 0 rfl rfl (cwV 2 C.1.2.2.2.2 gX2_part_X2_areTwoLiving rfl rfl rfl hyV_X2_areTwoLiving ⟨Nat.le_of_ble_eq_true rfl, Nat.le_of_ble_eq_true rfl⟩) rfl rfl (fun _ => rfl) (Nat.le_of_ble_eq_true rfl) dX2_part_3 ⟨Nat.le_of_ble_eq_true rfl, Nat.le_of_ble_eq_true rfl⟩ ⟨rfl, rfl⟩ (fun r1 => ?_)
  refine VJ.if_eq C 39 dX2_part_6 (by decide) (fun _ => ?_) (fun _ => ?_)
  · exact VJ.vret C hret rfl rfl dX2_part_39
  · refine VJ.aload_n C 0 dX2_part_9 rfl ?_
    refine VJ.get (C0 := RX2) (T := TX2) (N := 13) (ci := 2) C in_X2_part_X2 0 rfl rfl 4 (Nat.le_of_ble_eq_true rfl) (C.1.2.2.2.2 _ (List.mem_of_getElem? (i := 1) rfl)) (fun _ h9 => h9) (v := .ref (ad 4)) rfl dX2_part_10 ?_
    refine VJ.iload_n C 1 dX2_part_13 rfl ?_
    refine VJ.atSN (q0 := 5) C rfl (c_X5_att l G cI cZ cQ cU cJ (ad 4) 24 (Nat.le_of_ble_eq_true rfl) (R 4) x1) (⟨va_cnB 2 C.1.2.2.2.2 gX2_part_X5_at_n116 rfl rfl rfl (C.nestM (List.mem_of_getElem? (i := 35) rfl)) (C.1.2.2.2.2 _ (List.mem_of_getElem? (i := 13) rfl)) hy_X5_at ⟨Nat.le_of_ble_eq_true rfl, Nat.le_of_ble_eq_true rfl⟩, (C.1.2.2.2.2 _ (List.mem_of_getElem? (i := 12) rfl)), trivial⟩) rfl (Nat.le_of_ble_eq_true rfl) dX2_part_14 ⟨Nat.le_of_ble_eq_true rfl, Nat.le_of_ble_eq_true rfl⟩ ⟨rfl, rfl⟩ ?_
    refine VJ.iload_n C 2 dX2_part_17 rfl ?_
    refine VJ.icmp_ne C 39 dX2_part_18 (by decide) (fun _ => ?_) (fun _ => ?_)
    · exact VJ.vret C hret rfl rfl dX2_part_39
    · refine VJ.aload_n C 0 dX2_part_21 rfl ?_
      refine VJ.get (C0 := RX2) (T := TX2) (N := 13) (ci := 2) C in_X2_part_X2 0 rfl rfl 4 (Nat.le_of_ble_eq_true rfl) (C.1.2.2.2.2 _ (List.mem_of_getElem? (i := 1) rfl)) (fun _ h9 => h9) (v := .ref (ad 4)) rfl dX2_part_22 ?_
      refine VJ.iload_n C 1 dX2_part_25 rfl ?_
      refine VJ.iconst (v := (-1)) C dX2_part_26 (by decide) ?_
      refine VJ.putSN (q0 := 5) C R 4 (fun R2 => pf [lW cI cZ o ad I R2 cm]) rfl (fun _ => rfl) (c_X5_putt l G cI cZ cQ cU cJ (ad 4) 24 (Nat.le_of_ble_eq_true rfl) (R 4) x1 (-1)) (⟨va_cnB 3 C.1.2.2.2.2 gX2_part_X5_put_n112 rfl rfl rfl (C.nestM (List.mem_of_getElem? (i := 34) rfl)) (C.1.2.2.2.2 _ (List.mem_of_getElem? (i := 13) rfl)) hy_X5_put ⟨Nat.le_of_ble_eq_true rfl, Nat.le_of_ble_eq_true rfl⟩, (C.1.2.2.2.2 _ (List.mem_of_getElem? (i := 15) rfl)), trivial⟩) rfl (Nat.le_of_ble_eq_true rfl) dX2_part_27 ⟨Nat.le_of_ble_eq_true rfl, Nat.le_of_ble_eq_true rfl⟩ ⟨rfl, rfl⟩ (fun R2 => ?_)
      refine VJ.aload_n C 0 dX2_part_30 rfl ?_
      refine VJ.get (C0 := RX2) (T := TX2) (N := 13) (ci := 2) C in_X2_part_X2 0 rfl rfl 4 (Nat.le_of_ble_eq_true rfl) (C.1.2.2.2.2 _ (List.mem_of_getElem? (i := 1) rfl)) (fun _ h9 => h9) (v := .ref (ad 4)) rfl dX2_part_31 ?_
      refine VJ.iload_n C 2 dX2_part_34 rfl ?_
      refine VJ.iconst (v := (-1)) C dX2_part_35 (by decide) ?_
      refine VJ.putSN (q0 := 5) C R2 4 (fun R3 => pf [lW cI cZ o ad I R3 cm]) rfl (fun _ => rfl) (c_X5_putt l G cI cZ cQ cU cJ (ad 4) 24 (Nat.le_of_ble_eq_true rfl) (R2 4) x2 (-1)) (⟨va_cnB 3 C.1.2.2.2.2 gX2_part_X5_put_n112 rfl rfl rfl (C.nestM (List.mem_of_getElem? (i := 34) rfl)) (C.1.2.2.2.2 _ (List.mem_of_getElem? (i := 13) rfl)) hy_X5_put ⟨Nat.le_of_ble_eq_true rfl, Nat.le_of_ble_eq_true rfl⟩, (C.1.2.2.2.2 _ (List.mem_of_getElem? (i := 15) rfl)), trivial⟩) rfl (Nat.le_of_ble_eq_true rfl) dX2_part_36 ⟨Nat.le_of_ble_eq_true rfl, Nat.le_of_ble_eq_true rfl⟩ ⟨rfl, rfl⟩ (fun R3 => ?_)
      exact VJ.vret C hret rfl rfl dX2_part_39

def f_X2_die (I : OI) (cm : Option Nat) (R : RI) (x1 : Int32) : Option RI :=
  ob1 (f_X2_isLiving I R cm x1) (fun r1 => if r1 = 0 then (some R) else (ol (va_up R 4 (putv 24 (R 4) (atv 24 (R 4) x1) (-1))) (fun R2 => ol (va_up R2 4 (putv 24 (R2 4) x1 (-1))) (fun R3 => ol (va_up R3 2 (putv 24 (R3 2) x1 (-1))) (fun R4 => ol (va_up R4 1 (putv 24 (R4 1) x1 2)) (fun R5 => some R5))))))
abbrev rmX2_die : Room := { frames := 1, cells := 0, slots := 0, locals := 22 }
theorem in_X2_die_X2 : ∀ w ∈ u_ws RX2 TX2 13, w ∈ wsX2_die := in_of 14 rfl
theorem hy_X2_die : yX2_die.cls ≠ "java/lang/invoke/MethodHandle" ∧ yX2_die.cls ≠ "java/lang/invoke/VarHandle" ∧ (parseMethodDescriptor yX2_die.desc).map (fun d => d.parameters.length) = some 1 := by decide +kernel
theorem hyV_X2_die : yX2_die.cls = RX2 ∧ yX2_die.cls ≠ "java/lang/invoke/MethodHandle" ∧ yX2_die.cls ≠ "java/lang/invoke/VarHandle" ∧ (parseMethodDescriptor yX2_die.desc).map (fun d => d.parameters.length) = some 1 := ⟨rfl, hy_X2_die⟩
set_option maxHeartbeats 8000000 in
set_option maxRecDepth 100000 in
theorem c_X2_die (l : Launch) (G : va_G) (cI cZ cQ cU cJ : ClassId) (o : Nat) (ad : Nat → Nat) (I : OI) (R : RI) (cm : Option Nat) (x1 : Int32) (out : RI) (hf : f_X2_die I cm R x1 = some out) : Con l yX2_die wsX2_die rmX2_die G vwCl (tys cI cZ cQ cU cJ) nws [.ref o, .int x1] (pf [lW cI cZ o ad I R cm]) (none) (pf [lW cI cZ o ad I out cm]) := by
  refine con_of (rv := fun out : RI => none) (Wd := fun out : RI => pf [lW cI cZ o ad I out cm]) (maxL := 2) (own := RX2) rfl (plainFor_of_name (by decide +kernel)) rfl (Nat.le_of_ble_eq_true rfl) ?_ hf
  intro p e s m args below meth c A C hret hname
  unfold f_X2_die
  refine VJ.aload_n C 0 dX2_die_0 rfl ?_
  refine VJ.iload_n C 1 dX2_die_1 rfl ?_
  refine VJ.callV1 C [.int x1] (pf [lW cI cZ o ad I R cm]) ([]) (fun r1 => some (.int r1)) (fun r1 => pf [lW cI cZ o ad I R cm]) (fun r1 => pf [lW cI cZ o ad I R cm]) (fun r1 => [.int r1]) 0 0 (fun _ h9 => c_X2_isLiving l G cI cZ cQ cU cJ o ad I R cm x1 _ h9) (vj_p0 _) (fun _ => vj_p0' _) 0 rfl rfl (cwV 1 C.1.2.2.2.2 gX2_die_X2_isLiving rfl rfl rfl hyV_X2_isLiving ⟨Nat.le_of_ble_eq_true rfl, Nat.le_of_ble_eq_true rfl⟩) rfl rfl (fun _ => rfl) (Nat.le_of_ble_eq_true rfl) dX2_die_2 ⟨Nat.le_of_ble_eq_true rfl, Nat.le_of_ble_eq_true rfl⟩ ⟨rfl, rfl⟩ (fun r1 => ?_)
  refine VJ.if_eq C 51 dX2_die_5 (by decide) (fun _ => ?_) (fun _ => ?_)
  · exact VJ.vret C hret rfl rfl dX2_die_51
  · refine VJ.aload_n C 0 dX2_die_8 rfl ?_
    refine VJ.get (C0 := RX2) (T := TX2) (N := 13) (ci := 2) C in_X2_die_X2 0 rfl rfl 4 (Nat.le_of_ble_eq_true rfl) (C.1.2.2.2.2 _ (List.mem_of_getElem? (i := 1) rfl)) (fun _ h9 => h9) (v := .ref (ad 4)) rfl dX2_die_9 ?_
    refine VJ.aload_n C 0 dX2_die_12 rfl ?_
    refine VJ.get (C0 := RX2) (T := TX2) (N := 13) (ci := 2) C in_X2_die_X2 0 rfl rfl 4 (Nat.le_of_ble_eq_true rfl) (C.1.2.2.2.2 _ (List.mem_of_getElem? (i := 1) rfl)) (fun _ h9 => h9) (v := .ref (ad 4)) rfl dX2_die_13 ?_
    refine VJ.iload_n C 1 dX2_die_16 rfl ?_
    refine VJ.atSN (q0 := 5) C rfl (c_X5_att l G cI cZ cQ cU cJ (ad 4) 24 (Nat.le_of_ble_eq_true rfl) (R 4) x1) (⟨va_cnB 2 C.1.2.2.2.2 gX2_die_X5_at_n116 rfl rfl rfl (C.nestM (List.mem_of_getElem? (i := 35) rfl)) (C.1.2.2.2.2 _ (List.mem_of_getElem? (i := 10) rfl)) hy_X5_at ⟨Nat.le_of_ble_eq_true rfl, Nat.le_of_ble_eq_true rfl⟩, (C.1.2.2.2.2 _ (List.mem_of_getElem? (i := 9) rfl)), trivial⟩) rfl (Nat.le_of_ble_eq_true rfl) dX2_die_17 ⟨Nat.le_of_ble_eq_true rfl, Nat.le_of_ble_eq_true rfl⟩ ⟨rfl, rfl⟩ ?_
    refine VJ.iconst (v := (-1)) C dX2_die_20 (by decide) ?_
    refine VJ.putSN (q0 := 5) C R 4 (fun R2 => pf [lW cI cZ o ad I R2 cm]) rfl (fun _ => rfl) (c_X5_putt l G cI cZ cQ cU cJ (ad 4) 24 (Nat.le_of_ble_eq_true rfl) (R 4) (atv 24 (R 4) x1) (-1)) (⟨va_cnB 3 C.1.2.2.2.2 gX2_die_X5_put_n112 rfl rfl rfl (C.nestM (List.mem_of_getElem? (i := 34) rfl)) (C.1.2.2.2.2 _ (List.mem_of_getElem? (i := 10) rfl)) hy_X5_put ⟨Nat.le_of_ble_eq_true rfl, Nat.le_of_ble_eq_true rfl⟩, (C.1.2.2.2.2 _ (List.mem_of_getElem? (i := 12) rfl)), trivial⟩) rfl (Nat.le_of_ble_eq_true rfl) dX2_die_21 ⟨Nat.le_of_ble_eq_true rfl, Nat.le_of_ble_eq_true rfl⟩ ⟨rfl, rfl⟩ (fun R2 => ?_)
    refine VJ.aload_n C 0 dX2_die_24 rfl ?_
    refine VJ.get (C0 := RX2) (T := TX2) (N := 13) (ci := 2) C in_X2_die_X2 0 rfl rfl 4 (Nat.le_of_ble_eq_true rfl) (C.1.2.2.2.2 _ (List.mem_of_getElem? (i := 1) rfl)) (fun _ h9 => h9) (v := .ref (ad 4)) rfl dX2_die_25 ?_
    refine VJ.iload_n C 1 dX2_die_28 rfl ?_
    refine VJ.iconst (v := (-1)) C dX2_die_29 (by decide) ?_
    refine VJ.putSN (q0 := 5) C R2 4 (fun R3 => pf [lW cI cZ o ad I R3 cm]) rfl (fun _ => rfl) (c_X5_putt l G cI cZ cQ cU cJ (ad 4) 24 (Nat.le_of_ble_eq_true rfl) (R2 4) x1 (-1)) (⟨va_cnB 3 C.1.2.2.2.2 gX2_die_X5_put_n112 rfl rfl rfl (C.nestM (List.mem_of_getElem? (i := 34) rfl)) (C.1.2.2.2.2 _ (List.mem_of_getElem? (i := 10) rfl)) hy_X5_put ⟨Nat.le_of_ble_eq_true rfl, Nat.le_of_ble_eq_true rfl⟩, (C.1.2.2.2.2 _ (List.mem_of_getElem? (i := 12) rfl)), trivial⟩) rfl (Nat.le_of_ble_eq_true rfl) dX2_die_30 ⟨Nat.le_of_ble_eq_true rfl, Nat.le_of_ble_eq_true rfl⟩ ⟨rfl, rfl⟩ (fun R3 => ?_)
    refine VJ.aload_n C 0 dX2_die_33 rfl ?_
    refine VJ.get (C0 := RX2) (T := TX2) (N := 13) (ci := 2) C in_X2_die_X2 0 rfl rfl 2 (Nat.le_of_ble_eq_true rfl) (C.1.2.2.2.2 _ (List.mem_of_getElem? (i := 2) rfl)) (fun _ h9 => h9) (v := .ref (ad 2)) rfl dX2_die_34 ?_
    refine VJ.iload_n C 1 dX2_die_37 rfl ?_
    refine VJ.iconst (v := (-1)) C dX2_die_38 (by decide) ?_
    refine VJ.putSN (q0 := 3) C R3 2 (fun R4 => pf [lW cI cZ o ad I R4 cm]) rfl (fun _ => rfl) (c_X5_putt l G cI cZ cQ cU cJ (ad 2) 24 (Nat.le_of_ble_eq_true rfl) (R3 2) x1 (-1)) (⟨va_cnB 3 C.1.2.2.2.2 gX2_die_X5_put_n112 rfl rfl rfl (C.nestM (List.mem_of_getElem? (i := 34) rfl)) (C.1.2.2.2.2 _ (List.mem_of_getElem? (i := 10) rfl)) hy_X5_put ⟨Nat.le_of_ble_eq_true rfl, Nat.le_of_ble_eq_true rfl⟩, (C.1.2.2.2.2 _ (List.mem_of_getElem? (i := 12) rfl)), trivial⟩) rfl (Nat.le_of_ble_eq_true rfl) dX2_die_39 ⟨Nat.le_of_ble_eq_true rfl, Nat.le_of_ble_eq_true rfl⟩ ⟨rfl, rfl⟩ (fun R4 => ?_)
    refine VJ.aload_n C 0 dX2_die_42 rfl ?_
    refine VJ.get (C0 := RX2) (T := TX2) (N := 13) (ci := 2) C in_X2_die_X2 0 rfl rfl 1 (Nat.le_of_ble_eq_true rfl) (C.1.2.2.2.2 _ (List.mem_of_getElem? (i := 3) rfl)) (fun _ h9 => h9) (v := .ref (ad 1)) rfl dX2_die_43 ?_
    refine VJ.iload_n C 1 dX2_die_46 rfl ?_
    refine VJ.iconst (v := 2) C dX2_die_47 (by decide) ?_
    refine VJ.putSN (q0 := 2) C R4 1 (fun R5 => pf [lW cI cZ o ad I R5 cm]) rfl (fun _ => rfl) (c_X5_putt l G cI cZ cQ cU cJ (ad 1) 24 (Nat.le_of_ble_eq_true rfl) (R4 1) x1 2) (⟨va_cnB 3 C.1.2.2.2.2 gX2_die_X5_put_n112 rfl rfl rfl (C.nestM (List.mem_of_getElem? (i := 34) rfl)) (C.1.2.2.2.2 _ (List.mem_of_getElem? (i := 10) rfl)) hy_X5_put ⟨Nat.le_of_ble_eq_true rfl, Nat.le_of_ble_eq_true rfl⟩, (C.1.2.2.2.2 _ (List.mem_of_getElem? (i := 12) rfl)), trivial⟩) rfl (Nat.le_of_ble_eq_true rfl) dX2_die_48 ⟨Nat.le_of_ble_eq_true rfl, Nat.le_of_ble_eq_true rfl⟩ ⟨rfl, rfl⟩ (fun R5 => ?_)
    exact VJ.vret C hret rfl rfl dX2_die_51

def f_X2_adopt (I : OI) (cm : Option Nat) (R : RI) (x1 : Int32) (x2 : Int32) : Option RI :=
  ob1 (f_X2_areTwoLiving I R cm x1 x2) (fun r1 => if r1 = 0 then (some R) else (ol (va_up R 5 (putv 24 (R 5) x1 x2)) (fun R2 => ol (va_up R2 8 (setv 24 (R2 8) x1 1)) (fun R3 => some R3))))
abbrev rmX2_adopt : Room := { frames := 2, cells := 0, slots := 0, locals := 43 }
theorem in_X2_adopt_X2 : ∀ w ∈ u_ws RX2 TX2 13, w ∈ wsX2_adopt := in_of 18 rfl
theorem hy_X2_adopt : yX2_adopt.cls ≠ "java/lang/invoke/MethodHandle" ∧ yX2_adopt.cls ≠ "java/lang/invoke/VarHandle" ∧ (parseMethodDescriptor yX2_adopt.desc).map (fun d => d.parameters.length) = some 2 := by decide +kernel
theorem hyV_X2_adopt : yX2_adopt.cls = RX2 ∧ yX2_adopt.cls ≠ "java/lang/invoke/MethodHandle" ∧ yX2_adopt.cls ≠ "java/lang/invoke/VarHandle" ∧ (parseMethodDescriptor yX2_adopt.desc).map (fun d => d.parameters.length) = some 2 := ⟨rfl, hy_X2_adopt⟩
set_option maxHeartbeats 8000000 in
set_option maxRecDepth 100000 in
theorem c_X2_adopt (l : Launch) (G : va_G) (cI cZ cQ cU cJ : ClassId) (o : Nat) (ad : Nat → Nat) (I : OI) (R : RI) (cm : Option Nat) (x1 : Int32) (x2 : Int32) (out : RI) (hf : f_X2_adopt I cm R x1 x2 = some out) : Con l yX2_adopt wsX2_adopt rmX2_adopt G vwCl (tys cI cZ cQ cU cJ) nws [.ref o, .int x1, .int x2] (pf [lW cI cZ o ad I R cm]) (none) (pf [lW cI cZ o ad I out cm]) := by
  refine con_of (rv := fun out : RI => none) (Wd := fun out : RI => pf [lW cI cZ o ad I out cm]) (maxL := 3) (own := RX2) rfl (plainFor_of_name (by decide +kernel)) rfl (Nat.le_of_ble_eq_true rfl) ?_ hf
  intro p e s m args below meth c A C hret hname
  unfold f_X2_adopt
  refine VJ.aload_n C 0 dX2_adopt_0 rfl ?_
  refine VJ.iload_n C 1 dX2_adopt_1 rfl ?_
  refine VJ.iload_n C 2 dX2_adopt_2 rfl ?_
  refine VJ.callV1 C [.int x1, .int x2] (pf [lW cI cZ o ad I R cm]) ([]) (fun r1 => some (.int r1)) (fun r1 => pf [lW cI cZ o ad I R cm]) (fun r1 => pf [lW cI cZ o ad I R cm]) (fun r1 => [.int r1]) 0 0 (fun _ h9 => c_X2_areTwoLiving l G cI cZ cQ cU cJ o ad I R cm x1 x2 _ h9) (vj_p0 _) (fun _ => vj_p0' _) 0 rfl rfl (cwV 2 C.1.2.2.2.2 gX2_adopt_X2_areTwoLiving rfl rfl rfl hyV_X2_areTwoLiving ⟨Nat.le_of_ble_eq_true rfl, Nat.le_of_ble_eq_true rfl⟩) rfl rfl (fun _ => rfl) (Nat.le_of_ble_eq_true rfl) dX2_adopt_3 ⟨Nat.le_of_ble_eq_true rfl, Nat.le_of_ble_eq_true rfl⟩ ⟨rfl, rfl⟩ (fun r1 => ?_)
  refine VJ.if_eq C 27 dX2_adopt_6 (by decide) (fun _ => ?_) (fun _ => ?_)
  · exact VJ.vret C hret rfl rfl dX2_adopt_27
  · refine VJ.aload_n C 0 dX2_adopt_9 rfl ?_
    refine VJ.get (C0 := RX2) (T := TX2) (N := 13) (ci := 2) C in_X2_adopt_X2 0 rfl rfl 5 (Nat.le_of_ble_eq_true rfl) (C.1.2.2.2.2 _ (List.mem_of_getElem? (i := 1) rfl)) (fun _ h9 => h9) (v := .ref (ad 5)) rfl dX2_adopt_10 ?_
    refine VJ.iload_n C 1 dX2_adopt_13 rfl ?_
    refine VJ.iload_n C 2 dX2_adopt_14 rfl ?_
    refine VJ.putSN (q0 := 6) C R 5 (fun R2 => pf [lW cI cZ o ad I R2 cm]) rfl (fun _ => rfl) (c_X5_putt l G cI cZ cQ cU cJ (ad 5) 24 (Nat.le_of_ble_eq_true rfl) (R 5) x1 x2) (⟨va_cnB 3 C.1.2.2.2.2 gX2_adopt_X5_put_n112 rfl rfl rfl (C.nestM (List.mem_of_getElem? (i := 34) rfl)) (C.1.2.2.2.2 _ (List.mem_of_getElem? (i := 14) rfl)) hy_X5_put ⟨Nat.le_of_ble_eq_true rfl, Nat.le_of_ble_eq_true rfl⟩, (C.1.2.2.2.2 _ (List.mem_of_getElem? (i := 13) rfl)), trivial⟩) rfl (Nat.le_of_ble_eq_true rfl) dX2_adopt_15 ⟨Nat.le_of_ble_eq_true rfl, Nat.le_of_ble_eq_true rfl⟩ ⟨rfl, rfl⟩ (fun R2 => ?_)
    refine VJ.aload_n C 0 dX2_adopt_18 rfl ?_
    refine VJ.get (C0 := RX2) (T := TX2) (N := 13) (ci := 2) C in_X2_adopt_X2 0 rfl rfl 8 (Nat.le_of_ble_eq_true rfl) (C.1.2.2.2.2 _ (List.mem_of_getElem? (i := 2) rfl)) (fun _ h9 => h9) (v := .ref (ad 8)) rfl dX2_adopt_19 ?_
    refine VJ.iload_n C 1 dX2_adopt_22 rfl ?_
    refine VJ.iconst (v := 1) C dX2_adopt_23 (by decide) ?_
    refine VJ.putSN (q0 := 9) C R2 8 (fun R3 => pf [lW cI cZ o ad I R3 cm]) rfl (fun _ => rfl) (c_X5_sett l G cI cZ cQ cU cJ (ad 8) 24 (Nat.le_of_ble_eq_true rfl) (R2 8) x1 1) (⟨va_cnB 3 C.1.2.2.2.2 gX2_adopt_X5_set_n150 rfl rfl rfl (C.nestM (List.mem_of_getElem? (i := 36) rfl)) (C.1.2.2.2.2 _ (List.mem_of_getElem? (i := 14) rfl)) hy_X5_set ⟨Nat.le_of_ble_eq_true rfl, Nat.le_of_ble_eq_true rfl⟩, (C.1.2.2.2.2 _ (List.mem_of_getElem? (i := 16) rfl)), trivial⟩) rfl (Nat.le_of_ble_eq_true rfl) dX2_adopt_24 ⟨Nat.le_of_ble_eq_true rfl, Nat.le_of_ble_eq_true rfl⟩ ⟨rfl, rfl⟩ (fun R3 => ?_)
    exact VJ.vret C hret rfl rfl dX2_adopt_27

def fillv (n : Nat) (g : Nat → Int32) (v : Int32) : Nat → Int32 := fun j => if j < n then v else g j
theorem fill_loop {N n : Nat} (hn : n < 2147483648) (g : OI) (v : Int32) : ∀ (m i : Nat), i ≤ n → n < i + m → f_J7_fill_53178_l5 N n m (fillv i g v) v (nI i) (nI n) = some (fillv n g v)
  | 0, i, h1, h2 => absurd h2 (by omega)
  | m + 1, i, h1, h2 => by
    show f_J7_fill_53178_l5b N n (f_J7_fill_53178_l5 N n m) (fillv i g v) v (nI i) (nI n) = _
    unfold f_J7_fill_53178_l5b
    rcases Nat.lt_or_ge i n with h | h
    · rw [if_neg (nI_ge h (by omega)), og_in hn (nI_pos (by omega)) (nI_ge h (by omega))]
      show f_J7_fill_53178_l5 N n m (upd (fillv i g v) (nI i).toNatClampNeg v) v (nI i + Int32.ofInt 1) (nI n) = _
      have e1 : upd (fillv i g v) (nI i).toNatClampNeg v = fillv (i + 1) g v := by
        rw [nI_clamp (by omega)]
        funext j
        show (if j = i then v else fillv i g v j) = fillv (i + 1) g v j
        unfold fillv
        by_cases hj : j = i
        · simp [hj]
        · by_cases h9 : j < i
          · simp [hj, h9, Nat.lt_succ_of_lt h9]
          · have : ¬ j < i + 1 := by omega
            simp [hj, h9, this]
      have e2 : nI i + Int32.ofInt 1 = nI (i + 1) := nI_1 i
      rw [e1, e2]
      exact fill_loop hn g v m (i + 1) h (by omega)
    · have : i = n := by omega
      subst this
      rw [if_pos (nI_le (Nat.le_refl _) (by omega))]
theorem f_fill_eq {n : Nat} (hn : n < 2147483648) (g : OI) (v : Int32) : f_J7_fill_53178 (n + 1) n g v = some (fillv n g v) := by
  unfold f_J7_fill_53178
  have h := fill_loop (N := n + 1) hn g v (n + 1) 0 (Nat.zero_le _) (by omega)
  have e : fillv 0 g v = g := by funext j; simp [fillv]
  rw [e] at h
  exact h
theorem c_J7_fill_53178t (l : Launch) (G : va_G) (cI cZ cQ cU cJ : ClassId) (a n : Nat) (hn : n < 2147483648) (g : OI) (v : Int32) : Con l yJ7_fill_53178 wsJ7_fill_53178 rmJ7_fill_53178 G vwCl (tys cI cZ cQ cU cJ) nws [.ref a, .int v] [(a, .inl (cI, n, .inl g))] none [(a, .inl (cI, n, .inl (fillv n g v)))] :=
  c_J7_fill_53178 l G cI cZ cQ cU cJ (n + 1) a n g v _ (f_fill_eq hn g v)
