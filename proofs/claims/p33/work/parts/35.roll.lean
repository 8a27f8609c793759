section KX7
variable {p : Program} {l : Launch} {e : Env} {R : Room} {s : State} {m : MethodId} {args : Array Value} {below : List Frame} {meth : Method} {c : Code} {cc : ByteArray} {nL : Nat} {Ts : List Cond} {own : String} {G : va_G} {cl : List vw_C} {ty : List (ClassId × FieldType)} {nw : List Cond} {ss : List (String × Nat × String)} {A : Nat → Prop} {O : Type} {Qf : O → State → Prop} {cells slots : Nat} {f fA fB : Option O} {M : va_W} {pc : Nat} {lv : List (Nat × Value)} {st : List Value}
theorem VJ.aastX (C : Cx p s m args meth c cc nL Ts own G cl ty nw A) {a v : Nat} (q0 t0 qk ci : Nat) {r : vw_C} {vs : List Value} {cA : ClassId} {n : Nat} {g : Nat → Option Nat} (he : M[q0]? = some (a, .inl (cA, n, .inr (.inr (.inr (.inr g)))))) (ht : ty[t0]? = some (cA, .object r.1)) (hv : M[qk]? = some (v, .inr (ci, vs))) (hc : cl[ci]? = some r) {i : Int32} (hi : vp_in i n) (M' : va_W) (hM : M.set q0 (a, .inl (cA, n, .inr (.inr (.inr (.inr (va_up g i.toNatClampNeg (some v))))))) = M') (hdg : decode cc pc = .ok (.aastore, 1)) (k : VJ p l e R s m args below meth c nL G cl A Qf cells slots f M' (pc + 1) lv st) : VJ p l e R s m args below meth c nL G cl A Qf cells slots f M pc lv (.ref v :: .int i :: .ref a :: st) :=
  fun out ho H locs ls hP hD hS hl => va_astq (D := G) (cl := cl) C.1.1 C.1.2.1 C.2.1.1 hP hD hS q0 t0 qk ci he ht hv hc hi hdg (fun H1 locs1 hP1 hD1 hS1 => by rw [hM] at hP1 hD1; exact k out ho H1 locs1 ls hP1 hD1 hS1 hl)
theorem VJ.rogI {i : Int32} {n : Nat} (k : vp_in i n → VJ p l e R s m args below meth c nL G cl A Qf cells slots f M pc lv st) : VJ p l e R s m args below meth c nL G cl A Qf cells slots (og i n f) M pc lv st := fun out ho => k (og_spec ho).1 out (og_spec ho).2
theorem five : ∀ j, j < 5 → defaultValue (tyX4 j) = vp_V [.int 0, .int 0, .null, .null, .int 0] j := fun j hj => by
  match j, hj with
  | 0, _ => rfl
  | 1, _ => rfl
  | 2, _ => rfl
  | 3, _ => rfl
  | 4, _ => rfl
end KX7
theorem in_X5_roll_X4 : ∀ w ∈ u_ws RX4 TX4 5, w ∈ wsX5_roll := in_of 44 rfl
set_option maxHeartbeats 4000000 in
set_option maxRecDepth 100000 in
def f_X5_roll_j28 (R : RI) (rs : OO) (I : OI) : Option (Nat × Int32 × OI) :=
  some (3, 0, I)
def f_X5_roll (R : RI) (rs : OO) (I : OI) (x1 : Int32) (x2 : Int32) : Option (Nat × Int32 × OI) :=
  obc (f_X5_requireOffice x2) (fun k9 => (k9, 0, I)) (obc (f_X5_requireWithin x1 0 3) (fun k9 => (k9, 0, I)) (ol (I 2) (fun v1 => if v1 < 0 then (f_X5_roll_j28 R rs I) else (if v1 < 5 then (og v1 5 (ol (va_up I 2 ((I 2) + 1)) (fun I9 => some (0, v1, I9)))) else (f_X5_roll_j28 R rs I)))))
abbrev rmX5_roll : Room := { frames := 7, cells := 5, slots := 65, locals := 112 }
theorem in_X5_roll_X5 : ∀ w ∈ u_ws RX5 TX5 11, w ∈ wsX5_roll := in_of 33 rfl
theorem hy_X5_roll : yX5_roll.cls ≠ "java/lang/invoke/MethodHandle" ∧ yX5_roll.cls ≠ "java/lang/invoke/VarHandle" ∧ (parseMethodDescriptor yX5_roll.desc).map (fun d => d.parameters.length) = some 2 := by decide +kernel
theorem hyV_X5_roll : yX5_roll.cls = RX5 ∧ yX5_roll.cls ≠ "java/lang/invoke/MethodHandle" ∧ yX5_roll.cls ≠ "java/lang/invoke/VarHandle" ∧ (parseMethodDescriptor yX5_roll.desc).map (fun d => d.parameters.length) = some 2 := ⟨rfl, hy_X5_roll⟩
set_option maxHeartbeats 8000000 in
set_option maxRecDepth 100000 in
theorem c_X5_roll (l : Launch) (hl9 : l.stackTraces = false) (G : va_G) (cI cZ cQ cU cJ : ClassId) (o : Nat) (ad : Nat → Nat) (rf : Nat → Nat) (I : OI) (R : RI) (rs : OO) (x1 : Int32) (x2 : Int32) (out : Nat × Int32 × OI) (hf : f_X5_roll R rs I x1 x2 = some out) : ConX l yX5_roll wsX5_roll rmX5_roll G vwCl (tys cI cZ cQ cU cJ) nws strs [.ref o, .int x1, .int x2] (pf [xW cI cZ o ad I R rf, qW cU (rf 5) rs]) (fun k' r M' => k' = out.1 ∧ (k' = 0 → r = some (.int out.2.1) ∧ ∃ q adr, M' = pf [xW cI cZ o ad out.2.2 R rf, qW cU (rf 5) (va_up rs out.2.1.toNatClampNeg (some q)), rW cI cZ q adr 24 (va_up (va_up (fun _ => 0) 0 x1) 1 x2) (va_up (fun _ _ => 0) 0 (fillv 24 (fun _ => 0) (-1)))]) ∧ (k' ≠ 0 → M' = pf [xW cI cZ o ad I R rf, qW cU (rf 5) rs])) := by
  refine conX_of (Qf := fun (o9 : Nat × Int32 × OI) below A args s t9 => QP below G vwCl A args s rmX5_roll.cells rmX5_roll.slots ((fun (out : Nat × Int32 × OI) (k' : Nat) (r : Option Value) (M' : va_W) => k' = out.1 ∧ (k' = 0 → r = some (.int out.2.1) ∧ ∃ q adr, M' = pf [xW cI cZ o ad out.2.2 R rf, qW cU (rf 5) (va_up rs out.2.1.toNatClampNeg (some q)), rW cI cZ q adr 24 (va_up (va_up (fun _ => 0) 0 x1) 1 x2) (va_up (fun _ _ => 0) 0 (fillv 24 (fun _ => 0) (-1)))]) ∧ (k' ≠ 0 → M' = pf [xW cI cZ o ad I R rf, qW cU (rf 5) rs])) o9) t9) (maxL := 4) (own := RX5) hl9 rfl (by decide +kernel) rfl (Nat.le_of_ble_eq_true rfl) (fun _ _ _ _ _ h9 => h9) ?_ hf
  intro p e s m args below meth c A CX hret hE
  have C := CX.1
  have j28 : ∀ (I : OI), VJ p l e rmX5_roll s m args below meth c 4 G vwCl A (fun (o9 : Nat × Int32 × OI) (t9 : State) => QP below G vwCl A args s rmX5_roll.cells rmX5_roll.slots ((fun (out : Nat × Int32 × OI) (k' : Nat) (r : Option Value) (M' : va_W) => k' = out.1 ∧ (k' = 0 → r = some (.int out.2.1) ∧ ∃ q adr, M' = pf [xW cI cZ o ad out.2.2 R rf, qW cU (rf 5) (va_up rs out.2.1.toNatClampNeg (some q)), rW cI cZ q adr 24 (va_up (va_up (fun _ => 0) 0 x1) 1 x2) (va_up (fun _ _ => 0) 0 (fillv 24 (fun _ => 0) (-1)))]) ∧ (k' ≠ 0 → M' = pf [xW cI cZ o ad I R rf, qW cU (rf 5) rs])) o9) t9) 2 12 (f_X5_roll_j28 R rs  I) (pf [xW cI cZ o ad I R rf, qW cU (rf 5) rs]) 28 [] [] := by
    intro  I
    unfold f_X5_roll_j28
    exact VJ.throwS (r := none) CX 2 rmX5_roll.cells rmX5_roll.slots (text := "there is no ROLL left") hE (fun _ h9 => h9) ⟨rfl, fun h9 => absurd h9 (Nat.succ_ne_zero _), fun _ => rfl⟩ xf2 (C.1.2.2.2.2 _ (List.mem_of_getElem? (i := 1) rfl)) (C.1.2.2.2.2 _ (List.mem_of_getElem? (i := 2) rfl)) (List.mem_of_getElem? (i := 6) rfl) (vj_hat C (fun w h9 => List.mem_cons_of_mem _ (List.mem_append_left _ (List.mem_append_left _ (List.mem_append_right _ h9)))) xh2 xi2) xg2 dX5_roll_28 dX5_roll_31 dX5_roll_32 dX5_roll_34 dX5_roll_37 (Nat.le_of_ble_eq_true rfl) (Nat.le_of_ble_eq_true rfl) (Nat.le_of_ble_eq_true rfl) (Nat.le_of_ble_eq_true rfl) (Nat.le_of_ble_eq_true rfl) (Nat.le_of_ble_eq_true rfl)
  unfold f_X5_roll
  refine VJ.iload_n C 2 dX5_roll_0 rfl ?_
  refine VJ.reqS (T := (fun k9 => (k9, 0, I))) (P := fun k9 => (fun (out : Nat × Int32 × OI) (k' : Nat) (r : Option Value) (M' : va_W) => k' = out.1 ∧ (k' = 0 → r = some (.int out.2.1) ∧ ∃ q adr, M' = pf [xW cI cZ o ad out.2.2 R rf, qW cU (rf 5) (va_up rs out.2.1.toNatClampNeg (some q)), rW cI cZ q adr 24 (va_up (va_up (fun _ => 0) 0 x1) 1 x2) (va_up (fun _ _ => 0) 0 (fillv 24 (fun _ => 0) (-1)))]) ∧ (k' ≠ 0 → M' = pf [xW cI cZ o ad I R rf, qW cU (rf 5) rs])) (k9, 0, I)) CX [.int x2] (pf []) (pf [xW cI cZ o ad I R rf, qW cU (rf 5) rs]) 1 6 rmX5_roll.cells rmX5_roll.slots hE (fun _ h9 => c_X5_requireOffice l hl9 G cI cZ cQ cU cJ x2 _ h9) (vj_pn _) (va_cwS 1 C.1.2.2.2.2 gX5_roll_X5_requireOffice rfl rfl rfl hy_X5_requireOffice ⟨Nat.le_of_ble_eq_true rfl, Nat.le_of_ble_eq_true rfl⟩) rfl rfl (Nat.le_of_ble_eq_true rfl) dX5_roll_1 ⟨Nat.le_of_ble_eq_true rfl, Nat.le_of_ble_eq_true rfl⟩ ⟨rfl, rfl⟩ ⟨Nat.le_of_ble_eq_true rfl, Nat.le_of_ble_eq_true rfl⟩ (fun _ _ h9 => h9) (fun _ => ⟨rfl, fun h9 => absurd h9 (Nat.succ_ne_zero _), fun _ => rfl⟩) ?_
  refine VJ.iload_n C 1 dX5_roll_4 rfl ?_
  refine VJ.iconst (v := 0) C dX5_roll_5 (by decide) ?_
  refine VJ.iconst (v := 3) C dX5_roll_6 (by decide) ?_
  refine VJ.reqS (T := (fun k9 => (k9, 0, I))) (P := fun k9 => (fun (out : Nat × Int32 × OI) (k' : Nat) (r : Option Value) (M' : va_W) => k' = out.1 ∧ (k' = 0 → r = some (.int out.2.1) ∧ ∃ q adr, M' = pf [xW cI cZ o ad out.2.2 R rf, qW cU (rf 5) (va_up rs out.2.1.toNatClampNeg (some q)), rW cI cZ q adr 24 (va_up (va_up (fun _ => 0) 0 x1) 1 x2) (va_up (fun _ _ => 0) 0 (fillv 24 (fun _ => 0) (-1)))]) ∧ (k' ≠ 0 → M' = pf [xW cI cZ o ad I R rf, qW cU (rf 5) rs])) (k9, 0, I)) CX [.int x1, .int 0, .int 3] (pf []) (pf [xW cI cZ o ad I R rf, qW cU (rf 5) rs]) 2 12 rmX5_roll.cells rmX5_roll.slots hE (fun _ h9 => c_X5_requireWithin l hl9 G cI cZ cQ cU cJ x1 0 3 _ h9) (vj_pn _) (va_cwS 3 C.1.2.2.2.2 gX5_roll_X5_requireWithin rfl rfl rfl hy_X5_requireWithin ⟨Nat.le_of_ble_eq_true rfl, Nat.le_of_ble_eq_true rfl⟩) rfl rfl (Nat.le_of_ble_eq_true rfl) dX5_roll_7 ⟨Nat.le_of_ble_eq_true rfl, Nat.le_of_ble_eq_true rfl⟩ ⟨rfl, rfl⟩ ⟨Nat.le_of_ble_eq_true rfl, Nat.le_of_ble_eq_true rfl⟩ (fun _ _ h9 => h9) (fun _ => ⟨rfl, fun h9 => absurd h9 (Nat.succ_ne_zero _), fun _ => rfl⟩) ?_
  refine VJ.aload_n C 0 dX5_roll_10 rfl ?_
  refine VJ.get (C0 := RX5) (T := TX5) (N := 11) (ci := 5) C in_X5_roll_X5 0 rfl rfl 10 (Nat.le_of_ble_eq_true rfl) (C.1.2.2.2.2 _ (List.mem_of_getElem? (i := 3) rfl)) (fun _ h9 => h9) (v := .int (I 2)) rfl dX5_roll_11 ?_
  refine VJ.topi C (fun v1 => ?_)
  refine VJ.istore_n C [(3, .int v1), (0, .ref o), (1, .int x1), (2, .int x2)] dX5_roll_14 (Nat.le_of_ble_eq_true rfl) rfl ?_
  refine VJ.iload_n C 0 dX5_roll_15 rfl ?_
  refine VJ.if_lt C 28 dX5_roll_16 (by decide) (fun _ => ?_) (fun _ => ?_)
  · refine VJ.sub [] rfl ?_
    exact j28 I
  · refine VJ.iload_n C 0 dX5_roll_19 rfl ?_
    refine VJ.aload_n C 1 dX5_roll_20 rfl ?_
    refine VJ.get (C0 := RX5) (T := TX5) (N := 11) (ci := 5) C in_X5_roll_X5 0 rfl rfl 5 (Nat.le_of_ble_eq_true rfl) (C.1.2.2.2.2 _ (List.mem_of_getElem? (i := 4) rfl)) (fun _ h9 => h9) (v := .ref (rf 5)) rfl dX5_roll_21 ?_
    refine VJ.alen C 3 3 (v := 5) rfl rfl (show Int32.ofNat 5 = 5 by decide) dX5_roll_24 ?_
    refine VJ.icmp_lt C 38 dX5_roll_25 (by decide) (fun _ => ?_) (fun _ => ?_)
    · refine VJ.aload_n C 1 dX5_roll_38 rfl ?_
      refine VJ.get (C0 := RX5) (T := TX5) (N := 11) (ci := 5) C in_X5_roll_X5 0 rfl rfl 5 (Nat.le_of_ble_eq_true rfl) (C.1.2.2.2.2 _ (List.mem_of_getElem? (i := 4) rfl)) (fun _ h9 => h9) (v := .ref (rf 5)) rfl dX5_roll_39 ?_
      refine VJ.iload_n C 0 dX5_roll_42 rfl ?_
      refine VJ.rogI (fun hi9 => ?_)
      refine VJ.newO (ci := 4) (fs := [.int 0, .int 0, .null, .null, .int 0]) C (fun q => pf [xW cI cZ o ad I R rf, qW cU (rf 5) rs, [(q, .inr (4, [.int 0, .int 0, .null, .null, .int 0]))]]) (fun _ => rfl) in_X5_roll_X4 tyX4 tyX4_ok (C.1.2.2.2.2 _ (List.mem_of_getElem? (i := 5) rfl)) (C.1.2.2.2.2 _ (List.mem_of_getElem? (i := 6) rfl)) (C.1.2.2.2.2 _ (List.mem_of_getElem? (i := 7) rfl)) rfl five (Nat.le_of_ble_eq_true rfl) (Nat.le_of_ble_eq_true rfl) dX5_roll_43 (fun q => ?_)
      refine VJ.dup C dX5_roll_46 rfl ?_
      refine VJ.iload_n C 2 dX5_roll_47 rfl ?_
      refine VJ.iload_n C 3 dX5_roll_48 rfl ?_
      refine VJ.initN C [.int x1, .int x2] (pf [[(q, .inr (4, [.int 0, .int 0, .null, .null, .int 0]))]]) (pf [xW cI cZ o ad I R rf, qW cU (rf 5) rs]) (c_X4_init l G cI cZ cQ cU cJ q x1 x2) (fun _ _ h9 => h9.1) (vj_pf 3 [2, 0, 1] rfl rfl dq_2_0_1) ⟨va_cnB 2 C.1.2.2.2.2 gX5_roll_X4_init_n196 rfl rfl rfl (C.nestM (List.mem_of_getElem? (i := 57) rfl)) (C.1.2.2.2.2 _ (List.mem_of_getElem? (i := 7) rfl)) hy_X4_init ⟨(Nat.le_of_ble_eq_true rfl), (Nat.le_of_ble_eq_true rfl)⟩, rfl, (C.1.2.2.2.2 _ (List.mem_of_getElem? (i := 19) rfl))⟩ rfl rfl (Nat.le_of_ble_eq_true rfl) dX5_roll_49 ⟨(Nat.le_of_ble_eq_true rfl), (Nat.le_of_ble_eq_true rfl)⟩ (fun r9 M9 h9 => ?_)
      obtain ⟨rfl, adr, rfl⟩ := h9
      refine VJ.perm (M' := pf [xW cI cZ o ad I R rf, qW cU (rf 5) rs, rW cI cZ q adr 24 (va_up (va_up (fun _ => 0) 0 x1) 1 x2) (va_up (fun _ _ => 0) 0 (fillv 24 (fun _ => 0) (-1)))]) (vj_pf 3 [2, 0, 1] rfl rfl dq_2_0_1).symm ?_
      refine VJ.aastX (r := (RX4, TX4, 5)) C 3 3 4 4 rfl rfl rfl rfl hi9 (pf [xW cI cZ o ad I R rf, qW cU (rf 5) (va_up rs (v1).toNatClampNeg (some q)), rW cI cZ q adr 24 (va_up (va_up (fun _ => 0) 0 x1) 1 x2) (va_up (fun _ _ => 0) 0 (fillv 24 (fun _ => 0) (-1)))]) rfl dX5_roll_52 ?_
      refine VJ.aload_n C 1 dX5_roll_53 rfl ?_
      refine VJ.dup C dX5_roll_54 rfl ?_
      refine VJ.get (C0 := RX5) (T := TX5) (N := 11) (ci := 5) C in_X5_roll_X5 0 rfl rfl 10 (Nat.le_of_ble_eq_true rfl) (C.1.2.2.2.2 _ (List.mem_of_getElem? (i := 3) rfl)) (fun _ h9 => h9) (v := .int (I 2)) rfl dX5_roll_55 ?_
      refine VJ.iconst (v := 1) C dX5_roll_58 (by decide) ?_
      refine VJ.iadd C dX5_roll_59 ?_
      refine VJ.putI (C0 := RX5) (T := TX5) (N := 11) (ci := 5) C in_X5_roll_X5 0 rfl rfl 10 (Nat.le_of_ble_eq_true rfl) (C.1.2.2.2.2 _ (List.mem_of_getElem? (i := 3) rfl)) (fun _ h9 => h9) (Ii := I) (jj := 2) (fun I9 => pf [xW cI cZ o ad I9 R rf, qW cU (rf 5) (va_up rs (v1).toNatClampNeg (some q)), rW cI cZ q adr 24 (va_up (va_up (fun _ => 0) 0 x1) 1 x2) (va_up (fun _ _ => 0) 0 (fillv 24 (fun _ => 0) (-1)))]) tyX5 tyX5_ok nmX5 rfl rfl (Nat.le_of_ble_eq_true rfl) (fun _ => rfl) dX5_roll_60 (fun I9 => ?_)
      refine VJ.iload_n C 0 dX5_roll_63 rfl ?_
      exact VJ.iretP C rmX5_roll.cells rmX5_roll.slots (fun _ h9 => h9) ⟨rfl, fun _ => ⟨rfl, q, adr, rfl⟩, fun h9 => absurd rfl h9⟩ hret (Nat.le_of_ble_eq_true rfl) (Nat.le_of_ble_eq_true rfl) dX5_roll_64
    · refine VJ.sub [] rfl ?_
      exact j28 I
