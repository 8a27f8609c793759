

def f_X0_init (AL : List Nat) (AI : Nat → OI) (AR : Nat → OO) (a0 : Nat) (x1 : Int32) (x2 : Int32) (x3 : Int32) (x4 : Int32) (x5 : Int32) : Option ((Nat → OI) × (Nat → OO)) :=
  om a0 AL (om a0 AL (om a0 AL (om a0 AL (om a0 AL (om a0 AL (om a0 AL (om a0 AL (some (upI (upI (upI (upI (upI (upI (upI (upI AI a0 5 (-1)) a0 6 (-1)) a0 7 (-1)) a0 0 x1) a0 1 x2) a0 2 x3) a0 3 x4) a0 4 x5, AR)))))))))
abbrev rmX0_init : Room := { frames := 1, cells := 0, slots := 0, locals := 20 }
theorem in_X0_init_X0 : ∀ w ∈ u_ws RX0 TX0 10, w ∈ wsX0_init := in_of 12 rfl
theorem hy_X0_init : yX0_init.cls ≠ "java/lang/invoke/MethodHandle" ∧ yX0_init.cls ≠ "java/lang/invoke/VarHandle" ∧ (parseMethodDescriptor yX0_init.desc).map (fun d => d.parameters.length) = some 5 := by decide +kernel
theorem hyV_X0_init : yX0_init.cls = RX0 ∧ yX0_init.cls ≠ "java/lang/invoke/MethodHandle" ∧ yX0_init.cls ≠ "java/lang/invoke/VarHandle" ∧ (parseMethodDescriptor yX0_init.desc).map (fun d => d.parameters.length) = some 5 := ⟨rfl, hy_X0_init⟩
set_option maxHeartbeats 8000000 in
set_option maxRecDepth 100000 in
theorem c_X0_init (l : Launch) (G : va_G) (cI cZ cQ cU cJ : ClassId) (AL : List Nat) (AI : Nat → OI) (AR : Nat → OO) (a0 : Nat) (x1 : Int32) (x2 : Int32) (x3 : Int32) (x4 : Int32) (x5 : Int32) (out : (Nat → OI) × (Nat → OO)) (hf : f_X0_init AL AI AR a0 x1 x2 x3 x4 x5 = some out) : Con l yX0_init wsX0_init rmX0_init G vwCl (tys cI cZ cQ cU cJ) nws [.ref a0, .int x1, .int x2, .int x3, .int x4, .int x5] (pf [pW AL AI AR]) (none) (pf [pW AL out.1 out.2]) := by
  refine con_of (rv := fun out : (Nat → OI) × (Nat → OO) => none) (Wd := fun out : (Nat → OI) × (Nat → OO) => pf [pW AL out.1 out.2]) (maxL := 6) (own := RX0) rfl (plainFor_of_name (by decide +kernel)) rfl (Nat.le_of_ble_eq_true rfl) ?_ hf
  intro p e s m args below meth c A C hret hname
  unfold f_X0_init
  refine VJ.aload_n C 0 dX0_init_0 rfl ?_
  refine VJ.objInit C (C.1.2.2.2.2 _ (List.mem_of_getElem? (i := 1) rfl)) (C.1.2.2.2.2 _ (List.mem_of_getElem? (i := 2) rfl)) (C.1.2.2.2.2 _ (List.mem_of_getElem? (i := 3) rfl)) dX0_init_1 (Nat.le_of_ble_eq_true rfl) (Nat.le_of_ble_eq_true rfl) ?_
  refine VJ.aload_n C 0 dX0_init_4 rfl ?_
  refine VJ.iconst (v := (-1)) C dX0_init_5 (by decide) ?_
  refine VJ.rom (fun h9 => ?_)
  obtain ⟨p1, ep1⟩ := pool_at (ps := [pW AL AI AR]) (List.mem_of_getElem? (i := 0) rfl) h9
  refine VJ.putP (C0 := RX0) (T := TX0) (N := 10) (ci := 0) C in_X0_init_X0 p1 ep1 rfl 5 (Nat.le_of_ble_eq_true rfl) (C.1.2.2.2.2 _ (List.mem_of_getElem? (i := 4) rfl)) (fun _ h9 => h9) (pf [pW AL (upI AI a0 5 (-1)) AR]) tyX0 tyX0_ok nmX0 rfl (fty := .int) rfl (vp_nar_int _) rfl (Nat.le_of_ble_eq_true rfl) (fun hD9 => pool_setI (X := []) 5 (by decide) _ h9 ep1 hD9) dX0_init_6 ?_
  refine VJ.aload_n C 0 dX0_init_9 rfl ?_
  refine VJ.iconst (v := (-1)) C dX0_init_10 (by decide) ?_
  refine VJ.rom (fun h9 => ?_)
  obtain ⟨p2, ep2⟩ := pool_at (ps := [pW AL (upI AI a0 5 (-1)) AR]) (List.mem_of_getElem? (i := 0) rfl) h9
  refine VJ.putP (C0 := RX0) (T := TX0) (N := 10) (ci := 0) C in_X0_init_X0 p2 ep2 rfl 6 (Nat.le_of_ble_eq_true rfl) (C.1.2.2.2.2 _ (List.mem_of_getElem? (i := 5) rfl)) (fun _ h9 => h9) (pf [pW AL (upI (upI AI a0 5 (-1)) a0 6 (-1)) AR]) tyX0 tyX0_ok nmX0 rfl (fty := .int) rfl (vp_nar_int _) rfl (Nat.le_of_ble_eq_true rfl) (fun hD9 => pool_setI (X := []) 6 (by decide) _ h9 ep2 hD9) dX0_init_11 ?_
  refine VJ.aload_n C 0 dX0_init_14 rfl ?_
  refine VJ.iconst (v := (-1)) C dX0_init_15 (by decide) ?_
  refine VJ.rom (fun h9 => ?_)
  obtain ⟨p3, ep3⟩ := pool_at (ps := [pW AL (upI (upI AI a0 5 (-1)) a0 6 (-1)) AR]) (List.mem_of_getElem? (i := 0) rfl) h9
  refine VJ.putP (C0 := RX0) (T := TX0) (N := 10) (ci := 0) C in_X0_init_X0 p3 ep3 rfl 7 (Nat.le_of_ble_eq_true rfl) (C.1.2.2.2.2 _ (List.mem_of_getElem? (i := 6) rfl)) (fun _ h9 => h9) (pf [pW AL (upI (upI (upI AI a0 5 (-1)) a0 6 (-1)) a0 7 (-1)) AR]) tyX0 tyX0_ok nmX0 rfl (fty := .int) rfl (vp_nar_int _) rfl (Nat.le_of_ble_eq_true rfl) (fun hD9 => pool_setI (X := []) 7 (by decide) _ h9 ep3 hD9) dX0_init_16 ?_
  refine VJ.aload_n C 0 dX0_init_19 rfl ?_
  refine VJ.iload_n C 1 dX0_init_20 rfl ?_
  refine VJ.rom (fun h9 => ?_)
  obtain ⟨p4, ep4⟩ := pool_at (ps := [pW AL (upI (upI (upI AI a0 5 (-1)) a0 6 (-1)) a0 7 (-1)) AR]) (List.mem_of_getElem? (i := 0) rfl) h9
  refine VJ.putFF (C0 := RX0) (T := TX0) (N := 10) (ci := 0) C in_X0_init_X0 p4 ep4 rfl 0 (Nat.le_of_ble_eq_true rfl) (C.1.2.2.2.2 _ (List.mem_of_getElem? (i := 7) rfl)) (fun _ h9 => h9) (pf [pW AL (upI (upI (upI (upI AI a0 5 (-1)) a0 6 (-1)) a0 7 (-1)) a0 0 x1) AR]) tyX0 tyX0_ok nmX0 rfl hname rfl (fty := .int) rfl (vp_nar_int _) rfl (Nat.le_of_ble_eq_true rfl) (fun hD9 => pool_setI (X := []) 0 (by decide) _ h9 ep4 hD9) dX0_init_21 ?_
  refine VJ.aload_n C 0 dX0_init_24 rfl ?_
  refine VJ.iload_n C 2 dX0_init_25 rfl ?_
  refine VJ.rom (fun h9 => ?_)
  obtain ⟨p5, ep5⟩ := pool_at (ps := [pW AL (upI (upI (upI (upI AI a0 5 (-1)) a0 6 (-1)) a0 7 (-1)) a0 0 x1) AR]) (List.mem_of_getElem? (i := 0) rfl) h9
  refine VJ.putFF (C0 := RX0) (T := TX0) (N := 10) (ci := 0) C in_X0_init_X0 p5 ep5 rfl 1 (Nat.le_of_ble_eq_true rfl) (C.1.2.2.2.2 _ (List.mem_of_getElem? (i := 8) rfl)) (fun _ h9 => h9) (pf [pW AL (upI (upI (upI (upI (upI AI a0 5 (-1)) a0 6 (-1)) a0 7 (-1)) a0 0 x1) a0 1 x2) AR]) tyX0 tyX0_ok nmX0 rfl hname rfl (fty := .int) rfl (vp_nar_int _) rfl (Nat.le_of_ble_eq_true rfl) (fun hD9 => pool_setI (X := []) 1 (by decide) _ h9 ep5 hD9) dX0_init_26 ?_
  refine VJ.aload_n C 0 dX0_init_29 rfl ?_
  refine VJ.iload_n C 3 dX0_init_30 rfl ?_
  refine VJ.rom (fun h9 => ?_)
  obtain ⟨p6, ep6⟩ := pool_at (ps := [pW AL (upI (upI (upI (upI (upI AI a0 5 (-1)) a0 6 (-1)) a0 7 (-1)) a0 0 x1) a0 1 x2) AR]) (List.mem_of_getElem? (i := 0) rfl) h9
  refine VJ.putFF (C0 := RX0) (T := TX0) (N := 10) (ci := 0) C in_X0_init_X0 p6 ep6 rfl 2 (Nat.le_of_ble_eq_true rfl) (C.1.2.2.2.2 _ (List.mem_of_getElem? (i := 9) rfl)) (fun _ h9 => h9) (pf [pW AL (upI (upI (upI (upI (upI (upI AI a0 5 (-1)) a0 6 (-1)) a0 7 (-1)) a0 0 x1) a0 1 x2) a0 2 x3) AR]) tyX0 tyX0_ok nmX0 rfl hname rfl (fty := .int) rfl (vp_nar_int _) rfl (Nat.le_of_ble_eq_true rfl) (fun hD9 => pool_setI (X := []) 2 (by decide) _ h9 ep6 hD9) dX0_init_31 ?_
  refine VJ.aload_n C 0 dX0_init_34 rfl ?_
  refine VJ.iload C 4 dX0_init_35 rfl ?_
  refine VJ.rom (fun h9 => ?_)
  obtain ⟨p7, ep7⟩ := pool_at (ps := [pW AL (upI (upI (upI (upI (upI (upI AI a0 5 (-1)) a0 6 (-1)) a0 7 (-1)) a0 0 x1) a0 1 x2) a0 2 x3) AR]) (List.mem_of_getElem? (i := 0) rfl) h9
  refine VJ.putFF (C0 := RX0) (T := TX0) (N := 10) (ci := 0) C in_X0_init_X0 p7 ep7 rfl 3 (Nat.le_of_ble_eq_true rfl) (C.1.2.2.2.2 _ (List.mem_of_getElem? (i := 10) rfl)) (fun _ h9 => h9) (pf [pW AL (upI (upI (upI (upI (upI (upI (upI AI a0 5 (-1)) a0 6 (-1)) a0 7 (-1)) a0 0 x1) a0 1 x2) a0 2 x3) a0 3 x4) AR]) tyX0 tyX0_ok nmX0 rfl hname rfl (fty := .int) rfl (vp_nar_int _) rfl (Nat.le_of_ble_eq_true rfl) (fun hD9 => pool_setI (X := []) 3 (by decide) _ h9 ep7 hD9) dX0_init_37 ?_
  refine VJ.aload_n C 0 dX0_init_40 rfl ?_
  refine VJ.iload C 5 dX0_init_41 rfl ?_
  refine VJ.rom (fun h9 => ?_)
  obtain ⟨p8, ep8⟩ := pool_at (ps := [pW AL (upI (upI (upI (upI (upI (upI (upI AI a0 5 (-1)) a0 6 (-1)) a0 7 (-1)) a0 0 x1) a0 1 x2) a0 2 x3) a0 3 x4) AR]) (List.mem_of_getElem? (i := 0) rfl) h9
  refine VJ.putFF (C0 := RX0) (T := TX0) (N := 10) (ci := 0) C in_X0_init_X0 p8 ep8 rfl 4 (Nat.le_of_ble_eq_true rfl) (C.1.2.2.2.2 _ (List.mem_of_getElem? (i := 11) rfl)) (fun _ h9 => h9) (pf [pW AL (upI (upI (upI (upI (upI (upI (upI (upI AI a0 5 (-1)) a0 6 (-1)) a0 7 (-1)) a0 0 x1) a0 1 x2) a0 2 x3) a0 3 x4) a0 4 x5) AR]) tyX0 tyX0_ok nmX0 rfl hname rfl (fty := .int) rfl (vp_nar_int _) rfl (Nat.le_of_ble_eq_true rfl) (fun hD9 => pool_setI (X := []) 4 (by decide) _ h9 ep8 hD9) dX0_init_43 ?_
  exact VJ.vret C hret rfl rfl dX0_init_46

