def kode (a : Nat) : Int64 := if a = 1 then -9000000000000000001 else if a = 2 then -9000000000000000002 else -9000000000000000003
abbrev rmL_pass : Room := { frames := 8, cells := 2, slots := 12, locals := 133 }
theorem hy_L_pass : yL_pass.cls ≠ "java/lang/invoke/MethodHandle" ∧ yL_pass.cls ≠ "java/lang/invoke/VarHandle" ∧ (parseMethodDescriptor yL_pass.desc).map (fun d => d.parameters.length) = some 2 := by decide +kernel
set_option maxHeartbeats 8000000 in
set_option maxRecDepth 100000 in
theorem c_L_pass (l : Launch) (hl9 : l.stackTraces = false) (G : va_G) (cI cZ cQ cU cJ : ClassId) (x : Nat) (x1 : Int32) (M0 : va_W) (Pc : Nat → Option Value → va_W → Prop) (fs : List Value) (hx0 : M0[0]? = some (x, .inr (5, fs))) (hcon : ConX l yX5_pass wsX5_pass rmX5_pass G vwCl (tys cI cZ cQ cU cJ) nws strs (.ref x :: [.int x1]) M0 Pc) (hint : ∀ r M1, Pc 0 r M1 → ∃ v, r = some (.int v)) (hno : ∀ k r M1, Pc (k + 1) r M1 → k = 1 ∨ k = 2) : ConW l yL_pass wsL_pass rmL_pass G vwCl (tys cI cZ cQ cU cJ) nws strs [.ref x, .int x1] M0 (fun _ r M' => (∃ v, Pc 0 (some (.int v)) M' ∧ r = some (.long v.toInt64)) ∨ (∃ k rr, Pc (k + 1) rr M' ∧ r = some (.long (kode (k + 1))))) := by
  refine conW_of (cc := cL_pass) (maxL := 3) (own := RL) hl9 rfl (plainFor_of_name (by decide +kernel)) rfl (Nat.le_of_ble_eq_true rfl) ?_
  intro p e s m args below meth c A CX hN hret htab
  have C := CX.1
  refine VJ.aload_n C 0 dL_pass_0 rfl ?_
  refine VJ.iload_n C 1 dL_pass_1 rfl ?_
  refine VJ.tryV CX [.int x1] M0 [] hcon (vj_p0 _) 0 hx0 rfl (cwV 1 C.1.2.2.2.2 gL_pass_X5_pass rfl rfl rfl hyV_X5_pass ⟨Nat.le_of_ble_eq_true rfl, Nat.le_of_ble_eq_true rfl⟩) rfl rfl (Nat.le_of_ble_eq_true rfl) dL_pass_2 ⟨Nat.le_of_ble_eq_true rfl, Nat.le_of_ble_eq_true rfl⟩ ?_ ?_
  · intro r M1 h1
    obtain ⟨v, rfl⟩ := hint r M1 h1
    refine VJ.cM (M' := M1) (List.append_nil M1) ?_
    refine VJ.i2l C dL_pass_5 ?_
    exact VJ.lretN C rmL_pass.cells rmL_pass.slots (fun _ h9 => h9) (Or.inl ⟨v, h1, rfl⟩) hret (Nat.le_of_ble_eq_true rfl) (Nat.le_of_ble_eq_true rfl) dL_pass_6
  · intro k r M1 h1
    rcases hno k r M1 h1 with rfl | rfl
    · refine ⟨7, fun H locs ls Q ce q h5 h6 h7 h8 => vj_catch (hh := [(0, 6, 7, 15), (0, 6, 12, 19)]) (pre := []) (x := (0, 6, 7, 15)) (suf := [(0, 6, 12, 19)]) C.1.2.2.2.1 htab rfl (fun z hz => absurd hz List.not_mem_nil) (by decide) (by decide) (C.1.2.2.2.2 _ (List.mem_of_getElem? (i := 1) rfl)) (C.nest (List.mem_of_getElem? (i := 67) rfl) rfl) h5 h6 h7 h8, fun q => ?_⟩
      refine VJ.cM (M' := M1) (List.append_nil M1) ?_
      refine VJ.astore_n C [(2, .ref q), (0, .ref x), (1, .int x1)] dL_pass_7 (Nat.le_of_ble_eq_true rfl) rfl ?_
      refine VJ.ldc2 (v := -9000000000000000002) C (C.1.2.2.2.2 _ (List.mem_of_getElem? (i := 3) rfl)) dL_pass_8 ?_
      exact VJ.lretN C rmL_pass.cells rmL_pass.slots (fun _ h9 => h9) (Or.inr ⟨1, r, h1, rfl⟩) hret (Nat.le_of_ble_eq_true rfl) (Nat.le_of_ble_eq_true rfl) dL_pass_11
    · refine ⟨12, fun H locs ls Q ce q h5 h6 h7 h8 => vj_catch (hh := [(0, 6, 7, 15), (0, 6, 12, 19)]) (pre := [(0, 6, 7, 15)]) (x := (0, 6, 12, 19)) (suf := []) C.1.2.2.2.1 htab rfl (vj_all ⟨by decide, "java/lang/IllegalArgumentException", (C.1.2.2.2.2 _ (List.mem_of_getElem? (i := 1) rfl)), hN.2.2⟩ (fun z hz => absurd hz List.not_mem_nil)) (by decide) (by decide) (C.1.2.2.2.2 _ (List.mem_of_getElem? (i := 2) rfl)) (C.nest (List.mem_of_getElem? (i := 68) rfl) rfl) h5 h6 h7 h8, fun q => ?_⟩
      refine VJ.cM (M' := M1) (List.append_nil M1) ?_
      refine VJ.astore_n C [(2, .ref q), (0, .ref x), (1, .int x1)] dL_pass_12 (Nat.le_of_ble_eq_true rfl) rfl ?_
      refine VJ.ldc2 (v := -9000000000000000003) C (C.1.2.2.2.2 _ (List.mem_of_getElem? (i := 4) rfl)) dL_pass_13 ?_
      exact VJ.lretN C rmL_pass.cells rmL_pass.slots (fun _ h9 => h9) (Or.inr ⟨2, r, h1, rfl⟩) hret (Nat.le_of_ble_eq_true rfl) (Nat.le_of_ble_eq_true rfl) dL_pass_16

abbrev rmL_birth : Room := { frames := 9, cells := 7, slots := 46, locals := 159 }
theorem hy_L_birth : yL_birth.cls ≠ "java/lang/invoke/MethodHandle" ∧ yL_birth.cls ≠ "java/lang/invoke/VarHandle" ∧ (parseMethodDescriptor yL_birth.desc).map (fun d => d.parameters.length) = some 5 := by decide +kernel
set_option maxHeartbeats 8000000 in
set_option maxRecDepth 100000 in
theorem c_L_birth (l : Launch) (hl9 : l.stackTraces = false) (G : va_G) (cI cZ cQ cU cJ : ClassId) (x : Nat) (x1 x2 x3 x4 : Int32) (M0 : va_W) (Pc : Nat → Option Value → va_W → Prop) (fs : List Value) (hx0 : M0[0]? = some (x, .inr (5, fs))) (hcon : ConX l yX5_birth wsX5_birth rmX5_birth G vwCl (tys cI cZ cQ cU cJ) nws strs (.ref x :: [.int x1, .int x2, .int x3, .int x4]) M0 Pc) (hint : ∀ r M1, Pc 0 r M1 → ∃ v, r = some (.int v)) (hno : ∀ k r M1, Pc (k + 1) r M1 → k = 0 ∨ k = 1 ∨ k = 2) : ConW l yL_birth wsL_birth rmL_birth G vwCl (tys cI cZ cQ cU cJ) nws strs [.ref x, .int x1, .int x2, .int x3, .int x4] M0 (fun _ r M' => (∃ v, Pc 0 (some (.int v)) M' ∧ r = some (.long v.toInt64)) ∨ (∃ k rr, Pc (k + 1) rr M' ∧ r = some (.long (kode (k + 1))))) := by
  refine conW_of (cc := cL_birth) (maxL := 6) (own := RL) hl9 rfl (plainFor_of_name (by decide +kernel)) rfl (Nat.le_of_ble_eq_true rfl) ?_
  intro p e s m args below meth c A CX hN hret htab
  have C := CX.1
  refine VJ.aload_n C 0 dL_birth_0 rfl ?_
  refine VJ.iload_n C 1 dL_birth_1 rfl ?_
  refine VJ.iload_n C 2 dL_birth_2 rfl ?_
  refine VJ.iload_n C 3 dL_birth_3 rfl ?_
  refine VJ.iload C 4 dL_birth_4 rfl ?_
  refine VJ.tryV CX [.int x1, .int x2, .int x3, .int x4] M0 [] hcon (vj_p0 _) 0 hx0 rfl (cwV 4 C.1.2.2.2.2 gL_birth_X5_birth rfl rfl rfl hyV_X5_birth ⟨Nat.le_of_ble_eq_true rfl, Nat.le_of_ble_eq_true rfl⟩) rfl rfl (Nat.le_of_ble_eq_true rfl) dL_birth_6 ⟨Nat.le_of_ble_eq_true rfl, Nat.le_of_ble_eq_true rfl⟩ ?_ ?_
  · intro r M1 h1
    obtain ⟨v, rfl⟩ := hint r M1 h1
    refine VJ.cM (M' := M1) (List.append_nil M1) ?_
    refine VJ.i2l C dL_birth_9 ?_
    exact VJ.lretN C rmL_birth.cells rmL_birth.slots (fun _ h9 => h9) (Or.inl ⟨v, h1, rfl⟩) hret (Nat.le_of_ble_eq_true rfl) (Nat.le_of_ble_eq_true rfl) dL_birth_10
  · intro k r M1 h1
    rcases hno k r M1 h1 with rfl | rfl | rfl
    · refine ⟨11, fun H locs ls Q ce q h5 h6 h7 h8 => vj_catch (hh := [(0, 10, 11, 27), (0, 10, 17, 15), (0, 10, 23, 19)]) (pre := []) (x := (0, 10, 11, 27)) (suf := [(0, 10, 17, 15), (0, 10, 23, 19)]) C.1.2.2.2.1 htab rfl (fun z hz => absurd hz List.not_mem_nil) (by decide) (by decide) (C.1.2.2.2.2 _ (List.mem_of_getElem? (i := 1) rfl)) (C.nest (List.mem_of_getElem? (i := 66) rfl) rfl) h5 h6 h7 h8, fun q => ?_⟩
      refine VJ.cM (M' := M1) (List.append_nil M1) ?_
      refine VJ.astore C [(5, .ref q), (0, .ref x), (1, .int x1), (2, .int x2), (3, .int x3), (4, .int x4)] dL_birth_11 (Nat.le_of_ble_eq_true rfl) rfl ?_
      refine VJ.ldc2 (v := -9000000000000000001) C (C.1.2.2.2.2 _ (List.mem_of_getElem? (i := 4) rfl)) dL_birth_13 ?_
      exact VJ.lretN C rmL_birth.cells rmL_birth.slots (fun _ h9 => h9) (Or.inr ⟨0, r, h1, rfl⟩) hret (Nat.le_of_ble_eq_true rfl) (Nat.le_of_ble_eq_true rfl) dL_birth_16
    · refine ⟨17, fun H locs ls Q ce q h5 h6 h7 h8 => vj_catch (hh := [(0, 10, 11, 27), (0, 10, 17, 15), (0, 10, 23, 19)]) (pre := [(0, 10, 11, 27)]) (x := (0, 10, 17, 15)) (suf := [(0, 10, 23, 19)]) C.1.2.2.2.1 htab rfl (vj_all ⟨by decide, "java/lang/IndexOutOfBoundsException", (C.1.2.2.2.2 _ (List.mem_of_getElem? (i := 1) rfl)), hN.1⟩ (fun z hz => absurd hz List.not_mem_nil)) (by decide) (by decide) (C.1.2.2.2.2 _ (List.mem_of_getElem? (i := 2) rfl)) (C.nest (List.mem_of_getElem? (i := 67) rfl) rfl) h5 h6 h7 h8, fun q => ?_⟩
      refine VJ.cM (M' := M1) (List.append_nil M1) ?_
      refine VJ.astore C [(5, .ref q), (0, .ref x), (1, .int x1), (2, .int x2), (3, .int x3), (4, .int x4)] dL_birth_17 (Nat.le_of_ble_eq_true rfl) rfl ?_
      refine VJ.ldc2 (v := -9000000000000000002) C (C.1.2.2.2.2 _ (List.mem_of_getElem? (i := 5) rfl)) dL_birth_19 ?_
      exact VJ.lretN C rmL_birth.cells rmL_birth.slots (fun _ h9 => h9) (Or.inr ⟨1, r, h1, rfl⟩) hret (Nat.le_of_ble_eq_true rfl) (Nat.le_of_ble_eq_true rfl) dL_birth_22
    · refine ⟨23, fun H locs ls Q ce q h5 h6 h7 h8 => vj_catch (hh := [(0, 10, 11, 27), (0, 10, 17, 15), (0, 10, 23, 19)]) (pre := [(0, 10, 11, 27), (0, 10, 17, 15)]) (x := (0, 10, 23, 19)) (suf := []) C.1.2.2.2.1 htab rfl (vj_all ⟨by decide, "java/lang/IndexOutOfBoundsException", (C.1.2.2.2.2 _ (List.mem_of_getElem? (i := 1) rfl)), hN.2.1⟩ (vj_all ⟨by decide, "java/lang/IllegalArgumentException", (C.1.2.2.2.2 _ (List.mem_of_getElem? (i := 2) rfl)), hN.2.2⟩ (fun z hz => absurd hz List.not_mem_nil))) (by decide) (by decide) (C.1.2.2.2.2 _ (List.mem_of_getElem? (i := 3) rfl)) (C.nest (List.mem_of_getElem? (i := 68) rfl) rfl) h5 h6 h7 h8, fun q => ?_⟩
      refine VJ.cM (M' := M1) (List.append_nil M1) ?_
      refine VJ.astore C [(5, .ref q), (0, .ref x), (1, .int x1), (2, .int x2), (3, .int x3), (4, .int x4)] dL_birth_23 (Nat.le_of_ble_eq_true rfl) rfl ?_
      refine VJ.ldc2 (v := -9000000000000000003) C (C.1.2.2.2.2 _ (List.mem_of_getElem? (i := 6) rfl)) dL_birth_25 ?_
      exact VJ.lretN C rmL_birth.cells rmL_birth.slots (fun _ h9 => h9) (Or.inr ⟨2, r, h1, rfl⟩) hret (Nat.le_of_ble_eq_true rfl) (Nat.le_of_ble_eq_true rfl) dL_birth_28

abbrev rmL_move : Room := { frames := 9, cells := 5, slots := 34, locals := 157 }
theorem hy_L_move : yL_move.cls ≠ "java/lang/invoke/MethodHandle" ∧ yL_move.cls ≠ "java/lang/invoke/VarHandle" ∧ (parseMethodDescriptor yL_move.desc).map (fun d => d.parameters.length) = some 4 := by decide +kernel
set_option maxHeartbeats 8000000 in
set_option maxRecDepth 100000 in
theorem c_L_move (l : Launch) (hl9 : l.stackTraces = false) (G : va_G) (cI cZ cQ cU cJ : ClassId) (x : Nat) (x1 x2 x3 : Int32) (M0 : va_W) (Pc : Nat → Option Value → va_W → Prop) (fs : List Value) (hx0 : M0[0]? = some (x, .inr (5, fs))) (hcon : ConX l yX5_move wsX5_move rmX5_move G vwCl (tys cI cZ cQ cU cJ) nws strs (.ref x :: [.int x1, .int x2, .int x3]) M0 Pc) (hint : ∀ r M1, Pc 0 r M1 → ∃ v, r = some (.int v)) (hno : ∀ k r M1, Pc (k + 1) r M1 → k = 0 ∨ k = 1 ∨ k = 2) : ConW l yL_move wsL_move rmL_move G vwCl (tys cI cZ cQ cU cJ) nws strs [.ref x, .int x1, .int x2, .int x3] M0 (fun _ r M' => (∃ v, Pc 0 (some (.int v)) M' ∧ r = some (.long v.toInt64)) ∨ (∃ k rr, Pc (k + 1) rr M' ∧ r = some (.long (kode (k + 1))))) := by
  refine conW_of (cc := cL_move) (maxL := 5) (own := RL) hl9 rfl (plainFor_of_name (by decide +kernel)) rfl (Nat.le_of_ble_eq_true rfl) ?_
  intro p e s m args below meth c A CX hN hret htab
  have C := CX.1
  refine VJ.aload_n C 0 dL_move_0 rfl ?_
  refine VJ.iload_n C 1 dL_move_1 rfl ?_
  refine VJ.iload_n C 2 dL_move_2 rfl ?_
  refine VJ.iload_n C 3 dL_move_3 rfl ?_
  refine VJ.tryV CX [.int x1, .int x2, .int x3] M0 [] hcon (vj_p0 _) 0 hx0 rfl (cwV 3 C.1.2.2.2.2 gL_move_X5_move rfl rfl rfl hyV_X5_move ⟨Nat.le_of_ble_eq_true rfl, Nat.le_of_ble_eq_true rfl⟩) rfl rfl (Nat.le_of_ble_eq_true rfl) dL_move_4 ⟨Nat.le_of_ble_eq_true rfl, Nat.le_of_ble_eq_true rfl⟩ ?_ ?_
  · intro r M1 h1
    obtain ⟨v, rfl⟩ := hint r M1 h1
    refine VJ.cM (M' := M1) (List.append_nil M1) ?_
    refine VJ.i2l C dL_move_7 ?_
    exact VJ.lretN C rmL_move.cells rmL_move.slots (fun _ h9 => h9) (Or.inl ⟨v, h1, rfl⟩) hret (Nat.le_of_ble_eq_true rfl) (Nat.le_of_ble_eq_true rfl) dL_move_8
  · intro k r M1 h1
    rcases hno k r M1 h1 with rfl | rfl | rfl
    · refine ⟨9, fun H locs ls Q ce q h5 h6 h7 h8 => vj_catch (hh := [(0, 8, 9, 27), (0, 8, 15, 15), (0, 8, 21, 19)]) (pre := []) (x := (0, 8, 9, 27)) (suf := [(0, 8, 15, 15), (0, 8, 21, 19)]) C.1.2.2.2.1 htab rfl (fun z hz => absurd hz List.not_mem_nil) (by decide) (by decide) (C.1.2.2.2.2 _ (List.mem_of_getElem? (i := 1) rfl)) (C.nest (List.mem_of_getElem? (i := 66) rfl) rfl) h5 h6 h7 h8, fun q => ?_⟩
      refine VJ.cM (M' := M1) (List.append_nil M1) ?_
      refine VJ.astore C [(4, .ref q), (0, .ref x), (1, .int x1), (2, .int x2), (3, .int x3)] dL_move_9 (Nat.le_of_ble_eq_true rfl) rfl ?_
      refine VJ.ldc2 (v := -9000000000000000001) C (C.1.2.2.2.2 _ (List.mem_of_getElem? (i := 4) rfl)) dL_move_11 ?_
      exact VJ.lretN C rmL_move.cells rmL_move.slots (fun _ h9 => h9) (Or.inr ⟨0, r, h1, rfl⟩) hret (Nat.le_of_ble_eq_true rfl) (Nat.le_of_ble_eq_true rfl) dL_move_14
    · refine ⟨15, fun H locs ls Q ce q h5 h6 h7 h8 => vj_catch (hh := [(0, 8, 9, 27), (0, 8, 15, 15), (0, 8, 21, 19)]) (pre := [(0, 8, 9, 27)]) (x := (0, 8, 15, 15)) (suf := [(0, 8, 21, 19)]) C.1.2.2.2.1 htab rfl (vj_all ⟨by decide, "java/lang/IndexOutOfBoundsException", (C.1.2.2.2.2 _ (List.mem_of_getElem? (i := 1) rfl)), hN.1⟩ (fun z hz => absurd hz List.not_mem_nil)) (by decide) (by decide) (C.1.2.2.2.2 _ (List.mem_of_getElem? (i := 2) rfl)) (C.nest (List.mem_of_getElem? (i := 67) rfl) rfl) h5 h6 h7 h8, fun q => ?_⟩
      refine VJ.cM (M' := M1) (List.append_nil M1) ?_
      refine VJ.astore C [(4, .ref q), (0, .ref x), (1, .int x1), (2, .int x2), (3, .int x3)] dL_move_15 (Nat.le_of_ble_eq_true rfl) rfl ?_
      refine VJ.ldc2 (v := -9000000000000000002) C (C.1.2.2.2.2 _ (List.mem_of_getElem? (i := 5) rfl)) dL_move_17 ?_
      exact VJ.lretN C rmL_move.cells rmL_move.slots (fun _ h9 => h9) (Or.inr ⟨1, r, h1, rfl⟩) hret (Nat.le_of_ble_eq_true rfl) (Nat.le_of_ble_eq_true rfl) dL_move_20
    · refine ⟨21, fun H locs ls Q ce q h5 h6 h7 h8 => vj_catch (hh := [(0, 8, 9, 27), (0, 8, 15, 15), (0, 8, 21, 19)]) (pre := [(0, 8, 9, 27), (0, 8, 15, 15)]) (x := (0, 8, 21, 19)) (suf := []) C.1.2.2.2.1 htab rfl (vj_all ⟨by decide, "java/lang/IndexOutOfBoundsException", (C.1.2.2.2.2 _ (List.mem_of_getElem? (i := 1) rfl)), hN.2.1⟩ (vj_all ⟨by decide, "java/lang/IllegalArgumentException", (C.1.2.2.2.2 _ (List.mem_of_getElem? (i := 2) rfl)), hN.2.2⟩ (fun z hz => absurd hz List.not_mem_nil))) (by decide) (by decide) (C.1.2.2.2.2 _ (List.mem_of_getElem? (i := 3) rfl)) (C.nest (List.mem_of_getElem? (i := 68) rfl) rfl) h5 h6 h7 h8, fun q => ?_⟩
      refine VJ.cM (M' := M1) (List.append_nil M1) ?_
      refine VJ.astore C [(4, .ref q), (0, .ref x), (1, .int x1), (2, .int x2), (3, .int x3)] dL_move_21 (Nat.le_of_ble_eq_true rfl) rfl ?_
      refine VJ.ldc2 (v := -9000000000000000003) C (C.1.2.2.2.2 _ (List.mem_of_getElem? (i := 6) rfl)) dL_move_23 ?_
      exact VJ.lretN C rmL_move.cells rmL_move.slots (fun _ h9 => h9) (Or.inr ⟨2, r, h1, rfl⟩) hret (Nat.le_of_ble_eq_true rfl) (Nat.le_of_ble_eq_true rfl) dL_move_26

abbrev rmL_naming : Room := { frames := 9, cells := 5, slots := 34, locals := 157 }
theorem hy_L_naming : yL_naming.cls ≠ "java/lang/invoke/MethodHandle" ∧ yL_naming.cls ≠ "java/lang/invoke/VarHandle" ∧ (parseMethodDescriptor yL_naming.desc).map (fun d => d.parameters.length) = some 4 := by decide +kernel
set_option maxHeartbeats 8000000 in
set_option maxRecDepth 100000 in
theorem c_L_naming (l : Launch) (hl9 : l.stackTraces = false) (G : va_G) (cI cZ cQ cU cJ : ClassId) (x : Nat) (x1 x2 x3 : Int32) (M0 : va_W) (Pc : Nat → Option Value → va_W → Prop) (fs : List Value) (hx0 : M0[0]? = some (x, .inr (5, fs))) (hcon : ConX l yX5_naming wsX5_naming rmX5_naming G vwCl (tys cI cZ cQ cU cJ) nws strs (.ref x :: [.int x1, .int x2, .int x3]) M0 Pc) (hint : ∀ r M1, Pc 0 r M1 → ∃ v, r = some (.int v)) (hno : ∀ k r M1, Pc (k + 1) r M1 → k = 0 ∨ k = 1 ∨ k = 2) : ConW l yL_naming wsL_naming rmL_naming G vwCl (tys cI cZ cQ cU cJ) nws strs [.ref x, .int x1, .int x2, .int x3] M0 (fun _ r M' => (∃ v, Pc 0 (some (.int v)) M' ∧ r = some (.long v.toInt64)) ∨ (∃ k rr, Pc (k + 1) rr M' ∧ r = some (.long (kode (k + 1))))) := by
  refine conW_of (cc := cL_naming) (maxL := 5) (own := RL) hl9 rfl (plainFor_of_name (by decide +kernel)) rfl (Nat.le_of_ble_eq_true rfl) ?_
  intro p e s m args below meth c A CX hN hret htab
  have C := CX.1
  refine VJ.aload_n C 0 dL_naming_0 rfl ?_
  refine VJ.iload_n C 1 dL_naming_1 rfl ?_
  refine VJ.iload_n C 2 dL_naming_2 rfl ?_
  refine VJ.iload_n C 3 dL_naming_3 rfl ?_
  refine VJ.tryV CX [.int x1, .int x2, .int x3] M0 [] hcon (vj_p0 _) 0 hx0 rfl (cwV 3 C.1.2.2.2.2 gL_naming_X5_naming rfl rfl rfl hyV_X5_naming ⟨Nat.le_of_ble_eq_true rfl, Nat.le_of_ble_eq_true rfl⟩) rfl rfl (Nat.le_of_ble_eq_true rfl) dL_naming_4 ⟨Nat.le_of_ble_eq_true rfl, Nat.le_of_ble_eq_true rfl⟩ ?_ ?_
  · intro r M1 h1
    obtain ⟨v, rfl⟩ := hint r M1 h1
    refine VJ.cM (M' := M1) (List.append_nil M1) ?_
    refine VJ.i2l C dL_naming_7 ?_
    exact VJ.lretN C rmL_naming.cells rmL_naming.slots (fun _ h9 => h9) (Or.inl ⟨v, h1, rfl⟩) hret (Nat.le_of_ble_eq_true rfl) (Nat.le_of_ble_eq_true rfl) dL_naming_8
  · intro k r M1 h1
    rcases hno k r M1 h1 with rfl | rfl | rfl
    · refine ⟨9, fun H locs ls Q ce q h5 h6 h7 h8 => vj_catch (hh := [(0, 8, 9, 27), (0, 8, 15, 15), (0, 8, 21, 19)]) (pre := []) (x := (0, 8, 9, 27)) (suf := [(0, 8, 15, 15), (0, 8, 21, 19)]) C.1.2.2.2.1 htab rfl (fun z hz => absurd hz List.not_mem_nil) (by decide) (by decide) (C.1.2.2.2.2 _ (List.mem_of_getElem? (i := 1) rfl)) (C.nest (List.mem_of_getElem? (i := 66) rfl) rfl) h5 h6 h7 h8, fun q => ?_⟩
      refine VJ.cM (M' := M1) (List.append_nil M1) ?_
      refine VJ.astore C [(4, .ref q), (0, .ref x), (1, .int x1), (2, .int x2), (3, .int x3)] dL_naming_9 (Nat.le_of_ble_eq_true rfl) rfl ?_
      refine VJ.ldc2 (v := -9000000000000000001) C (C.1.2.2.2.2 _ (List.mem_of_getElem? (i := 4) rfl)) dL_naming_11 ?_
      exact VJ.lretN C rmL_naming.cells rmL_naming.slots (fun _ h9 => h9) (Or.inr ⟨0, r, h1, rfl⟩) hret (Nat.le_of_ble_eq_true rfl) (Nat.le_of_ble_eq_true rfl) dL_naming_14
    · refine ⟨15, fun H locs ls Q ce q h5 h6 h7 h8 => vj_catch (hh := [(0, 8, 9, 27), (0, 8, 15, 15), (0, 8, 21, 19)]) (pre := [(0, 8, 9, 27)]) (x := (0, 8, 15, 15)) (suf := [(0, 8, 21, 19)]) C.1.2.2.2.1 htab rfl (vj_all ⟨by decide, "java/lang/IndexOutOfBoundsException", (C.1.2.2.2.2 _ (List.mem_of_getElem? (i := 1) rfl)), hN.1⟩ (fun z hz => absurd hz List.not_mem_nil)) (by decide) (by decide) (C.1.2.2.2.2 _ (List.mem_of_getElem? (i := 2) rfl)) (C.nest (List.mem_of_getElem? (i := 67) rfl) rfl) h5 h6 h7 h8, fun q => ?_⟩
      refine VJ.cM (M' := M1) (List.append_nil M1) ?_
      refine VJ.astore C [(4, .ref q), (0, .ref x), (1, .int x1), (2, .int x2), (3, .int x3)] dL_naming_15 (Nat.le_of_ble_eq_true rfl) rfl ?_
      refine VJ.ldc2 (v := -9000000000000000002) C (C.1.2.2.2.2 _ (List.mem_of_getElem? (i := 5) rfl)) dL_naming_17 ?_
      exact VJ.lretN C rmL_naming.cells rmL_naming.slots (fun _ h9 => h9) (Or.inr ⟨1, r, h1, rfl⟩) hret (Nat.le_of_ble_eq_true rfl) (Nat.le_of_ble_eq_true rfl) dL_naming_20
    · refine ⟨21, fun H locs ls Q ce q h5 h6 h7 h8 => vj_catch (hh := [(0, 8, 9, 27), (0, 8, 15, 15), (0, 8, 21, 19)]) (pre := [(0, 8, 9, 27), (0, 8, 15, 15)]) (x := (0, 8, 21, 19)) (suf := []) C.1.2.2.2.1 htab rfl (vj_all ⟨by decide, "java/lang/IndexOutOfBoundsException", (C.1.2.2.2.2 _ (List.mem_of_getElem? (i := 1) rfl)), hN.2.1⟩ (vj_all ⟨by decide, "java/lang/IllegalArgumentException", (C.1.2.2.2.2 _ (List.mem_of_getElem? (i := 2) rfl)), hN.2.2⟩ (fun z hz => absurd hz List.not_mem_nil))) (by decide) (by decide) (C.1.2.2.2.2 _ (List.mem_of_getElem? (i := 3) rfl)) (C.nest (List.mem_of_getElem? (i := 68) rfl) rfl) h5 h6 h7 h8, fun q => ?_⟩
      refine VJ.cM (M' := M1) (List.append_nil M1) ?_
      refine VJ.astore C [(4, .ref q), (0, .ref x), (1, .int x1), (2, .int x2), (3, .int x3)] dL_naming_21 (Nat.le_of_ble_eq_true rfl) rfl ?_
      refine VJ.ldc2 (v := -9000000000000000003) C (C.1.2.2.2.2 _ (List.mem_of_getElem? (i := 6) rfl)) dL_naming_23 ?_
      exact VJ.lretN C rmL_naming.cells rmL_naming.slots (fun _ h9 => h9) (Or.inr ⟨2, r, h1, rfl⟩) hret (Nat.le_of_ble_eq_true rfl) (Nat.le_of_ble_eq_true rfl) dL_naming_26

abbrev rmL_tie : Room := { frames := 9, cells := 6, slots := 40, locals := 157 }
theorem hy_L_tie : yL_tie.cls ≠ "java/lang/invoke/MethodHandle" ∧ yL_tie.cls ≠ "java/lang/invoke/VarHandle" ∧ (parseMethodDescriptor yL_tie.desc).map (fun d => d.parameters.length) = some 5 := by decide +kernel
set_option maxHeartbeats 8000000 in
set_option maxRecDepth 100000 in
theorem c_L_tie (l : Launch) (hl9 : l.stackTraces = false) (G : va_G) (cI cZ cQ cU cJ : ClassId) (x : Nat) (x1 x2 x3 x4 : Int32) (M0 : va_W) (Pc : Nat → Option Value → va_W → Prop) (fs : List Value) (hx0 : M0[0]? = some (x, .inr (5, fs))) (hcon : ConX l yX5_tie wsX5_tie rmX5_tie G vwCl (tys cI cZ cQ cU cJ) nws strs (.ref x :: [.int x1, .int x2, .int x3, .int x4]) M0 Pc) (hint : ∀ r M1, Pc 0 r M1 → ∃ v, r = some (.int v)) (hno : ∀ k r M1, Pc (k + 1) r M1 → k = 0 ∨ k = 1 ∨ k = 2) : ConW l yL_tie wsL_tie rmL_tie G vwCl (tys cI cZ cQ cU cJ) nws strs [.ref x, .int x1, .int x2, .int x3, .int x4] M0 (fun _ r M' => (∃ v, Pc 0 (some (.int v)) M' ∧ r = some (.long v.toInt64)) ∨ (∃ k rr, Pc (k + 1) rr M' ∧ r = some (.long (kode (k + 1))))) := by
  refine conW_of (cc := cL_tie) (maxL := 6) (own := RL) hl9 rfl (plainFor_of_name (by decide +kernel)) rfl (Nat.le_of_ble_eq_true rfl) ?_
  intro p e s m args below meth c A CX hN hret htab
  have C := CX.1
  refine VJ.aload_n C 0 dL_tie_0 rfl ?_
  refine VJ.iload_n C 1 dL_tie_1 rfl ?_
  refine VJ.iload_n C 2 dL_tie_2 rfl ?_
  refine VJ.iload_n C 3 dL_tie_3 rfl ?_
  refine VJ.iload C 4 dL_tie_4 rfl ?_
  refine VJ.tryV CX [.int x1, .int x2, .int x3, .int x4] M0 [] hcon (vj_p0 _) 0 hx0 rfl (cwV 4 C.1.2.2.2.2 gL_tie_X5_tie rfl rfl rfl hyV_X5_tie ⟨Nat.le_of_ble_eq_true rfl, Nat.le_of_ble_eq_true rfl⟩) rfl rfl (Nat.le_of_ble_eq_true rfl) dL_tie_6 ⟨Nat.le_of_ble_eq_true rfl, Nat.le_of_ble_eq_true rfl⟩ ?_ ?_
  · intro r M1 h1
    obtain ⟨v, rfl⟩ := hint r M1 h1
    refine VJ.cM (M' := M1) (List.append_nil M1) ?_
    refine VJ.i2l C dL_tie_9 ?_
    exact VJ.lretN C rmL_tie.cells rmL_tie.slots (fun _ h9 => h9) (Or.inl ⟨v, h1, rfl⟩) hret (Nat.le_of_ble_eq_true rfl) (Nat.le_of_ble_eq_true rfl) dL_tie_10
  · intro k r M1 h1
    rcases hno k r M1 h1 with rfl | rfl | rfl
    · refine ⟨11, fun H locs ls Q ce q h5 h6 h7 h8 => vj_catch (hh := [(0, 10, 11, 27), (0, 10, 17, 15), (0, 10, 23, 19)]) (pre := []) (x := (0, 10, 11, 27)) (suf := [(0, 10, 17, 15), (0, 10, 23, 19)]) C.1.2.2.2.1 htab rfl (fun z hz => absurd hz List.not_mem_nil) (by decide) (by decide) (C.1.2.2.2.2 _ (List.mem_of_getElem? (i := 1) rfl)) (C.nest (List.mem_of_getElem? (i := 66) rfl) rfl) h5 h6 h7 h8, fun q => ?_⟩
      refine VJ.cM (M' := M1) (List.append_nil M1) ?_
      refine VJ.astore C [(5, .ref q), (0, .ref x), (1, .int x1), (2, .int x2), (3, .int x3), (4, .int x4)] dL_tie_11 (Nat.le_of_ble_eq_true rfl) rfl ?_
      refine VJ.ldc2 (v := -9000000000000000001) C (C.1.2.2.2.2 _ (List.mem_of_getElem? (i := 4) rfl)) dL_tie_13 ?_
      exact VJ.lretN C rmL_tie.cells rmL_tie.slots (fun _ h9 => h9) (Or.inr ⟨0, r, h1, rfl⟩) hret (Nat.le_of_ble_eq_true rfl) (Nat.le_of_ble_eq_true rfl) dL_tie_16
    · refine ⟨17, fun H locs ls Q ce q h5 h6 h7 h8 => vj_catch (hh := [(0, 10, 11, 27), (0, 10, 17, 15), (0, 10, 23, 19)]) (pre := [(0, 10, 11, 27)]) (x := (0, 10, 17, 15)) (suf := [(0, 10, 23, 19)]) C.1.2.2.2.1 htab rfl (vj_all ⟨by decide, "java/lang/IndexOutOfBoundsException", (C.1.2.2.2.2 _ (List.mem_of_getElem? (i := 1) rfl)), hN.1⟩ (fun z hz => absurd hz List.not_mem_nil)) (by decide) (by decide) (C.1.2.2.2.2 _ (List.mem_of_getElem? (i := 2) rfl)) (C.nest (List.mem_of_getElem? (i := 67) rfl) rfl) h5 h6 h7 h8, fun q => ?_⟩
      refine VJ.cM (M' := M1) (List.append_nil M1) ?_
      refine VJ.astore C [(5, .ref q), (0, .ref x), (1, .int x1), (2, .int x2), (3, .int x3), (4, .int x4)] dL_tie_17 (Nat.le_of_ble_eq_true rfl) rfl ?_
      refine VJ.ldc2 (v := -9000000000000000002) C (C.1.2.2.2.2 _ (List.mem_of_getElem? (i := 5) rfl)) dL_tie_19 ?_
      exact VJ.lretN C rmL_tie.cells rmL_tie.slots (fun _ h9 => h9) (Or.inr ⟨1, r, h1, rfl⟩) hret (Nat.le_of_ble_eq_true rfl) (Nat.le_of_ble_eq_true rfl) dL_tie_22
    · refine ⟨23, fun H locs ls Q ce q h5 h6 h7 h8 => vj_catch (hh := [(0, 10, 11, 27), (0, 10, 17, 15), (0, 10, 23, 19)]) (pre := [(0, 10, 11, 27), (0, 10, 17, 15)]) (x := (0, 10, 23, 19)) (suf := []) C.1.2.2.2.1 htab rfl (vj_all ⟨by decide, "java/lang/IndexOutOfBoundsException", (C.1.2.2.2.2 _ (List.mem_of_getElem? (i := 1) rfl)), hN.2.1⟩ (vj_all ⟨by decide, "java/lang/IllegalArgumentException", (C.1.2.2.2.2 _ (List.mem_of_getElem? (i := 2) rfl)), hN.2.2⟩ (fun z hz => absurd hz List.not_mem_nil))) (by decide) (by decide) (C.1.2.2.2.2 _ (List.mem_of_getElem? (i := 3) rfl)) (C.nest (List.mem_of_getElem? (i := 68) rfl) rfl) h5 h6 h7 h8, fun q => ?_⟩
      refine VJ.cM (M' := M1) (List.append_nil M1) ?_
      refine VJ.astore C [(5, .ref q), (0, .ref x), (1, .int x1), (2, .int x2), (3, .int x3), (4, .int x4)] dL_tie_23 (Nat.le_of_ble_eq_true rfl) rfl ?_
      refine VJ.ldc2 (v := -9000000000000000003) C (C.1.2.2.2.2 _ (List.mem_of_getElem? (i := 6) rfl)) dL_tie_25 ?_
      exact VJ.lretN C rmL_tie.cells rmL_tie.slots (fun _ h9 => h9) (Or.inr ⟨2, r, h1, rfl⟩) hret (Nat.le_of_ble_eq_true rfl) (Nat.le_of_ble_eq_true rfl) dL_tie_28

abbrev rmL_death : Room := { frames := 9, cells := 4, slots := 28, locals := 155 }
theorem hy_L_death : yL_death.cls ≠ "java/lang/invoke/MethodHandle" ∧ yL_death.cls ≠ "java/lang/invoke/VarHandle" ∧ (parseMethodDescriptor yL_death.desc).map (fun d => d.parameters.length) = some 3 := by decide +kernel
set_option maxHeartbeats 8000000 in
set_option maxRecDepth 100000 in
theorem c_L_death (l : Launch) (hl9 : l.stackTraces = false) (G : va_G) (cI cZ cQ cU cJ : ClassId) (x : Nat) (x1 x2 : Int32) (M0 : va_W) (Pc : Nat → Option Value → va_W → Prop) (fs : List Value) (hx0 : M0[0]? = some (x, .inr (5, fs))) (hcon : ConX l yX5_death wsX5_death rmX5_death G vwCl (tys cI cZ cQ cU cJ) nws strs (.ref x :: [.int x1, .int x2]) M0 Pc) (hint : ∀ r M1, Pc 0 r M1 → ∃ v, r = some (.int v)) (hno : ∀ k r M1, Pc (k + 1) r M1 → k = 0 ∨ k = 1 ∨ k = 2) : ConW l yL_death wsL_death rmL_death G vwCl (tys cI cZ cQ cU cJ) nws strs [.ref x, .int x1, .int x2] M0 (fun _ r M' => (∃ v, Pc 0 (some (.int v)) M' ∧ r = some (.long v.toInt64)) ∨ (∃ k rr, Pc (k + 1) rr M' ∧ r = some (.long (kode (k + 1))))) := by
  refine conW_of (cc := cL_death) (maxL := 4) (own := RL) hl9 rfl (plainFor_of_name (by decide +kernel)) rfl (Nat.le_of_ble_eq_true rfl) ?_
  intro p e s m args below meth c A CX hN hret htab
  have C := CX.1
  refine VJ.aload_n C 0 dL_death_0 rfl ?_
  refine VJ.iload_n C 1 dL_death_1 rfl ?_
  refine VJ.iload_n C 2 dL_death_2 rfl ?_
  refine VJ.tryV CX [.int x1, .int x2] M0 [] hcon (vj_p0 _) 0 hx0 rfl (cwV 2 C.1.2.2.2.2 gL_death_X5_death rfl rfl rfl hyV_X5_death ⟨Nat.le_of_ble_eq_true rfl, Nat.le_of_ble_eq_true rfl⟩) rfl rfl (Nat.le_of_ble_eq_true rfl) dL_death_3 ⟨Nat.le_of_ble_eq_true rfl, Nat.le_of_ble_eq_true rfl⟩ ?_ ?_
  · intro r M1 h1
    obtain ⟨v, rfl⟩ := hint r M1 h1
    refine VJ.cM (M' := M1) (List.append_nil M1) ?_
    refine VJ.i2l C dL_death_6 ?_
    exact VJ.lretN C rmL_death.cells rmL_death.slots (fun _ h9 => h9) (Or.inl ⟨v, h1, rfl⟩) hret (Nat.le_of_ble_eq_true rfl) (Nat.le_of_ble_eq_true rfl) dL_death_7
  · intro k r M1 h1
    rcases hno k r M1 h1 with rfl | rfl | rfl
    · refine ⟨8, fun H locs ls Q ce q h5 h6 h7 h8 => vj_catch (hh := [(0, 7, 8, 27), (0, 7, 13, 15), (0, 7, 18, 19)]) (pre := []) (x := (0, 7, 8, 27)) (suf := [(0, 7, 13, 15), (0, 7, 18, 19)]) C.1.2.2.2.1 htab rfl (fun z hz => absurd hz List.not_mem_nil) (by decide) (by decide) (C.1.2.2.2.2 _ (List.mem_of_getElem? (i := 1) rfl)) (C.nest (List.mem_of_getElem? (i := 66) rfl) rfl) h5 h6 h7 h8, fun q => ?_⟩
      refine VJ.cM (M' := M1) (List.append_nil M1) ?_
      refine VJ.astore_n C [(3, .ref q), (0, .ref x), (1, .int x1), (2, .int x2)] dL_death_8 (Nat.le_of_ble_eq_true rfl) rfl ?_
      refine VJ.ldc2 (v := -9000000000000000001) C (C.1.2.2.2.2 _ (List.mem_of_getElem? (i := 4) rfl)) dL_death_9 ?_
      exact VJ.lretN C rmL_death.cells rmL_death.slots (fun _ h9 => h9) (Or.inr ⟨0, r, h1, rfl⟩) hret (Nat.le_of_ble_eq_true rfl) (Nat.le_of_ble_eq_true rfl) dL_death_12
    · refine ⟨13, fun H locs ls Q ce q h5 h6 h7 h8 => vj_catch (hh := [(0, 7, 8, 27), (0, 7, 13, 15), (0, 7, 18, 19)]) (pre := [(0, 7, 8, 27)]) (x := (0, 7, 13, 15)) (suf := [(0, 7, 18, 19)]) C.1.2.2.2.1 htab rfl (vj_all ⟨by decide, "java/lang/IndexOutOfBoundsException", (C.1.2.2.2.2 _ (List.mem_of_getElem? (i := 1) rfl)), hN.1⟩ (fun z hz => absurd hz List.not_mem_nil)) (by decide) (by decide) (C.1.2.2.2.2 _ (List.mem_of_getElem? (i := 2) rfl)) (C.nest (List.mem_of_getElem? (i := 67) rfl) rfl) h5 h6 h7 h8, fun q => ?_⟩
      refine VJ.cM (M' := M1) (List.append_nil M1) ?_
      refine VJ.astore_n C [(3, .ref q), (0, .ref x), (1, .int x1), (2, .int x2)] dL_death_13 (Nat.le_of_ble_eq_true rfl) rfl ?_
      refine VJ.ldc2 (v := -9000000000000000002) C (C.1.2.2.2.2 _ (List.mem_of_getElem? (i := 5) rfl)) dL_death_14 ?_
      exact VJ.lretN C rmL_death.cells rmL_death.slots (fun _ h9 => h9) (Or.inr ⟨1, r, h1, rfl⟩) hret (Nat.le_of_ble_eq_true rfl) (Nat.le_of_ble_eq_true rfl) dL_death_17
    · refine ⟨18, fun H locs ls Q ce q h5 h6 h7 h8 => vj_catch (hh := [(0, 7, 8, 27), (0, 7, 13, 15), (0, 7, 18, 19)]) (pre := [(0, 7, 8, 27), (0, 7, 13, 15)]) (x := (0, 7, 18, 19)) (suf := []) C.1.2.2.2.1 htab rfl (vj_all ⟨by decide, "java/lang/IndexOutOfBoundsException", (C.1.2.2.2.2 _ (List.mem_of_getElem? (i := 1) rfl)), hN.2.1⟩ (vj_all ⟨by decide, "java/lang/IllegalArgumentException", (C.1.2.2.2.2 _ (List.mem_of_getElem? (i := 2) rfl)), hN.2.2⟩ (fun z hz => absurd hz List.not_mem_nil))) (by decide) (by decide) (C.1.2.2.2.2 _ (List.mem_of_getElem? (i := 3) rfl)) (C.nest (List.mem_of_getElem? (i := 68) rfl) rfl) h5 h6 h7 h8, fun q => ?_⟩
      refine VJ.cM (M' := M1) (List.append_nil M1) ?_
      refine VJ.astore_n C [(3, .ref q), (0, .ref x), (1, .int x1), (2, .int x2)] dL_death_18 (Nat.le_of_ble_eq_true rfl) rfl ?_
      refine VJ.ldc2 (v := -9000000000000000003) C (C.1.2.2.2.2 _ (List.mem_of_getElem? (i := 6) rfl)) dL_death_19 ?_
      exact VJ.lretN C rmL_death.cells rmL_death.slots (fun _ h9 => h9) (Or.inr ⟨2, r, h1, rfl⟩) hret (Nat.le_of_ble_eq_true rfl) (Nat.le_of_ble_eq_true rfl) dL_death_22

abbrev rmL_join : Room := { frames := 8, cells := 4, slots := 28, locals := 153 }
theorem hy_L_join : yL_join.cls ≠ "java/lang/invoke/MethodHandle" ∧ yL_join.cls ≠ "java/lang/invoke/VarHandle" ∧ (parseMethodDescriptor yL_join.desc).map (fun d => d.parameters.length) = some 3 := by decide +kernel
set_option maxHeartbeats 8000000 in
set_option maxRecDepth 100000 in
theorem c_L_join (l : Launch) (hl9 : l.stackTraces = false) (G : va_G) (cI cZ cQ cU cJ : ClassId) (x : Nat) (x1 x2 : Int32) (M0 : va_W) (Pc : Nat → Option Value → va_W → Prop) (fs : List Value) (hx0 : M0[0]? = some (x, .inr (5, fs))) (hcon : ConX l yX5_join wsX5_join rmX5_join G vwCl (tys cI cZ cQ cU cJ) nws strs (.ref x :: [.int x1, .int x2]) M0 Pc) (hint : ∀ r M1, Pc 0 r M1 → ∃ v, r = some (.int v)) (hno : ∀ k r M1, Pc (k + 1) r M1 → k = 0 ∨ k = 1 ∨ k = 2) : ConW l yL_join wsL_join rmL_join G vwCl (tys cI cZ cQ cU cJ) nws strs [.ref x, .int x1, .int x2] M0 (fun _ r M' => (∃ v, Pc 0 (some (.int v)) M' ∧ r = some (.long v.toInt64)) ∨ (∃ k rr, Pc (k + 1) rr M' ∧ r = some (.long (kode (k + 1))))) := by
  refine conW_of (cc := cL_join) (maxL := 4) (own := RL) hl9 rfl (plainFor_of_name (by decide +kernel)) rfl (Nat.le_of_ble_eq_true rfl) ?_
  intro p e s m args below meth c A CX hN hret htab
  have C := CX.1
  refine VJ.aload_n C 0 dL_join_0 rfl ?_
  refine VJ.iload_n C 1 dL_join_1 rfl ?_
  refine VJ.iload_n C 2 dL_join_2 rfl ?_
  refine VJ.tryV CX [.int x1, .int x2] M0 [] hcon (vj_p0 _) 0 hx0 rfl (cwV 2 C.1.2.2.2.2 gL_join_X5_join rfl rfl rfl hyV_X5_join ⟨Nat.le_of_ble_eq_true rfl, Nat.le_of_ble_eq_true rfl⟩) rfl rfl (Nat.le_of_ble_eq_true rfl) dL_join_3 ⟨Nat.le_of_ble_eq_true rfl, Nat.le_of_ble_eq_true rfl⟩ ?_ ?_
  · intro r M1 h1
    obtain ⟨v, rfl⟩ := hint r M1 h1
    refine VJ.cM (M' := M1) (List.append_nil M1) ?_
    refine VJ.i2l C dL_join_6 ?_
    exact VJ.lretN C rmL_join.cells rmL_join.slots (fun _ h9 => h9) (Or.inl ⟨v, h1, rfl⟩) hret (Nat.le_of_ble_eq_true rfl) (Nat.le_of_ble_eq_true rfl) dL_join_7
  · intro k r M1 h1
    rcases hno k r M1 h1 with rfl | rfl | rfl
    · refine ⟨8, fun H locs ls Q ce q h5 h6 h7 h8 => vj_catch (hh := [(0, 7, 8, 27), (0, 7, 13, 15), (0, 7, 18, 19)]) (pre := []) (x := (0, 7, 8, 27)) (suf := [(0, 7, 13, 15), (0, 7, 18, 19)]) C.1.2.2.2.1 htab rfl (fun z hz => absurd hz List.not_mem_nil) (by decide) (by decide) (C.1.2.2.2.2 _ (List.mem_of_getElem? (i := 1) rfl)) (C.nest (List.mem_of_getElem? (i := 66) rfl) rfl) h5 h6 h7 h8, fun q => ?_⟩
      refine VJ.cM (M' := M1) (List.append_nil M1) ?_
      refine VJ.astore_n C [(3, .ref q), (0, .ref x), (1, .int x1), (2, .int x2)] dL_join_8 (Nat.le_of_ble_eq_true rfl) rfl ?_
      refine VJ.ldc2 (v := -9000000000000000001) C (C.1.2.2.2.2 _ (List.mem_of_getElem? (i := 4) rfl)) dL_join_9 ?_
      exact VJ.lretN C rmL_join.cells rmL_join.slots (fun _ h9 => h9) (Or.inr ⟨0, r, h1, rfl⟩) hret (Nat.le_of_ble_eq_true rfl) (Nat.le_of_ble_eq_true rfl) dL_join_12
    · refine ⟨13, fun H locs ls Q ce q h5 h6 h7 h8 => vj_catch (hh := [(0, 7, 8, 27), (0, 7, 13, 15), (0, 7, 18, 19)]) (pre := [(0, 7, 8, 27)]) (x := (0, 7, 13, 15)) (suf := [(0, 7, 18, 19)]) C.1.2.2.2.1 htab rfl (vj_all ⟨by decide, "java/lang/IndexOutOfBoundsException", (C.1.2.2.2.2 _ (List.mem_of_getElem? (i := 1) rfl)), hN.1⟩ (fun z hz => absurd hz List.not_mem_nil)) (by decide) (by decide) (C.1.2.2.2.2 _ (List.mem_of_getElem? (i := 2) rfl)) (C.nest (List.mem_of_getElem? (i := 67) rfl) rfl) h5 h6 h7 h8, fun q => ?_⟩
      refine VJ.cM (M' := M1) (List.append_nil M1) ?_
      refine VJ.astore_n C [(3, .ref q), (0, .ref x), (1, .int x1), (2, .int x2)] dL_join_13 (Nat.le_of_ble_eq_true rfl) rfl ?_
      refine VJ.ldc2 (v := -9000000000000000002) C (C.1.2.2.2.2 _ (List.mem_of_getElem? (i := 5) rfl)) dL_join_14 ?_
      exact VJ.lretN C rmL_join.cells rmL_join.slots (fun _ h9 => h9) (Or.inr ⟨1, r, h1, rfl⟩) hret (Nat.le_of_ble_eq_true rfl) (Nat.le_of_ble_eq_true rfl) dL_join_17
    · refine ⟨18, fun H locs ls Q ce q h5 h6 h7 h8 => vj_catch (hh := [(0, 7, 8, 27), (0, 7, 13, 15), (0, 7, 18, 19)]) (pre := [(0, 7, 8, 27), (0, 7, 13, 15)]) (x := (0, 7, 18, 19)) (suf := []) C.1.2.2.2.1 htab rfl (vj_all ⟨by decide, "java/lang/IndexOutOfBoundsException", (C.1.2.2.2.2 _ (List.mem_of_getElem? (i := 1) rfl)), hN.2.1⟩ (vj_all ⟨by decide, "java/lang/IllegalArgumentException", (C.1.2.2.2.2 _ (List.mem_of_getElem? (i := 2) rfl)), hN.2.2⟩ (fun z hz => absurd hz List.not_mem_nil))) (by decide) (by decide) (C.1.2.2.2.2 _ (List.mem_of_getElem? (i := 3) rfl)) (C.nest (List.mem_of_getElem? (i := 68) rfl) rfl) h5 h6 h7 h8, fun q => ?_⟩
      refine VJ.cM (M' := M1) (List.append_nil M1) ?_
      refine VJ.astore_n C [(3, .ref q), (0, .ref x), (1, .int x1), (2, .int x2)] dL_join_18 (Nat.le_of_ble_eq_true rfl) rfl ?_
      refine VJ.ldc2 (v := -9000000000000000003) C (C.1.2.2.2.2 _ (List.mem_of_getElem? (i := 6) rfl)) dL_join_19 ?_
      exact VJ.lretN C rmL_join.cells rmL_join.slots (fun _ h9 => h9) (Or.inr ⟨2, r, h1, rfl⟩) hret (Nat.le_of_ble_eq_true rfl) (Nat.le_of_ble_eq_true rfl) dL_join_22

abbrev rmL_strike : Room := { frames := 8, cells := 3, slots := 22, locals := 154 }
theorem hy_L_strike : yL_strike.cls ≠ "java/lang/invoke/MethodHandle" ∧ yL_strike.cls ≠ "java/lang/invoke/VarHandle" ∧ (parseMethodDescriptor yL_strike.desc).map (fun d => d.parameters.length) = some 2 := by decide +kernel
set_option maxHeartbeats 8000000 in
set_option maxRecDepth 100000 in
theorem c_L_strike (l : Launch) (hl9 : l.stackTraces = false) (G : va_G) (cI cZ cQ cU cJ : ClassId) (x : Nat) (x1 : Int32) (M0 : va_W) (Pc : Nat → Option Value → va_W → Prop) (fs : List Value) (hx0 : M0[0]? = some (x, .inr (5, fs))) (hcon : ConX l yX5_strike wsX5_strike rmX5_strike G vwCl (tys cI cZ cQ cU cJ) nws strs (.ref x :: [.int x1]) M0 Pc) (hint : ∀ r M1, Pc 0 r M1 → ∃ v, r = some (.int v)) (hno : ∀ k r M1, Pc (k + 1) r M1 → k = 0 ∨ k = 2) : ConW l yL_strike wsL_strike rmL_strike G vwCl (tys cI cZ cQ cU cJ) nws strs [.ref x, .int x1] M0 (fun _ r M' => (∃ v, Pc 0 (some (.int v)) M' ∧ r = some (.long v.toInt64)) ∨ (∃ k rr, Pc (k + 1) rr M' ∧ r = some (.long (kode (k + 1))))) := by
  refine conW_of (cc := cL_strike) (maxL := 3) (own := RL) hl9 rfl (plainFor_of_name (by decide +kernel)) rfl (Nat.le_of_ble_eq_true rfl) ?_
  intro p e s m args below meth c A CX hN hret htab
  have C := CX.1
  refine VJ.aload_n C 0 dL_strike_0 rfl ?_
  refine VJ.iload_n C 1 dL_strike_1 rfl ?_
  refine VJ.tryV CX [.int x1] M0 [] hcon (vj_p0 _) 0 hx0 rfl (cwV 1 C.1.2.2.2.2 gL_strike_X5_strike rfl rfl rfl hyV_X5_strike ⟨Nat.le_of_ble_eq_true rfl, Nat.le_of_ble_eq_true rfl⟩) rfl rfl (Nat.le_of_ble_eq_true rfl) dL_strike_2 ⟨Nat.le_of_ble_eq_true rfl, Nat.le_of_ble_eq_true rfl⟩ ?_ ?_
  · intro r M1 h1
    obtain ⟨v, rfl⟩ := hint r M1 h1
    refine VJ.cM (M' := M1) (List.append_nil M1) ?_
    refine VJ.i2l C dL_strike_5 ?_
    exact VJ.lretN C rmL_strike.cells rmL_strike.slots (fun _ h9 => h9) (Or.inl ⟨v, h1, rfl⟩) hret (Nat.le_of_ble_eq_true rfl) (Nat.le_of_ble_eq_true rfl) dL_strike_6
  · intro k r M1 h1
    rcases hno k r M1 h1 with rfl | rfl
    · refine ⟨7, fun H locs ls Q ce q h5 h6 h7 h8 => vj_catch (hh := [(0, 6, 7, 27), (0, 6, 12, 19)]) (pre := []) (x := (0, 6, 7, 27)) (suf := [(0, 6, 12, 19)]) C.1.2.2.2.1 htab rfl (fun z hz => absurd hz List.not_mem_nil) (by decide) (by decide) (C.1.2.2.2.2 _ (List.mem_of_getElem? (i := 1) rfl)) (C.nest (List.mem_of_getElem? (i := 66) rfl) rfl) h5 h6 h7 h8, fun q => ?_⟩
      refine VJ.cM (M' := M1) (List.append_nil M1) ?_
      refine VJ.astore_n C [(2, .ref q), (0, .ref x), (1, .int x1)] dL_strike_7 (Nat.le_of_ble_eq_true rfl) rfl ?_
      refine VJ.ldc2 (v := -9000000000000000001) C (C.1.2.2.2.2 _ (List.mem_of_getElem? (i := 3) rfl)) dL_strike_8 ?_
      exact VJ.lretN C rmL_strike.cells rmL_strike.slots (fun _ h9 => h9) (Or.inr ⟨0, r, h1, rfl⟩) hret (Nat.le_of_ble_eq_true rfl) (Nat.le_of_ble_eq_true rfl) dL_strike_11
    · refine ⟨12, fun H locs ls Q ce q h5 h6 h7 h8 => vj_catch (hh := [(0, 6, 7, 27), (0, 6, 12, 19)]) (pre := [(0, 6, 7, 27)]) (x := (0, 6, 12, 19)) (suf := []) C.1.2.2.2.1 htab rfl (vj_all ⟨by decide, "java/lang/IndexOutOfBoundsException", (C.1.2.2.2.2 _ (List.mem_of_getElem? (i := 1) rfl)), hN.2.1⟩ (fun z hz => absurd hz List.not_mem_nil)) (by decide) (by decide) (C.1.2.2.2.2 _ (List.mem_of_getElem? (i := 2) rfl)) (C.nest (List.mem_of_getElem? (i := 68) rfl) rfl) h5 h6 h7 h8, fun q => ?_⟩
      refine VJ.cM (M' := M1) (List.append_nil M1) ?_
      refine VJ.astore_n C [(2, .ref q), (0, .ref x), (1, .int x1)] dL_strike_12 (Nat.le_of_ble_eq_true rfl) rfl ?_
      refine VJ.ldc2 (v := -9000000000000000003) C (C.1.2.2.2.2 _ (List.mem_of_getElem? (i := 4) rfl)) dL_strike_13 ?_
      exact VJ.lretN C rmL_strike.cells rmL_strike.slots (fun _ h9 => h9) (Or.inr ⟨2, r, h1, rfl⟩) hret (Nat.le_of_ble_eq_true rfl) (Nat.le_of_ble_eq_true rfl) dL_strike_16

abbrev rmL_actOf : Room := { frames := 8, cells := 2, slots := 12, locals := 135 }
theorem hy_L_actOf : yL_actOf.cls ≠ "java/lang/invoke/MethodHandle" ∧ yL_actOf.cls ≠ "java/lang/invoke/VarHandle" ∧ (parseMethodDescriptor yL_actOf.desc).map (fun d => d.parameters.length) = some 3 := by decide +kernel
set_option maxHeartbeats 8000000 in
set_option maxRecDepth 100000 in
theorem c_L_actOf (l : Launch) (hl9 : l.stackTraces = false) (G : va_G) (cI cZ cQ cU cJ : ClassId) (x : Nat) (x1 x2 : Int32) (M0 : va_W) (Pc : Nat → Option Value → va_W → Prop) (fs : List Value) (hx0 : M0[0]? = some (x, .inr (5, fs))) (hcon : ConX l yX5_actOf wsX5_actOf rmX5_actOf G vwCl (tys cI cZ cQ cU cJ) nws strs (.ref x :: [.int x1, .int x2]) M0 Pc) (hint : ∀ r M1, Pc 0 r M1 → ∃ v, r = some (.int v)) (hno : ∀ k r M1, Pc (k + 1) r M1 → k = 0 ∨ k = 1) : ConW l yL_actOf wsL_actOf rmL_actOf G vwCl (tys cI cZ cQ cU cJ) nws strs [.ref x, .int x1, .int x2] M0 (fun _ r M' => (∃ v, Pc 0 (some (.int v)) M' ∧ r = some (.long v.toInt64)) ∨ (∃ k rr, Pc (k + 1) rr M' ∧ r = some (.long (kode (k + 1))))) := by
  refine conW_of (cc := cL_actOf) (maxL := 4) (own := RL) hl9 rfl (plainFor_of_name (by decide +kernel)) rfl (Nat.le_of_ble_eq_true rfl) ?_
  intro p e s m args below meth c A CX hN hret htab
  have C := CX.1
  refine VJ.aload_n C 0 dL_actOf_0 rfl ?_
  refine VJ.iload_n C 1 dL_actOf_1 rfl ?_
  refine VJ.iload_n C 2 dL_actOf_2 rfl ?_
  refine VJ.tryV CX [.int x1, .int x2] M0 [] hcon (vj_p0 _) 0 hx0 rfl (cwV 2 C.1.2.2.2.2 gL_actOf_X5_actOf rfl rfl rfl hyV_X5_actOf ⟨Nat.le_of_ble_eq_true rfl, Nat.le_of_ble_eq_true rfl⟩) rfl rfl (Nat.le_of_ble_eq_true rfl) dL_actOf_3 ⟨Nat.le_of_ble_eq_true rfl, Nat.le_of_ble_eq_true rfl⟩ ?_ ?_
  · intro r M1 h1
    obtain ⟨v, rfl⟩ := hint r M1 h1
    refine VJ.cM (M' := M1) (List.append_nil M1) ?_
    refine VJ.i2l C dL_actOf_6 ?_
    exact VJ.lretN C rmL_actOf.cells rmL_actOf.slots (fun _ h9 => h9) (Or.inl ⟨v, h1, rfl⟩) hret (Nat.le_of_ble_eq_true rfl) (Nat.le_of_ble_eq_true rfl) dL_actOf_7
  · intro k r M1 h1
    rcases hno k r M1 h1 with rfl | rfl
    · refine ⟨8, fun H locs ls Q ce q h5 h6 h7 h8 => vj_catch (hh := [(0, 7, 8, 27), (0, 7, 13, 15)]) (pre := []) (x := (0, 7, 8, 27)) (suf := [(0, 7, 13, 15)]) C.1.2.2.2.1 htab rfl (fun z hz => absurd hz List.not_mem_nil) (by decide) (by decide) (C.1.2.2.2.2 _ (List.mem_of_getElem? (i := 1) rfl)) (C.nest (List.mem_of_getElem? (i := 66) rfl) rfl) h5 h6 h7 h8, fun q => ?_⟩
      refine VJ.cM (M' := M1) (List.append_nil M1) ?_
      refine VJ.astore_n C [(3, .ref q), (0, .ref x), (1, .int x1), (2, .int x2)] dL_actOf_8 (Nat.le_of_ble_eq_true rfl) rfl ?_
      refine VJ.ldc2 (v := -9000000000000000001) C (C.1.2.2.2.2 _ (List.mem_of_getElem? (i := 3) rfl)) dL_actOf_9 ?_
      exact VJ.lretN C rmL_actOf.cells rmL_actOf.slots (fun _ h9 => h9) (Or.inr ⟨0, r, h1, rfl⟩) hret (Nat.le_of_ble_eq_true rfl) (Nat.le_of_ble_eq_true rfl) dL_actOf_12
    · refine ⟨13, fun H locs ls Q ce q h5 h6 h7 h8 => vj_catch (hh := [(0, 7, 8, 27), (0, 7, 13, 15)]) (pre := [(0, 7, 8, 27)]) (x := (0, 7, 13, 15)) (suf := []) C.1.2.2.2.1 htab rfl (vj_all ⟨by decide, "java/lang/IndexOutOfBoundsException", (C.1.2.2.2.2 _ (List.mem_of_getElem? (i := 1) rfl)), hN.1⟩ (fun z hz => absurd hz List.not_mem_nil)) (by decide) (by decide) (C.1.2.2.2.2 _ (List.mem_of_getElem? (i := 2) rfl)) (C.nest (List.mem_of_getElem? (i := 67) rfl) rfl) h5 h6 h7 h8, fun q => ?_⟩
      refine VJ.cM (M' := M1) (List.append_nil M1) ?_
      refine VJ.astore_n C [(3, .ref q), (0, .ref x), (1, .int x1), (2, .int x2)] dL_actOf_13 (Nat.le_of_ble_eq_true rfl) rfl ?_
      refine VJ.ldc2 (v := -9000000000000000002) C (C.1.2.2.2.2 _ (List.mem_of_getElem? (i := 4) rfl)) dL_actOf_14 ?_
      exact VJ.lretN C rmL_actOf.cells rmL_actOf.slots (fun _ h9 => h9) (Or.inr ⟨1, r, h1, rfl⟩) hret (Nat.le_of_ble_eq_true rfl) (Nat.le_of_ble_eq_true rfl) dL_actOf_17

abbrev rmL_asOf : Room := { frames := 9, cells := 4, slots := 24, locals := 157 }
theorem hy_L_asOf : yL_asOf.cls ≠ "java/lang/invoke/MethodHandle" ∧ yL_asOf.cls ≠ "java/lang/invoke/VarHandle" ∧ (parseMethodDescriptor yL_asOf.desc).map (fun d => d.parameters.length) = some 5 := by decide +kernel
set_option maxHeartbeats 8000000 in
set_option maxRecDepth 100000 in
theorem c_L_asOf (l : Launch) (hl9 : l.stackTraces = false) (G : va_G) (cI cZ cQ cU cJ : ClassId) (x : Nat) (x1 x2 x3 x4 : Int32) (M0 : va_W) (Pc : Nat → Option Value → va_W → Prop) (fs : List Value) (hx0 : M0[0]? = some (x, .inr (5, fs))) (hcon : ConX l yX5_asOf wsX5_asOf rmX5_asOf G vwCl (tys cI cZ cQ cU cJ) nws strs (.ref x :: [.int x1, .int x2, .int x3, .int x4]) M0 Pc) (hint : ∀ r M1, Pc 0 r M1 → ∃ v, r = some (.int v)) (hno : ∀ k r M1, Pc (k + 1) r M1 → k = 0 ∨ k = 1) : ConW l yL_asOf wsL_asOf rmL_asOf G vwCl (tys cI cZ cQ cU cJ) nws strs [.ref x, .int x1, .int x2, .int x3, .int x4] M0 (fun _ r M' => (∃ v, Pc 0 (some (.int v)) M' ∧ r = some (.long v.toInt64)) ∨ (∃ k rr, Pc (k + 1) rr M' ∧ r = some (.long (kode (k + 1))))) := by
  refine conW_of (cc := cL_asOf) (maxL := 6) (own := RL) hl9 rfl (plainFor_of_name (by decide +kernel)) rfl (Nat.le_of_ble_eq_true rfl) ?_
  intro p e s m args below meth c A CX hN hret htab
  have C := CX.1
  refine VJ.aload_n C 0 dL_asOf_0 rfl ?_
  refine VJ.iload_n C 1 dL_asOf_1 rfl ?_
  refine VJ.iload_n C 2 dL_asOf_2 rfl ?_
  refine VJ.iload_n C 3 dL_asOf_3 rfl ?_
  refine VJ.iload C 4 dL_asOf_4 rfl ?_
  refine VJ.tryV CX [.int x1, .int x2, .int x3, .int x4] M0 [] hcon (vj_p0 _) 0 hx0 rfl (cwV 4 C.1.2.2.2.2 gL_asOf_X5_asOf rfl rfl rfl hyV_X5_asOf ⟨Nat.le_of_ble_eq_true rfl, Nat.le_of_ble_eq_true rfl⟩) rfl rfl (Nat.le_of_ble_eq_true rfl) dL_asOf_6 ⟨Nat.le_of_ble_eq_true rfl, Nat.le_of_ble_eq_true rfl⟩ ?_ ?_
  · intro r M1 h1
    obtain ⟨v, rfl⟩ := hint r M1 h1
    refine VJ.cM (M' := M1) (List.append_nil M1) ?_
    refine VJ.i2l C dL_asOf_9 ?_
    exact VJ.lretN C rmL_asOf.cells rmL_asOf.slots (fun _ h9 => h9) (Or.inl ⟨v, h1, rfl⟩) hret (Nat.le_of_ble_eq_true rfl) (Nat.le_of_ble_eq_true rfl) dL_asOf_10
  · intro k r M1 h1
    rcases hno k r M1 h1 with rfl | rfl
    · refine ⟨11, fun H locs ls Q ce q h5 h6 h7 h8 => vj_catch (hh := [(0, 10, 11, 27), (0, 10, 17, 15)]) (pre := []) (x := (0, 10, 11, 27)) (suf := [(0, 10, 17, 15)]) C.1.2.2.2.1 htab rfl (fun z hz => absurd hz List.not_mem_nil) (by decide) (by decide) (C.1.2.2.2.2 _ (List.mem_of_getElem? (i := 1) rfl)) (C.nest (List.mem_of_getElem? (i := 66) rfl) rfl) h5 h6 h7 h8, fun q => ?_⟩
      refine VJ.cM (M' := M1) (List.append_nil M1) ?_
      refine VJ.astore C [(5, .ref q), (0, .ref x), (1, .int x1), (2, .int x2), (3, .int x3), (4, .int x4)] dL_asOf_11 (Nat.le_of_ble_eq_true rfl) rfl ?_
      refine VJ.ldc2 (v := -9000000000000000001) C (C.1.2.2.2.2 _ (List.mem_of_getElem? (i := 3) rfl)) dL_asOf_13 ?_
      exact VJ.lretN C rmL_asOf.cells rmL_asOf.slots (fun _ h9 => h9) (Or.inr ⟨0, r, h1, rfl⟩) hret (Nat.le_of_ble_eq_true rfl) (Nat.le_of_ble_eq_true rfl) dL_asOf_16
    · refine ⟨17, fun H locs ls Q ce q h5 h6 h7 h8 => vj_catch (hh := [(0, 10, 11, 27), (0, 10, 17, 15)]) (pre := [(0, 10, 11, 27)]) (x := (0, 10, 17, 15)) (suf := []) C.1.2.2.2.1 htab rfl (vj_all ⟨by decide, "java/lang/IndexOutOfBoundsException", (C.1.2.2.2.2 _ (List.mem_of_getElem? (i := 1) rfl)), hN.1⟩ (fun z hz => absurd hz List.not_mem_nil)) (by decide) (by decide) (C.1.2.2.2.2 _ (List.mem_of_getElem? (i := 2) rfl)) (C.nest (List.mem_of_getElem? (i := 67) rfl) rfl) h5 h6 h7 h8, fun q => ?_⟩
      refine VJ.cM (M' := M1) (List.append_nil M1) ?_
      refine VJ.astore C [(5, .ref q), (0, .ref x), (1, .int x1), (2, .int x2), (3, .int x3), (4, .int x4)] dL_asOf_17 (Nat.le_of_ble_eq_true rfl) rfl ?_
      refine VJ.ldc2 (v := -9000000000000000002) C (C.1.2.2.2.2 _ (List.mem_of_getElem? (i := 4) rfl)) dL_asOf_19 ?_
      exact VJ.lretN C rmL_asOf.cells rmL_asOf.slots (fun _ h9 => h9) (Or.inr ⟨1, r, h1, rfl⟩) hret (Nat.le_of_ble_eq_true rfl) (Nat.le_of_ble_eq_true rfl) dL_asOf_22

abbrev rmL_now : Room := { frames := 8, cells := 2, slots := 12, locals := 150 }
theorem hy_L_now : yL_now.cls ≠ "java/lang/invoke/MethodHandle" ∧ yL_now.cls ≠ "java/lang/invoke/VarHandle" ∧ (parseMethodDescriptor yL_now.desc).map (fun d => d.parameters.length) = some 3 := by decide +kernel
set_option maxHeartbeats 8000000 in
set_option maxRecDepth 100000 in
theorem c_L_now (l : Launch) (hl9 : l.stackTraces = false) (G : va_G) (cI cZ cQ cU cJ : ClassId) (x : Nat) (x1 x2 : Int32) (M0 : va_W) (Pc : Nat → Option Value → va_W → Prop) (fs : List Value) (hx0 : M0[0]? = some (x, .inr (5, fs))) (hcon : ConX l yX5_now wsX5_now rmX5_now G vwCl (tys cI cZ cQ cU cJ) nws strs (.ref x :: [.int x1, .int x2]) M0 Pc) (hint : ∀ r M1, Pc 0 r M1 → ∃ v, r = some (.int v)) (hno : ∀ k r M1, Pc (k + 1) r M1 → k = 0 ∨ k = 1) : ConW l yL_now wsL_now rmL_now G vwCl (tys cI cZ cQ cU cJ) nws strs [.ref x, .int x1, .int x2] M0 (fun _ r M' => (∃ v, Pc 0 (some (.int v)) M' ∧ r = some (.long v.toInt64)) ∨ (∃ k rr, Pc (k + 1) rr M' ∧ r = some (.long (kode (k + 1))))) := by
  refine conW_of (cc := cL_now) (maxL := 4) (own := RL) hl9 rfl (plainFor_of_name (by decide +kernel)) rfl (Nat.le_of_ble_eq_true rfl) ?_
  intro p e s m args below meth c A CX hN hret htab
  have C := CX.1
  refine VJ.aload_n C 0 dL_now_0 rfl ?_
  refine VJ.iload_n C 1 dL_now_1 rfl ?_
  refine VJ.iload_n C 2 dL_now_2 rfl ?_
  refine VJ.tryV CX [.int x1, .int x2] M0 [] hcon (vj_p0 _) 0 hx0 rfl (cwV 2 C.1.2.2.2.2 gL_now_X5_now rfl rfl rfl hyV_X5_now ⟨Nat.le_of_ble_eq_true rfl, Nat.le_of_ble_eq_true rfl⟩) rfl rfl (Nat.le_of_ble_eq_true rfl) dL_now_3 ⟨Nat.le_of_ble_eq_true rfl, Nat.le_of_ble_eq_true rfl⟩ ?_ ?_
  · intro r M1 h1
    obtain ⟨v, rfl⟩ := hint r M1 h1
    refine VJ.cM (M' := M1) (List.append_nil M1) ?_
    refine VJ.i2l C dL_now_6 ?_
    exact VJ.lretN C rmL_now.cells rmL_now.slots (fun _ h9 => h9) (Or.inl ⟨v, h1, rfl⟩) hret (Nat.le_of_ble_eq_true rfl) (Nat.le_of_ble_eq_true rfl) dL_now_7
  · intro k r M1 h1
    rcases hno k r M1 h1 with rfl | rfl
    · refine ⟨8, fun H locs ls Q ce q h5 h6 h7 h8 => vj_catch (hh := [(0, 7, 8, 27), (0, 7, 13, 15)]) (pre := []) (x := (0, 7, 8, 27)) (suf := [(0, 7, 13, 15)]) C.1.2.2.2.1 htab rfl (fun z hz => absurd hz List.not_mem_nil) (by decide) (by decide) (C.1.2.2.2.2 _ (List.mem_of_getElem? (i := 1) rfl)) (C.nest (List.mem_of_getElem? (i := 66) rfl) rfl) h5 h6 h7 h8, fun q => ?_⟩
      refine VJ.cM (M' := M1) (List.append_nil M1) ?_
      refine VJ.astore_n C [(3, .ref q), (0, .ref x), (1, .int x1), (2, .int x2)] dL_now_8 (Nat.le_of_ble_eq_true rfl) rfl ?_
      refine VJ.ldc2 (v := -9000000000000000001) C (C.1.2.2.2.2 _ (List.mem_of_getElem? (i := 3) rfl)) dL_now_9 ?_
      exact VJ.lretN C rmL_now.cells rmL_now.slots (fun _ h9 => h9) (Or.inr ⟨0, r, h1, rfl⟩) hret (Nat.le_of_ble_eq_true rfl) (Nat.le_of_ble_eq_true rfl) dL_now_12
    · refine ⟨13, fun H locs ls Q ce q h5 h6 h7 h8 => vj_catch (hh := [(0, 7, 8, 27), (0, 7, 13, 15)]) (pre := [(0, 7, 8, 27)]) (x := (0, 7, 13, 15)) (suf := []) C.1.2.2.2.1 htab rfl (vj_all ⟨by decide, "java/lang/IndexOutOfBoundsException", (C.1.2.2.2.2 _ (List.mem_of_getElem? (i := 1) rfl)), hN.1⟩ (fun z hz => absurd hz List.not_mem_nil)) (by decide) (by decide) (C.1.2.2.2.2 _ (List.mem_of_getElem? (i := 2) rfl)) (C.nest (List.mem_of_getElem? (i := 67) rfl) rfl) h5 h6 h7 h8, fun q => ?_⟩
      refine VJ.cM (M' := M1) (List.append_nil M1) ?_
      refine VJ.astore_n C [(3, .ref q), (0, .ref x), (1, .int x1), (2, .int x2)] dL_now_13 (Nat.le_of_ble_eq_true rfl) rfl ?_
      refine VJ.ldc2 (v := -9000000000000000002) C (C.1.2.2.2.2 _ (List.mem_of_getElem? (i := 4) rfl)) dL_now_14 ?_
      exact VJ.lretN C rmL_now.cells rmL_now.slots (fun _ h9 => h9) (Or.inr ⟨1, r, h1, rfl⟩) hret (Nat.le_of_ble_eq_true rfl) (Nat.le_of_ble_eq_true rfl) dL_now_17

abbrev rmL_households : Room := { frames := 9, cells := 3, slots := 18, locals := 156 }
theorem hy_L_households : yL_households.cls ≠ "java/lang/invoke/MethodHandle" ∧ yL_households.cls ≠ "java/lang/invoke/VarHandle" ∧ (parseMethodDescriptor yL_households.desc).map (fun d => d.parameters.length) = some 4 := by decide +kernel
set_option maxHeartbeats 8000000 in
set_option maxRecDepth 100000 in
theorem c_L_households (l : Launch) (hl9 : l.stackTraces = false) (G : va_G) (cI cZ cQ cU cJ : ClassId) (x : Nat) (x1 x2 x3 : Int32) (M0 : va_W) (Pc : Nat → Option Value → va_W → Prop) (fs : List Value) (hx0 : M0[0]? = some (x, .inr (5, fs))) (hcon : ConX l yX5_households wsX5_households rmX5_households G vwCl (tys cI cZ cQ cU cJ) nws strs (.ref x :: [.int x1, .int x2, .int x3]) M0 Pc) (hint : ∀ r M1, Pc 0 r M1 → ∃ v, r = some (.int v)) (hno : ∀ k r M1, Pc (k + 1) r M1 → k = 0 ∨ k = 1) : ConW l yL_households wsL_households rmL_households G vwCl (tys cI cZ cQ cU cJ) nws strs [.ref x, .int x1, .int x2, .int x3] M0 (fun _ r M' => (∃ v, Pc 0 (some (.int v)) M' ∧ r = some (.long v.toInt64)) ∨ (∃ k rr, Pc (k + 1) rr M' ∧ r = some (.long (kode (k + 1))))) := by
  refine conW_of (cc := cL_households) (maxL := 5) (own := RL) hl9 rfl (plainFor_of_name (by decide +kernel)) rfl (Nat.le_of_ble_eq_true rfl) ?_
  intro p e s m args below meth c A CX hN hret htab
  have C := CX.1
  refine VJ.aload_n C 0 dL_households_0 rfl ?_
  refine VJ.iload_n C 1 dL_households_1 rfl ?_
  refine VJ.iload_n C 2 dL_households_2 rfl ?_
  refine VJ.iload_n C 3 dL_households_3 rfl ?_
  refine VJ.tryV CX [.int x1, .int x2, .int x3] M0 [] hcon (vj_p0 _) 0 hx0 rfl (cwV 3 C.1.2.2.2.2 gL_households_X5_households rfl rfl rfl hyV_X5_households ⟨Nat.le_of_ble_eq_true rfl, Nat.le_of_ble_eq_true rfl⟩) rfl rfl (Nat.le_of_ble_eq_true rfl) dL_households_4 ⟨Nat.le_of_ble_eq_true rfl, Nat.le_of_ble_eq_true rfl⟩ ?_ ?_
  · intro r M1 h1
    obtain ⟨v, rfl⟩ := hint r M1 h1
    refine VJ.cM (M' := M1) (List.append_nil M1) ?_
    refine VJ.i2l C dL_households_7 ?_
    exact VJ.lretN C rmL_households.cells rmL_households.slots (fun _ h9 => h9) (Or.inl ⟨v, h1, rfl⟩) hret (Nat.le_of_ble_eq_true rfl) (Nat.le_of_ble_eq_true rfl) dL_households_8
  · intro k r M1 h1
    rcases hno k r M1 h1 with rfl | rfl
    · refine ⟨9, fun H locs ls Q ce q h5 h6 h7 h8 => vj_catch (hh := [(0, 8, 9, 27), (0, 8, 15, 15)]) (pre := []) (x := (0, 8, 9, 27)) (suf := [(0, 8, 15, 15)]) C.1.2.2.2.1 htab rfl (fun z hz => absurd hz List.not_mem_nil) (by decide) (by decide) (C.1.2.2.2.2 _ (List.mem_of_getElem? (i := 1) rfl)) (C.nest (List.mem_of_getElem? (i := 66) rfl) rfl) h5 h6 h7 h8, fun q => ?_⟩
      refine VJ.cM (M' := M1) (List.append_nil M1) ?_
      refine VJ.astore C [(4, .ref q), (0, .ref x), (1, .int x1), (2, .int x2), (3, .int x3)] dL_households_9 (Nat.le_of_ble_eq_true rfl) rfl ?_
      refine VJ.ldc2 (v := -9000000000000000001) C (C.1.2.2.2.2 _ (List.mem_of_getElem? (i := 3) rfl)) dL_households_11 ?_
      exact VJ.lretN C rmL_households.cells rmL_households.slots (fun _ h9 => h9) (Or.inr ⟨0, r, h1, rfl⟩) hret (Nat.le_of_ble_eq_true rfl) (Nat.le_of_ble_eq_true rfl) dL_households_14
    · refine ⟨15, fun H locs ls Q ce q h5 h6 h7 h8 => vj_catch (hh := [(0, 8, 9, 27), (0, 8, 15, 15)]) (pre := [(0, 8, 9, 27)]) (x := (0, 8, 15, 15)) (suf := []) C.1.2.2.2.1 htab rfl (vj_all ⟨by decide, "java/lang/IndexOutOfBoundsException", (C.1.2.2.2.2 _ (List.mem_of_getElem? (i := 1) rfl)), hN.1⟩ (fun z hz => absurd hz List.not_mem_nil)) (by decide) (by decide) (C.1.2.2.2.2 _ (List.mem_of_getElem? (i := 2) rfl)) (C.nest (List.mem_of_getElem? (i := 67) rfl) rfl) h5 h6 h7 h8, fun q => ?_⟩
      refine VJ.cM (M' := M1) (List.append_nil M1) ?_
      refine VJ.astore C [(4, .ref q), (0, .ref x), (1, .int x1), (2, .int x2), (3, .int x3)] dL_households_15 (Nat.le_of_ble_eq_true rfl) rfl ?_
      refine VJ.ldc2 (v := -9000000000000000002) C (C.1.2.2.2.2 _ (List.mem_of_getElem? (i := 4) rfl)) dL_households_17 ?_
      exact VJ.lretN C rmL_households.cells rmL_households.slots (fun _ h9 => h9) (Or.inr ⟨1, r, h1, rfl⟩) hret (Nat.le_of_ble_eq_true rfl) (Nat.le_of_ble_eq_true rfl) dL_households_20

abbrev rmL_money : Room := { frames := 9, cells := 5, slots := 30, locals := 159 }
theorem hy_L_money : yL_money.cls ≠ "java/lang/invoke/MethodHandle" ∧ yL_money.cls ≠ "java/lang/invoke/VarHandle" ∧ (parseMethodDescriptor yL_money.desc).map (fun d => d.parameters.length) = some 5 := by decide +kernel
set_option maxHeartbeats 8000000 in
set_option maxRecDepth 100000 in
theorem c_L_money (l : Launch) (hl9 : l.stackTraces = false) (G : va_G) (cI cZ cQ cU cJ : ClassId) (x : Nat) (x1 x2 x3 x4 : Int32) (M0 : va_W) (Pc : Nat → Option Value → va_W → Prop) (fs : List Value) (hx0 : M0[0]? = some (x, .inr (5, fs))) (hcon : ConX l yX5_money wsX5_money rmX5_money G vwCl (tys cI cZ cQ cU cJ) nws strs (.ref x :: [.int x1, .int x2, .int x3, .int x4]) M0 Pc) (hint : ∀ r M1, Pc 0 r M1 → ∃ v, r = some (.int v)) (hno : ∀ k r M1, Pc (k + 1) r M1 → k = 0 ∨ k = 1) : ConW l yL_money wsL_money rmL_money G vwCl (tys cI cZ cQ cU cJ) nws strs [.ref x, .int x1, .int x2, .int x3, .int x4] M0 (fun _ r M' => (∃ v, Pc 0 (some (.int v)) M' ∧ r = some (.long v.toInt64)) ∨ (∃ k rr, Pc (k + 1) rr M' ∧ r = some (.long (kode (k + 1))))) := by
  refine conW_of (cc := cL_money) (maxL := 6) (own := RL) hl9 rfl (plainFor_of_name (by decide +kernel)) rfl (Nat.le_of_ble_eq_true rfl) ?_
  intro p e s m args below meth c A CX hN hret htab
  have C := CX.1
  refine VJ.aload_n C 0 dL_money_0 rfl ?_
  refine VJ.iload_n C 1 dL_money_1 rfl ?_
  refine VJ.iload_n C 2 dL_money_2 rfl ?_
  refine VJ.iload_n C 3 dL_money_3 rfl ?_
  refine VJ.iload C 4 dL_money_4 rfl ?_
  refine VJ.tryV CX [.int x1, .int x2, .int x3, .int x4] M0 [] hcon (vj_p0 _) 0 hx0 rfl (cwV 4 C.1.2.2.2.2 gL_money_X5_money rfl rfl rfl hyV_X5_money ⟨Nat.le_of_ble_eq_true rfl, Nat.le_of_ble_eq_true rfl⟩) rfl rfl (Nat.le_of_ble_eq_true rfl) dL_money_6 ⟨Nat.le_of_ble_eq_true rfl, Nat.le_of_ble_eq_true rfl⟩ ?_ ?_
  · intro r M1 h1
    obtain ⟨v, rfl⟩ := hint r M1 h1
    refine VJ.cM (M' := M1) (List.append_nil M1) ?_
    refine VJ.i2l C dL_money_9 ?_
    exact VJ.lretN C rmL_money.cells rmL_money.slots (fun _ h9 => h9) (Or.inl ⟨v, h1, rfl⟩) hret (Nat.le_of_ble_eq_true rfl) (Nat.le_of_ble_eq_true rfl) dL_money_10
  · intro k r M1 h1
    rcases hno k r M1 h1 with rfl | rfl
    · refine ⟨11, fun H locs ls Q ce q h5 h6 h7 h8 => vj_catch (hh := [(0, 10, 11, 27), (0, 10, 17, 15)]) (pre := []) (x := (0, 10, 11, 27)) (suf := [(0, 10, 17, 15)]) C.1.2.2.2.1 htab rfl (fun z hz => absurd hz List.not_mem_nil) (by decide) (by decide) (C.1.2.2.2.2 _ (List.mem_of_getElem? (i := 1) rfl)) (C.nest (List.mem_of_getElem? (i := 66) rfl) rfl) h5 h6 h7 h8, fun q => ?_⟩
      refine VJ.cM (M' := M1) (List.append_nil M1) ?_
      refine VJ.astore C [(5, .ref q), (0, .ref x), (1, .int x1), (2, .int x2), (3, .int x3), (4, .int x4)] dL_money_11 (Nat.le_of_ble_eq_true rfl) rfl ?_
      refine VJ.ldc2 (v := -9000000000000000001) C (C.1.2.2.2.2 _ (List.mem_of_getElem? (i := 3) rfl)) dL_money_13 ?_
      exact VJ.lretN C rmL_money.cells rmL_money.slots (fun _ h9 => h9) (Or.inr ⟨0, r, h1, rfl⟩) hret (Nat.le_of_ble_eq_true rfl) (Nat.le_of_ble_eq_true rfl) dL_money_16
    · refine ⟨17, fun H locs ls Q ce q h5 h6 h7 h8 => vj_catch (hh := [(0, 10, 11, 27), (0, 10, 17, 15)]) (pre := [(0, 10, 11, 27)]) (x := (0, 10, 17, 15)) (suf := []) C.1.2.2.2.1 htab rfl (vj_all ⟨by decide, "java/lang/IndexOutOfBoundsException", (C.1.2.2.2.2 _ (List.mem_of_getElem? (i := 1) rfl)), hN.1⟩ (fun z hz => absurd hz List.not_mem_nil)) (by decide) (by decide) (C.1.2.2.2.2 _ (List.mem_of_getElem? (i := 2) rfl)) (C.nest (List.mem_of_getElem? (i := 67) rfl) rfl) h5 h6 h7 h8, fun q => ?_⟩
      refine VJ.cM (M' := M1) (List.append_nil M1) ?_
      refine VJ.astore C [(5, .ref q), (0, .ref x), (1, .int x1), (2, .int x2), (3, .int x3), (4, .int x4)] dL_money_17 (Nat.le_of_ble_eq_true rfl) rfl ?_
      refine VJ.ldc2 (v := -9000000000000000002) C (C.1.2.2.2.2 _ (List.mem_of_getElem? (i := 4) rfl)) dL_money_19 ?_
      exact VJ.lretN C rmL_money.cells rmL_money.slots (fun _ h9 => h9) (Or.inr ⟨1, r, h1, rfl⟩) hret (Nat.le_of_ble_eq_true rfl) (Nat.le_of_ble_eq_true rfl) dL_money_22

abbrev rmL_changed : Room := { frames := 9, cells := 3, slots := 18, locals := 158 }
theorem hy_L_changed : yL_changed.cls ≠ "java/lang/invoke/MethodHandle" ∧ yL_changed.cls ≠ "java/lang/invoke/VarHandle" ∧ (parseMethodDescriptor yL_changed.desc).map (fun d => d.parameters.length) = some 4 := by decide +kernel
set_option maxHeartbeats 8000000 in
set_option maxRecDepth 100000 in
theorem c_L_changed (l : Launch) (hl9 : l.stackTraces = false) (G : va_G) (cI cZ cQ cU cJ : ClassId) (x : Nat) (x1 x2 x3 : Int32) (M0 : va_W) (Pc : Nat → Option Value → va_W → Prop) (fs : List Value) (hx0 : M0[0]? = some (x, .inr (5, fs))) (hcon : ConX l yX5_changed wsX5_changed rmX5_changed G vwCl (tys cI cZ cQ cU cJ) nws strs (.ref x :: [.int x1, .int x2, .int x3]) M0 Pc) (hint : ∀ r M1, Pc 0 r M1 → ∃ v, r = some (.int v)) (hno : ∀ k r M1, Pc (k + 1) r M1 → k = 1) : ConW l yL_changed wsL_changed rmL_changed G vwCl (tys cI cZ cQ cU cJ) nws strs [.ref x, .int x1, .int x2, .int x3] M0 (fun _ r M' => (∃ v, Pc 0 (some (.int v)) M' ∧ r = some (.long v.toInt64)) ∨ (∃ k rr, Pc (k + 1) rr M' ∧ r = some (.long (kode (k + 1))))) := by
  refine conW_of (cc := cL_changed) (maxL := 5) (own := RL) hl9 rfl (plainFor_of_name (by decide +kernel)) rfl (Nat.le_of_ble_eq_true rfl) ?_
  intro p e s m args below meth c A CX hN hret htab
  have C := CX.1
  refine VJ.aload_n C 0 dL_changed_0 rfl ?_
  refine VJ.iload_n C 1 dL_changed_1 rfl ?_
  refine VJ.iload_n C 2 dL_changed_2 rfl ?_
  refine VJ.iload_n C 3 dL_changed_3 rfl ?_
  refine VJ.tryV CX [.int x1, .int x2, .int x3] M0 [] hcon (vj_p0 _) 0 hx0 rfl (cwV 3 C.1.2.2.2.2 gL_changed_X5_changed rfl rfl rfl hyV_X5_changed ⟨Nat.le_of_ble_eq_true rfl, Nat.le_of_ble_eq_true rfl⟩) rfl rfl (Nat.le_of_ble_eq_true rfl) dL_changed_4 ⟨Nat.le_of_ble_eq_true rfl, Nat.le_of_ble_eq_true rfl⟩ ?_ ?_
  · intro r M1 h1
    obtain ⟨v, rfl⟩ := hint r M1 h1
    refine VJ.cM (M' := M1) (List.append_nil M1) ?_
    refine VJ.i2l C dL_changed_7 ?_
    exact VJ.lretN C rmL_changed.cells rmL_changed.slots (fun _ h9 => h9) (Or.inl ⟨v, h1, rfl⟩) hret (Nat.le_of_ble_eq_true rfl) (Nat.le_of_ble_eq_true rfl) dL_changed_8
  · intro k r M1 h1
    obtain rfl := hno k r M1 h1
    · refine ⟨9, fun H locs ls Q ce q h5 h6 h7 h8 => vj_catch (hh := [(0, 8, 9, 15)]) (pre := []) (x := (0, 8, 9, 15)) (suf := []) C.1.2.2.2.1 htab rfl (fun z hz => absurd hz List.not_mem_nil) (by decide) (by decide) (C.1.2.2.2.2 _ (List.mem_of_getElem? (i := 1) rfl)) (C.nest (List.mem_of_getElem? (i := 67) rfl) rfl) h5 h6 h7 h8, fun q => ?_⟩
      refine VJ.cM (M' := M1) (List.append_nil M1) ?_
      refine VJ.astore C [(4, .ref q), (0, .ref x), (1, .int x1), (2, .int x2), (3, .int x3)] dL_changed_9 (Nat.le_of_ble_eq_true rfl) rfl ?_
      refine VJ.ldc2 (v := -9000000000000000002) C (C.1.2.2.2.2 _ (List.mem_of_getElem? (i := 2) rfl)) dL_changed_11 ?_
      exact VJ.lretN C rmL_changed.cells rmL_changed.slots (fun _ h9 => h9) (Or.inr ⟨1, r, h1, rfl⟩) hret (Nat.le_of_ble_eq_true rfl) (Nat.le_of_ble_eq_true rfl) dL_changed_14

abbrev rmL_origin : Room := { frames := 9, cells := 2, slots := 12, locals := 154 }
theorem hy_L_origin : yL_origin.cls ≠ "java/lang/invoke/MethodHandle" ∧ yL_origin.cls ≠ "java/lang/invoke/VarHandle" ∧ (parseMethodDescriptor yL_origin.desc).map (fun d => d.parameters.length) = some 3 := by decide +kernel
set_option maxHeartbeats 8000000 in
set_option maxRecDepth 100000 in
theorem c_L_origin (l : Launch) (hl9 : l.stackTraces = false) (G : va_G) (cI cZ cQ cU cJ : ClassId) (x : Nat) (x1 x2 : Int32) (M0 : va_W) (Pc : Nat → Option Value → va_W → Prop) (fs : List Value) (hx0 : M0[0]? = some (x, .inr (5, fs))) (hcon : ConX l yX5_origin wsX5_origin rmX5_origin G vwCl (tys cI cZ cQ cU cJ) nws strs (.ref x :: [.int x1, .int x2]) M0 Pc) (hint : ∀ r M1, Pc 0 r M1 → ∃ v, r = some (.int v)) (hno : ∀ k r M1, Pc (k + 1) r M1 → k = 0) : ConW l yL_origin wsL_origin rmL_origin G vwCl (tys cI cZ cQ cU cJ) nws strs [.ref x, .int x1, .int x2] M0 (fun _ r M' => (∃ v, Pc 0 (some (.int v)) M' ∧ r = some (.long v.toInt64)) ∨ (∃ k rr, Pc (k + 1) rr M' ∧ r = some (.long (kode (k + 1))))) := by
  refine conW_of (cc := cL_origin) (maxL := 4) (own := RL) hl9 rfl (plainFor_of_name (by decide +kernel)) rfl (Nat.le_of_ble_eq_true rfl) ?_
  intro p e s m args below meth c A CX hN hret htab
  have C := CX.1
  refine VJ.aload_n C 0 dL_origin_0 rfl ?_
  refine VJ.iload_n C 1 dL_origin_1 rfl ?_
  refine VJ.iload_n C 2 dL_origin_2 rfl ?_
  refine VJ.tryV CX [.int x1, .int x2] M0 [] hcon (vj_p0 _) 0 hx0 rfl (cwV 2 C.1.2.2.2.2 gL_origin_X5_origin rfl rfl rfl hyV_X5_origin ⟨Nat.le_of_ble_eq_true rfl, Nat.le_of_ble_eq_true rfl⟩) rfl rfl (Nat.le_of_ble_eq_true rfl) dL_origin_3 ⟨Nat.le_of_ble_eq_true rfl, Nat.le_of_ble_eq_true rfl⟩ ?_ ?_
  · intro r M1 h1
    obtain ⟨v, rfl⟩ := hint r M1 h1
    refine VJ.cM (M' := M1) (List.append_nil M1) ?_
    refine VJ.i2l C dL_origin_6 ?_
    exact VJ.lretN C rmL_origin.cells rmL_origin.slots (fun _ h9 => h9) (Or.inl ⟨v, h1, rfl⟩) hret (Nat.le_of_ble_eq_true rfl) (Nat.le_of_ble_eq_true rfl) dL_origin_7
  · intro k r M1 h1
    obtain rfl := hno k r M1 h1
    · refine ⟨8, fun H locs ls Q ce q h5 h6 h7 h8 => vj_catch (hh := [(0, 7, 8, 27)]) (pre := []) (x := (0, 7, 8, 27)) (suf := []) C.1.2.2.2.1 htab rfl (fun z hz => absurd hz List.not_mem_nil) (by decide) (by decide) (C.1.2.2.2.2 _ (List.mem_of_getElem? (i := 1) rfl)) (C.nest (List.mem_of_getElem? (i := 66) rfl) rfl) h5 h6 h7 h8, fun q => ?_⟩
      refine VJ.cM (M' := M1) (List.append_nil M1) ?_
      refine VJ.astore_n C [(3, .ref q), (0, .ref x), (1, .int x1), (2, .int x2)] dL_origin_8 (Nat.le_of_ble_eq_true rfl) rfl ?_
      refine VJ.ldc2 (v := -9000000000000000001) C (C.1.2.2.2.2 _ (List.mem_of_getElem? (i := 2) rfl)) dL_origin_9 ?_
      exact VJ.lretN C rmL_origin.cells rmL_origin.slots (fun _ h9 => h9) (Or.inr ⟨0, r, h1, rfl⟩) hret (Nat.le_of_ble_eq_true rfl) (Nat.le_of_ble_eq_true rfl) dL_origin_12

abbrev rmL_likeness : Room := { frames := 8, cells := 3, slots := 18, locals := 133 }
theorem hy_L_likeness : yL_likeness.cls ≠ "java/lang/invoke/MethodHandle" ∧ yL_likeness.cls ≠ "java/lang/invoke/VarHandle" ∧ (parseMethodDescriptor yL_likeness.desc).map (fun d => d.parameters.length) = some 3 := by decide +kernel
set_option maxHeartbeats 8000000 in
set_option maxRecDepth 100000 in
theorem c_L_likeness (l : Launch) (hl9 : l.stackTraces = false) (G : va_G) (cI cZ cQ cU cJ : ClassId) (x : Nat) (x1 x2 : Int32) (M0 : va_W) (Pc : Nat → Option Value → va_W → Prop) (fs : List Value) (hx0 : M0[0]? = some (x, .inr (5, fs))) (hcon : ConX l yX5_likeness wsX5_likeness rmX5_likeness G vwCl (tys cI cZ cQ cU cJ) nws strs (.ref x :: [.int x1, .int x2]) M0 Pc) (hint : ∀ r M1, Pc 0 r M1 → ∃ v, r = some (.int v)) (hno : ∀ k r M1, Pc (k + 1) r M1 → k = 0 ∨ k = 1) : ConW l yL_likeness wsL_likeness rmL_likeness G vwCl (tys cI cZ cQ cU cJ) nws strs [.ref x, .int x1, .int x2] M0 (fun _ r M' => (∃ v, Pc 0 (some (.int v)) M' ∧ r = some (.long v.toInt64)) ∨ (∃ k rr, Pc (k + 1) rr M' ∧ r = some (.long (kode (k + 1))))) := by
  refine conW_of (cc := cL_likeness) (maxL := 4) (own := RL) hl9 rfl (plainFor_of_name (by decide +kernel)) rfl (Nat.le_of_ble_eq_true rfl) ?_
  intro p e s m args below meth c A CX hN hret htab
  have C := CX.1
  refine VJ.aload_n C 0 dL_likeness_0 rfl ?_
  refine VJ.iload_n C 1 dL_likeness_1 rfl ?_
  refine VJ.iload_n C 2 dL_likeness_2 rfl ?_
  refine VJ.tryV CX [.int x1, .int x2] M0 [] hcon (vj_p0 _) 0 hx0 rfl (cwV 2 C.1.2.2.2.2 gL_likeness_X5_likeness rfl rfl rfl hyV_X5_likeness ⟨Nat.le_of_ble_eq_true rfl, Nat.le_of_ble_eq_true rfl⟩) rfl rfl (Nat.le_of_ble_eq_true rfl) dL_likeness_3 ⟨Nat.le_of_ble_eq_true rfl, Nat.le_of_ble_eq_true rfl⟩ ?_ ?_
  · intro r M1 h1
    obtain ⟨v, rfl⟩ := hint r M1 h1
    refine VJ.cM (M' := M1) (List.append_nil M1) ?_
    refine VJ.i2l C dL_likeness_6 ?_
    exact VJ.lretN C rmL_likeness.cells rmL_likeness.slots (fun _ h9 => h9) (Or.inl ⟨v, h1, rfl⟩) hret (Nat.le_of_ble_eq_true rfl) (Nat.le_of_ble_eq_true rfl) dL_likeness_7
  · intro k r M1 h1
    rcases hno k r M1 h1 with rfl | rfl
    · refine ⟨8, fun H locs ls Q ce q h5 h6 h7 h8 => vj_catch (hh := [(0, 7, 8, 27), (0, 7, 13, 15)]) (pre := []) (x := (0, 7, 8, 27)) (suf := [(0, 7, 13, 15)]) C.1.2.2.2.1 htab rfl (fun z hz => absurd hz List.not_mem_nil) (by decide) (by decide) (C.1.2.2.2.2 _ (List.mem_of_getElem? (i := 1) rfl)) (C.nest (List.mem_of_getElem? (i := 66) rfl) rfl) h5 h6 h7 h8, fun q => ?_⟩
      refine VJ.cM (M' := M1) (List.append_nil M1) ?_
      refine VJ.astore_n C [(3, .ref q), (0, .ref x), (1, .int x1), (2, .int x2)] dL_likeness_8 (Nat.le_of_ble_eq_true rfl) rfl ?_
      refine VJ.ldc2 (v := -9000000000000000001) C (C.1.2.2.2.2 _ (List.mem_of_getElem? (i := 3) rfl)) dL_likeness_9 ?_
      exact VJ.lretN C rmL_likeness.cells rmL_likeness.slots (fun _ h9 => h9) (Or.inr ⟨0, r, h1, rfl⟩) hret (Nat.le_of_ble_eq_true rfl) (Nat.le_of_ble_eq_true rfl) dL_likeness_12
    · refine ⟨13, fun H locs ls Q ce q h5 h6 h7 h8 => vj_catch (hh := [(0, 7, 8, 27), (0, 7, 13, 15)]) (pre := [(0, 7, 8, 27)]) (x := (0, 7, 13, 15)) (suf := []) C.1.2.2.2.1 htab rfl (vj_all ⟨by decide, "java/lang/IndexOutOfBoundsException", (C.1.2.2.2.2 _ (List.mem_of_getElem? (i := 1) rfl)), hN.1⟩ (fun z hz => absurd hz List.not_mem_nil)) (by decide) (by decide) (C.1.2.2.2.2 _ (List.mem_of_getElem? (i := 2) rfl)) (C.nest (List.mem_of_getElem? (i := 67) rfl) rfl) h5 h6 h7 h8, fun q => ?_⟩
      refine VJ.cM (M' := M1) (List.append_nil M1) ?_
      refine VJ.astore_n C [(3, .ref q), (0, .ref x), (1, .int x1), (2, .int x2)] dL_likeness_13 (Nat.le_of_ble_eq_true rfl) rfl ?_
      refine VJ.ldc2 (v := -9000000000000000002) C (C.1.2.2.2.2 _ (List.mem_of_getElem? (i := 4) rfl)) dL_likeness_14 ?_
      exact VJ.lretN C rmL_likeness.cells rmL_likeness.slots (fun _ h9 => h9) (Or.inr ⟨1, r, h1, rfl⟩) hret (Nat.le_of_ble_eq_true rfl) (Nat.le_of_ble_eq_true rfl) dL_likeness_17

abbrev rmL_doubleOf : Room := { frames := 8, cells := 1, slots := 6, locals := 133 }
theorem hy_L_doubleOf : yL_doubleOf.cls ≠ "java/lang/invoke/MethodHandle" ∧ yL_doubleOf.cls ≠ "java/lang/invoke/VarHandle" ∧ (parseMethodDescriptor yL_doubleOf.desc).map (fun d => d.parameters.length) = some 2 := by decide +kernel
set_option maxHeartbeats 8000000 in
set_option maxRecDepth 100000 in
theorem c_L_doubleOf (l : Launch) (hl9 : l.stackTraces = false) (G : va_G) (cI cZ cQ cU cJ : ClassId) (x : Nat) (x1 : Int32) (M0 : va_W) (Pc : Nat → Option Value → va_W → Prop) (fs : List Value) (hx0 : M0[0]? = some (x, .inr (5, fs))) (hcon : ConX l yX5_doubleOf wsX5_doubleOf rmX5_doubleOf G vwCl (tys cI cZ cQ cU cJ) nws strs (.ref x :: [.int x1]) M0 Pc) (hint : ∀ r M1, Pc 0 r M1 → ∃ v, r = some (.int v)) (hno : ∀ k r M1, Pc (k + 1) r M1 → k = 0) : ConW l yL_doubleOf wsL_doubleOf rmL_doubleOf G vwCl (tys cI cZ cQ cU cJ) nws strs [.ref x, .int x1] M0 (fun _ r M' => (∃ v, Pc 0 (some (.int v)) M' ∧ r = some (.long v.toInt64)) ∨ (∃ k rr, Pc (k + 1) rr M' ∧ r = some (.long (kode (k + 1))))) := by
  refine conW_of (cc := cL_doubleOf) (maxL := 3) (own := RL) hl9 rfl (plainFor_of_name (by decide +kernel)) rfl (Nat.le_of_ble_eq_true rfl) ?_
  intro p e s m args below meth c A CX hN hret htab
  have C := CX.1
  refine VJ.aload_n C 0 dL_doubleOf_0 rfl ?_
  refine VJ.iload_n C 1 dL_doubleOf_1 rfl ?_
  refine VJ.tryV CX [.int x1] M0 [] hcon (vj_p0 _) 0 hx0 rfl (cwV 1 C.1.2.2.2.2 gL_doubleOf_X5_doubleOf rfl rfl rfl hyV_X5_doubleOf ⟨Nat.le_of_ble_eq_true rfl, Nat.le_of_ble_eq_true rfl⟩) rfl rfl (Nat.le_of_ble_eq_true rfl) dL_doubleOf_2 ⟨Nat.le_of_ble_eq_true rfl, Nat.le_of_ble_eq_true rfl⟩ ?_ ?_
  · intro r M1 h1
    obtain ⟨v, rfl⟩ := hint r M1 h1
    refine VJ.cM (M' := M1) (List.append_nil M1) ?_
    refine VJ.i2l C dL_doubleOf_5 ?_
    exact VJ.lretN C rmL_doubleOf.cells rmL_doubleOf.slots (fun _ h9 => h9) (Or.inl ⟨v, h1, rfl⟩) hret (Nat.le_of_ble_eq_true rfl) (Nat.le_of_ble_eq_true rfl) dL_doubleOf_6
  · intro k r M1 h1
    obtain rfl := hno k r M1 h1
    · refine ⟨7, fun H locs ls Q ce q h5 h6 h7 h8 => vj_catch (hh := [(0, 6, 7, 27)]) (pre := []) (x := (0, 6, 7, 27)) (suf := []) C.1.2.2.2.1 htab rfl (fun z hz => absurd hz List.not_mem_nil) (by decide) (by decide) (C.1.2.2.2.2 _ (List.mem_of_getElem? (i := 1) rfl)) (C.nest (List.mem_of_getElem? (i := 66) rfl) rfl) h5 h6 h7 h8, fun q => ?_⟩
      refine VJ.cM (M' := M1) (List.append_nil M1) ?_
      refine VJ.astore_n C [(2, .ref q), (0, .ref x), (1, .int x1)] dL_doubleOf_7 (Nat.le_of_ble_eq_true rfl) rfl ?_
      refine VJ.ldc2 (v := -9000000000000000001) C (C.1.2.2.2.2 _ (List.mem_of_getElem? (i := 2) rfl)) dL_doubleOf_8 ?_
      exact VJ.lretN C rmL_doubleOf.cells rmL_doubleOf.slots (fun _ h9 => h9) (Or.inr ⟨0, r, h1, rfl⟩) hret (Nat.le_of_ble_eq_true rfl) (Nat.le_of_ble_eq_true rfl) dL_doubleOf_11

abbrev rmL_renumber : Room := { frames := 8, cells := 2, slots := 12, locals := 132 }
theorem hy_L_renumber : yL_renumber.cls ≠ "java/lang/invoke/MethodHandle" ∧ yL_renumber.cls ≠ "java/lang/invoke/VarHandle" ∧ (parseMethodDescriptor yL_renumber.desc).map (fun d => d.parameters.length) = some 2 := by decide +kernel
set_option maxHeartbeats 8000000 in
set_option maxRecDepth 100000 in
theorem c_L_renumber (l : Launch) (hl9 : l.stackTraces = false) (G : va_G) (cI cZ cQ cU cJ : ClassId) (x : Nat) (x1 : Int32) (M0 : va_W) (Pc : Nat → Option Value → va_W → Prop) (fs : List Value) (hx0 : M0[0]? = some (x, .inr (5, fs))) (hcon : ConX l yX5_renumber wsX5_renumber rmX5_renumber G vwCl (tys cI cZ cQ cU cJ) nws strs (.ref x :: [.int x1]) M0 Pc) (hint : ∀ r M1, Pc 0 r M1 → ∃ v, r = some (.int v)) (hno : ∀ k r M1, Pc (k + 1) r M1 → k = 0 ∨ k = 2) : ConW l yL_renumber wsL_renumber rmL_renumber G vwCl (tys cI cZ cQ cU cJ) nws strs [.ref x, .int x1] M0 (fun _ r M' => (∃ v, Pc 0 (some (.int v)) M' ∧ r = some (.long v.toInt64)) ∨ (∃ k rr, Pc (k + 1) rr M' ∧ r = some (.long (kode (k + 1))))) := by
  refine conW_of (cc := cL_renumber) (maxL := 3) (own := RL) hl9 rfl (plainFor_of_name (by decide +kernel)) rfl (Nat.le_of_ble_eq_true rfl) ?_
  intro p e s m args below meth c A CX hN hret htab
  have C := CX.1
  refine VJ.aload_n C 0 dL_renumber_0 rfl ?_
  refine VJ.iload_n C 1 dL_renumber_1 rfl ?_
  refine VJ.tryV CX [.int x1] M0 [] hcon (vj_p0 _) 0 hx0 rfl (cwV 1 C.1.2.2.2.2 gL_renumber_X5_renumber rfl rfl rfl hyV_X5_renumber ⟨Nat.le_of_ble_eq_true rfl, Nat.le_of_ble_eq_true rfl⟩) rfl rfl (Nat.le_of_ble_eq_true rfl) dL_renumber_2 ⟨Nat.le_of_ble_eq_true rfl, Nat.le_of_ble_eq_true rfl⟩ ?_ ?_
  · intro r M1 h1
    obtain ⟨v, rfl⟩ := hint r M1 h1
    refine VJ.cM (M' := M1) (List.append_nil M1) ?_
    refine VJ.i2l C dL_renumber_5 ?_
    exact VJ.lretN C rmL_renumber.cells rmL_renumber.slots (fun _ h9 => h9) (Or.inl ⟨v, h1, rfl⟩) hret (Nat.le_of_ble_eq_true rfl) (Nat.le_of_ble_eq_true rfl) dL_renumber_6
  · intro k r M1 h1
    rcases hno k r M1 h1 with rfl | rfl
    · refine ⟨7, fun H locs ls Q ce q h5 h6 h7 h8 => vj_catch (hh := [(0, 6, 7, 27), (0, 6, 12, 19)]) (pre := []) (x := (0, 6, 7, 27)) (suf := [(0, 6, 12, 19)]) C.1.2.2.2.1 htab rfl (fun z hz => absurd hz List.not_mem_nil) (by decide) (by decide) (C.1.2.2.2.2 _ (List.mem_of_getElem? (i := 1) rfl)) (C.nest (List.mem_of_getElem? (i := 66) rfl) rfl) h5 h6 h7 h8, fun q => ?_⟩
      refine VJ.cM (M' := M1) (List.append_nil M1) ?_
      refine VJ.astore_n C [(2, .ref q), (0, .ref x), (1, .int x1)] dL_renumber_7 (Nat.le_of_ble_eq_true rfl) rfl ?_
      refine VJ.ldc2 (v := -9000000000000000001) C (C.1.2.2.2.2 _ (List.mem_of_getElem? (i := 3) rfl)) dL_renumber_8 ?_
      exact VJ.lretN C rmL_renumber.cells rmL_renumber.slots (fun _ h9 => h9) (Or.inr ⟨0, r, h1, rfl⟩) hret (Nat.le_of_ble_eq_true rfl) (Nat.le_of_ble_eq_true rfl) dL_renumber_11
    · refine ⟨12, fun H locs ls Q ce q h5 h6 h7 h8 => vj_catch (hh := [(0, 6, 7, 27), (0, 6, 12, 19)]) (pre := [(0, 6, 7, 27)]) (x := (0, 6, 12, 19)) (suf := []) C.1.2.2.2.1 htab rfl (vj_all ⟨by decide, "java/lang/IndexOutOfBoundsException", (C.1.2.2.2.2 _ (List.mem_of_getElem? (i := 1) rfl)), hN.2.1⟩ (fun z hz => absurd hz List.not_mem_nil)) (by decide) (by decide) (C.1.2.2.2.2 _ (List.mem_of_getElem? (i := 2) rfl)) (C.nest (List.mem_of_getElem? (i := 68) rfl) rfl) h5 h6 h7 h8, fun q => ?_⟩
      refine VJ.cM (M' := M1) (List.append_nil M1) ?_
      refine VJ.astore_n C [(2, .ref q), (0, .ref x), (1, .int x1)] dL_renumber_12 (Nat.le_of_ble_eq_true rfl) rfl ?_
      refine VJ.ldc2 (v := -9000000000000000003) C (C.1.2.2.2.2 _ (List.mem_of_getElem? (i := 4) rfl)) dL_renumber_13 ?_
      exact VJ.lretN C rmL_renumber.cells rmL_renumber.slots (fun _ h9 => h9) (Or.inr ⟨2, r, h1, rfl⟩) hret (Nat.le_of_ble_eq_true rfl) (Nat.le_of_ble_eq_true rfl) dL_renumber_16

abbrev rmL_number : Room := { frames := 8, cells := 1, slots := 6, locals := 132 }
theorem hy_L_number : yL_number.cls ≠ "java/lang/invoke/MethodHandle" ∧ yL_number.cls ≠ "java/lang/invoke/VarHandle" ∧ (parseMethodDescriptor yL_number.desc).map (fun d => d.parameters.length) = some 2 := by decide +kernel
set_option maxHeartbeats 8000000 in
set_option maxRecDepth 100000 in
theorem c_L_number (l : Launch) (hl9 : l.stackTraces = false) (G : va_G) (cI cZ cQ cU cJ : ClassId) (x : Nat) (x1 : Int32) (M0 : va_W) (Pc : Nat → Option Value → va_W → Prop) (fs : List Value) (hx0 : M0[0]? = some (x, .inr (5, fs))) (hcon : ConX l yX5_number wsX5_number rmX5_number G vwCl (tys cI cZ cQ cU cJ) nws strs (.ref x :: [.int x1]) M0 Pc) (hint : ∀ r M1, Pc 0 r M1 → ∃ v, r = some (.int v)) (hno : ∀ k r M1, Pc (k + 1) r M1 → k = 0) : ConW l yL_number wsL_number rmL_number G vwCl (tys cI cZ cQ cU cJ) nws strs [.ref x, .int x1] M0 (fun _ r M' => (∃ v, Pc 0 (some (.int v)) M' ∧ r = some (.long v.toInt64)) ∨ (∃ k rr, Pc (k + 1) rr M' ∧ r = some (.long (kode (k + 1))))) := by
  refine conW_of (cc := cL_number) (maxL := 3) (own := RL) hl9 rfl (plainFor_of_name (by decide +kernel)) rfl (Nat.le_of_ble_eq_true rfl) ?_
  intro p e s m args below meth c A CX hN hret htab
  have C := CX.1
  refine VJ.aload_n C 0 dL_number_0 rfl ?_
  refine VJ.iload_n C 1 dL_number_1 rfl ?_
  refine VJ.tryV CX [.int x1] M0 [] hcon (vj_p0 _) 0 hx0 rfl (cwV 1 C.1.2.2.2.2 gL_number_X5_number rfl rfl rfl hyV_X5_number ⟨Nat.le_of_ble_eq_true rfl, Nat.le_of_ble_eq_true rfl⟩) rfl rfl (Nat.le_of_ble_eq_true rfl) dL_number_2 ⟨Nat.le_of_ble_eq_true rfl, Nat.le_of_ble_eq_true rfl⟩ ?_ ?_
  · intro r M1 h1
    obtain ⟨v, rfl⟩ := hint r M1 h1
    refine VJ.cM (M' := M1) (List.append_nil M1) ?_
    refine VJ.i2l C dL_number_5 ?_
    exact VJ.lretN C rmL_number.cells rmL_number.slots (fun _ h9 => h9) (Or.inl ⟨v, h1, rfl⟩) hret (Nat.le_of_ble_eq_true rfl) (Nat.le_of_ble_eq_true rfl) dL_number_6
  · intro k r M1 h1
    obtain rfl := hno k r M1 h1
    · refine ⟨7, fun H locs ls Q ce q h5 h6 h7 h8 => vj_catch (hh := [(0, 6, 7, 27)]) (pre := []) (x := (0, 6, 7, 27)) (suf := []) C.1.2.2.2.1 htab rfl (fun z hz => absurd hz List.not_mem_nil) (by decide) (by decide) (C.1.2.2.2.2 _ (List.mem_of_getElem? (i := 1) rfl)) (C.nest (List.mem_of_getElem? (i := 66) rfl) rfl) h5 h6 h7 h8, fun q => ?_⟩
      refine VJ.cM (M' := M1) (List.append_nil M1) ?_
      refine VJ.astore_n C [(2, .ref q), (0, .ref x), (1, .int x1)] dL_number_7 (Nat.le_of_ble_eq_true rfl) rfl ?_
      refine VJ.ldc2 (v := -9000000000000000001) C (C.1.2.2.2.2 _ (List.mem_of_getElem? (i := 2) rfl)) dL_number_8 ?_
      exact VJ.lretN C rmL_number.cells rmL_number.slots (fun _ h9 => h9) (Or.inr ⟨0, r, h1, rfl⟩) hret (Nat.le_of_ble_eq_true rfl) (Nat.le_of_ble_eq_true rfl) dL_number_11

abbrev rmL_bearer : Room := { frames := 8, cells := 2, slots := 12, locals := 133 }
theorem hy_L_bearer : yL_bearer.cls ≠ "java/lang/invoke/MethodHandle" ∧ yL_bearer.cls ≠ "java/lang/invoke/VarHandle" ∧ (parseMethodDescriptor yL_bearer.desc).map (fun d => d.parameters.length) = some 2 := by decide +kernel
set_option maxHeartbeats 8000000 in
set_option maxRecDepth 100000 in
theorem c_L_bearer (l : Launch) (hl9 : l.stackTraces = false) (G : va_G) (cI cZ cQ cU cJ : ClassId) (x : Nat) (x1 : Int32) (M0 : va_W) (Pc : Nat → Option Value → va_W → Prop) (fs : List Value) (hx0 : M0[0]? = some (x, .inr (5, fs))) (hcon : ConX l yX5_bearer wsX5_bearer rmX5_bearer G vwCl (tys cI cZ cQ cU cJ) nws strs (.ref x :: [.int x1]) M0 Pc) (hint : ∀ r M1, Pc 0 r M1 → ∃ v, r = some (.int v)) (hno : ∀ k r M1, Pc (k + 1) r M1 → k = 1) : ConW l yL_bearer wsL_bearer rmL_bearer G vwCl (tys cI cZ cQ cU cJ) nws strs [.ref x, .int x1] M0 (fun _ r M' => (∃ v, Pc 0 (some (.int v)) M' ∧ r = some (.long v.toInt64)) ∨ (∃ k rr, Pc (k + 1) rr M' ∧ r = some (.long (kode (k + 1))))) := by
  refine conW_of (cc := cL_bearer) (maxL := 3) (own := RL) hl9 rfl (plainFor_of_name (by decide +kernel)) rfl (Nat.le_of_ble_eq_true rfl) ?_
  intro p e s m args below meth c A CX hN hret htab
  have C := CX.1
  refine VJ.aload_n C 0 dL_bearer_0 rfl ?_
  refine VJ.iload_n C 1 dL_bearer_1 rfl ?_
  refine VJ.tryV CX [.int x1] M0 [] hcon (vj_p0 _) 0 hx0 rfl (cwV 1 C.1.2.2.2.2 gL_bearer_X5_bearer rfl rfl rfl hyV_X5_bearer ⟨Nat.le_of_ble_eq_true rfl, Nat.le_of_ble_eq_true rfl⟩) rfl rfl (Nat.le_of_ble_eq_true rfl) dL_bearer_2 ⟨Nat.le_of_ble_eq_true rfl, Nat.le_of_ble_eq_true rfl⟩ ?_ ?_
  · intro r M1 h1
    obtain ⟨v, rfl⟩ := hint r M1 h1
    refine VJ.cM (M' := M1) (List.append_nil M1) ?_
    refine VJ.i2l C dL_bearer_5 ?_
    exact VJ.lretN C rmL_bearer.cells rmL_bearer.slots (fun _ h9 => h9) (Or.inl ⟨v, h1, rfl⟩) hret (Nat.le_of_ble_eq_true rfl) (Nat.le_of_ble_eq_true rfl) dL_bearer_6
  · intro k r M1 h1
    obtain rfl := hno k r M1 h1
    · refine ⟨7, fun H locs ls Q ce q h5 h6 h7 h8 => vj_catch (hh := [(0, 6, 7, 15)]) (pre := []) (x := (0, 6, 7, 15)) (suf := []) C.1.2.2.2.1 htab rfl (fun z hz => absurd hz List.not_mem_nil) (by decide) (by decide) (C.1.2.2.2.2 _ (List.mem_of_getElem? (i := 1) rfl)) (C.nest (List.mem_of_getElem? (i := 67) rfl) rfl) h5 h6 h7 h8, fun q => ?_⟩
      refine VJ.cM (M' := M1) (List.append_nil M1) ?_
      refine VJ.astore_n C [(2, .ref q), (0, .ref x), (1, .int x1)] dL_bearer_7 (Nat.le_of_ble_eq_true rfl) rfl ?_
      refine VJ.ldc2 (v := -9000000000000000002) C (C.1.2.2.2.2 _ (List.mem_of_getElem? (i := 2) rfl)) dL_bearer_8 ?_
      exact VJ.lretN C rmL_bearer.cells rmL_bearer.slots (fun _ h9 => h9) (Or.inr ⟨1, r, h1, rfl⟩) hret (Nat.le_of_ble_eq_true rfl) (Nat.le_of_ble_eq_true rfl) dL_bearer_11

abbrev rmL_roll : Room := { frames := 8, cells := 5, slots := 65, locals := 135 }
theorem hy_L_roll : yL_roll.cls ≠ "java/lang/invoke/MethodHandle" ∧ yL_roll.cls ≠ "java/lang/invoke/VarHandle" ∧ (parseMethodDescriptor yL_roll.desc).map (fun d => d.parameters.length) = some 3 := by decide +kernel
set_option maxHeartbeats 8000000 in
set_option maxRecDepth 100000 in
theorem c_L_roll (l : Launch) (hl9 : l.stackTraces = false) (G : va_G) (cI cZ cQ cU cJ : ClassId) (x : Nat) (x1 x2 : Int32) (M0 : va_W) (Pc : Nat → Option Value → va_W → Prop) (fs : List Value) (hx0 : M0[0]? = some (x, .inr (5, fs))) (hcon : ConX l yX5_roll wsX5_roll rmX5_roll G vwCl (tys cI cZ cQ cU cJ) nws strs (.ref x :: [.int x1, .int x2]) M0 Pc) (hint : ∀ r M1, Pc 0 r M1 → ∃ v, r = some (.int v)) (hno : ∀ k r M1, Pc (k + 1) r M1 → k = 0 ∨ k = 1 ∨ k = 2) : ConW l yL_roll wsL_roll rmL_roll G vwCl (tys cI cZ cQ cU cJ) nws strs [.ref x, .int x1, .int x2] M0 (fun _ r M' => (∃ v, Pc 0 (some (.int v)) M' ∧ r = some (.long v.toInt64)) ∨ (∃ k rr, Pc (k + 1) rr M' ∧ r = some (.long (kode (k + 1))))) := by
  refine conW_of (cc := cL_roll) (maxL := 4) (own := RL) hl9 rfl (plainFor_of_name (by decide +kernel)) rfl (Nat.le_of_ble_eq_true rfl) ?_
  intro p e s m args below meth c A CX hN hret htab
  have C := CX.1
  refine VJ.aload_n C 0 dL_roll_0 rfl ?_
  refine VJ.iload_n C 1 dL_roll_1 rfl ?_
  refine VJ.iload_n C 2 dL_roll_2 rfl ?_
  refine VJ.tryV CX [.int x1, .int x2] M0 [] hcon (vj_p0 _) 0 hx0 rfl (cwV 2 C.1.2.2.2.2 gL_roll_X5_roll rfl rfl rfl hyV_X5_roll ⟨Nat.le_of_ble_eq_true rfl, Nat.le_of_ble_eq_true rfl⟩) rfl rfl (Nat.le_of_ble_eq_true rfl) dL_roll_3 ⟨Nat.le_of_ble_eq_true rfl, Nat.le_of_ble_eq_true rfl⟩ ?_ ?_
  · intro r M1 h1
    obtain ⟨v, rfl⟩ := hint r M1 h1
    refine VJ.cM (M' := M1) (List.append_nil M1) ?_
    refine VJ.i2l C dL_roll_6 ?_
    exact VJ.lretN C rmL_roll.cells rmL_roll.slots (fun _ h9 => h9) (Or.inl ⟨v, h1, rfl⟩) hret (Nat.le_of_ble_eq_true rfl) (Nat.le_of_ble_eq_true rfl) dL_roll_7
  · intro k r M1 h1
    rcases hno k r M1 h1 with rfl | rfl | rfl
    · refine ⟨8, fun H locs ls Q ce q h5 h6 h7 h8 => vj_catch (hh := [(0, 7, 8, 27), (0, 7, 13, 15), (0, 7, 18, 19)]) (pre := []) (x := (0, 7, 8, 27)) (suf := [(0, 7, 13, 15), (0, 7, 18, 19)]) C.1.2.2.2.1 htab rfl (fun z hz => absurd hz List.not_mem_nil) (by decide) (by decide) (C.1.2.2.2.2 _ (List.mem_of_getElem? (i := 1) rfl)) (C.nest (List.mem_of_getElem? (i := 66) rfl) rfl) h5 h6 h7 h8, fun q => ?_⟩
      refine VJ.cM (M' := M1) (List.append_nil M1) ?_
      refine VJ.astore_n C [(3, .ref q), (0, .ref x), (1, .int x1), (2, .int x2)] dL_roll_8 (Nat.le_of_ble_eq_true rfl) rfl ?_
      refine VJ.ldc2 (v := -9000000000000000001) C (C.1.2.2.2.2 _ (List.mem_of_getElem? (i := 4) rfl)) dL_roll_9 ?_
      exact VJ.lretN C rmL_roll.cells rmL_roll.slots (fun _ h9 => h9) (Or.inr ⟨0, r, h1, rfl⟩) hret (Nat.le_of_ble_eq_true rfl) (Nat.le_of_ble_eq_true rfl) dL_roll_12
    · refine ⟨13, fun H locs ls Q ce q h5 h6 h7 h8 => vj_catch (hh := [(0, 7, 8, 27), (0, 7, 13, 15), (0, 7, 18, 19)]) (pre := [(0, 7, 8, 27)]) (x := (0, 7, 13, 15)) (suf := [(0, 7, 18, 19)]) C.1.2.2.2.1 htab rfl (vj_all ⟨by decide, "java/lang/IndexOutOfBoundsException", (C.1.2.2.2.2 _ (List.mem_of_getElem? (i := 1) rfl)), hN.1⟩ (fun z hz => absurd hz List.not_mem_nil)) (by decide) (by decide) (C.1.2.2.2.2 _ (List.mem_of_getElem? (i := 2) rfl)) (C.nest (List.mem_of_getElem? (i := 67) rfl) rfl) h5 h6 h7 h8, fun q => ?_⟩
      refine VJ.cM (M' := M1) (List.append_nil M1) ?_
      refine VJ.astore_n C [(3, .ref q), (0, .ref x), (1, .int x1), (2, .int x2)] dL_roll_13 (Nat.le_of_ble_eq_true rfl) rfl ?_
      refine VJ.ldc2 (v := -9000000000000000002) C (C.1.2.2.2.2 _ (List.mem_of_getElem? (i := 5) rfl)) dL_roll_14 ?_
      exact VJ.lretN C rmL_roll.cells rmL_roll.slots (fun _ h9 => h9) (Or.inr ⟨1, r, h1, rfl⟩) hret (Nat.le_of_ble_eq_true rfl) (Nat.le_of_ble_eq_true rfl) dL_roll_17
    · refine ⟨18, fun H locs ls Q ce q h5 h6 h7 h8 => vj_catch (hh := [(0, 7, 8, 27), (0, 7, 13, 15), (0, 7, 18, 19)]) (pre := [(0, 7, 8, 27), (0, 7, 13, 15)]) (x := (0, 7, 18, 19)) (suf := []) C.1.2.2.2.1 htab rfl (vj_all ⟨by decide, "java/lang/IndexOutOfBoundsException", (C.1.2.2.2.2 _ (List.mem_of_getElem? (i := 1) rfl)), hN.2.1⟩ (vj_all ⟨by decide, "java/lang/IllegalArgumentException", (C.1.2.2.2.2 _ (List.mem_of_getElem? (i := 2) rfl)), hN.2.2⟩ (fun z hz => absurd hz List.not_mem_nil))) (by decide) (by decide) (C.1.2.2.2.2 _ (List.mem_of_getElem? (i := 3) rfl)) (C.nest (List.mem_of_getElem? (i := 68) rfl) rfl) h5 h6 h7 h8, fun q => ?_⟩
      refine VJ.cM (M' := M1) (List.append_nil M1) ?_
      refine VJ.astore_n C [(3, .ref q), (0, .ref x), (1, .int x1), (2, .int x2)] dL_roll_18 (Nat.le_of_ble_eq_true rfl) rfl ?_
      refine VJ.ldc2 (v := -9000000000000000003) C (C.1.2.2.2.2 _ (List.mem_of_getElem? (i := 6) rfl)) dL_roll_19 ?_
      exact VJ.lretN C rmL_roll.cells rmL_roll.slots (fun _ h9 => h9) (Or.inr ⟨2, r, h1, rfl⟩) hret (Nat.le_of_ble_eq_true rfl) (Nat.le_of_ble_eq_true rfl) dL_roll_22

abbrev rmL_deliver : Room := { frames := 8, cells := 2, slots := 12294, locals := 137 }
theorem hy_L_deliver : yL_deliver.cls ≠ "java/lang/invoke/MethodHandle" ∧ yL_deliver.cls ≠ "java/lang/invoke/VarHandle" ∧ (parseMethodDescriptor yL_deliver.desc).map (fun d => d.parameters.length) = some 2 := by decide +kernel
set_option maxHeartbeats 8000000 in
set_option maxRecDepth 100000 in
theorem c_L_deliver (l : Launch) (hl9 : l.stackTraces = false) (G : va_G) (cI cZ cQ cU cJ : ClassId) (x : Nat) (x1 : Int32) (M0 : va_W) (Pc : Nat → Option Value → va_W → Prop) (fs : List Value) (hx0 : M0[0]? = some (x, .inr (5, fs))) (hcon : ConX l yX5_deliver wsX5_deliver rmX5_deliver G vwCl (tys cI cZ cQ cU cJ) nws strs (.ref x :: [.int x1]) M0 Pc) (hint : ∀ r M1, Pc 0 r M1 → ∃ v, r = some (.int v)) (hno : ∀ k r M1, Pc (k + 1) r M1 → k = 0) : ConW l yL_deliver wsL_deliver rmL_deliver G vwCl (tys cI cZ cQ cU cJ) nws strs [.ref x, .int x1] M0 (fun _ r M' => (∃ v, Pc 0 (some (.int v)) M' ∧ r = some (.long v.toInt64)) ∨ (∃ k rr, Pc (k + 1) rr M' ∧ r = some (.long (kode (k + 1))))) := by
  refine conW_of (cc := cL_deliver) (maxL := 3) (own := RL) hl9 rfl (plainFor_of_name (by decide +kernel)) rfl (Nat.le_of_ble_eq_true rfl) ?_
  intro p e s m args below meth c A CX hN hret htab
  have C := CX.1
  refine VJ.aload_n C 0 dL_deliver_0 rfl ?_
  refine VJ.iload_n C 1 dL_deliver_1 rfl ?_
  refine VJ.tryV CX [.int x1] M0 [] hcon (vj_p0 _) 0 hx0 rfl (cwV 1 C.1.2.2.2.2 gL_deliver_X5_deliver rfl rfl rfl hyV_X5_deliver ⟨Nat.le_of_ble_eq_true rfl, Nat.le_of_ble_eq_true rfl⟩) rfl rfl (Nat.le_of_ble_eq_true rfl) dL_deliver_2 ⟨Nat.le_of_ble_eq_true rfl, Nat.le_of_ble_eq_true rfl⟩ ?_ ?_
  · intro r M1 h1
    obtain ⟨v, rfl⟩ := hint r M1 h1
    refine VJ.cM (M' := M1) (List.append_nil M1) ?_
    refine VJ.i2l C dL_deliver_5 ?_
    exact VJ.lretN C rmL_deliver.cells rmL_deliver.slots (fun _ h9 => h9) (Or.inl ⟨v, h1, rfl⟩) hret (Nat.le_of_ble_eq_true rfl) (Nat.le_of_ble_eq_true rfl) dL_deliver_6
  · intro k r M1 h1
    obtain rfl := hno k r M1 h1
    · refine ⟨7, fun H locs ls Q ce q h5 h6 h7 h8 => vj_catch (hh := [(0, 6, 7, 27)]) (pre := []) (x := (0, 6, 7, 27)) (suf := []) C.1.2.2.2.1 htab rfl (fun z hz => absurd hz List.not_mem_nil) (by decide) (by decide) (C.1.2.2.2.2 _ (List.mem_of_getElem? (i := 1) rfl)) (C.nest (List.mem_of_getElem? (i := 66) rfl) rfl) h5 h6 h7 h8, fun q => ?_⟩
      refine VJ.cM (M' := M1) (List.append_nil M1) ?_
      refine VJ.astore_n C [(2, .ref q), (0, .ref x), (1, .int x1)] dL_deliver_7 (Nat.le_of_ble_eq_true rfl) rfl ?_
      refine VJ.ldc2 (v := -9000000000000000001) C (C.1.2.2.2.2 _ (List.mem_of_getElem? (i := 2) rfl)) dL_deliver_8 ?_
      exact VJ.lretN C rmL_deliver.cells rmL_deliver.slots (fun _ h9 => h9) (Or.inr ⟨0, r, h1, rfl⟩) hret (Nat.le_of_ble_eq_true rfl) (Nat.le_of_ble_eq_true rfl) dL_deliver_11

abbrev rmL_owes : Room := { frames := 8, cells := 1, slots := 6, locals := 136 }
theorem hy_L_owes : yL_owes.cls ≠ "java/lang/invoke/MethodHandle" ∧ yL_owes.cls ≠ "java/lang/invoke/VarHandle" ∧ (parseMethodDescriptor yL_owes.desc).map (fun d => d.parameters.length) = some 2 := by decide +kernel
set_option maxHeartbeats 8000000 in
set_option maxRecDepth 100000 in
theorem c_L_owes (l : Launch) (hl9 : l.stackTraces = false) (G : va_G) (cI cZ cQ cU cJ : ClassId) (x : Nat) (x1 : Int32) (M0 : va_W) (Pc : Nat → Option Value → va_W → Prop) (fs : List Value) (hx0 : M0[0]? = some (x, .inr (5, fs))) (hcon : ConX l yX5_owes wsX5_owes rmX5_owes G vwCl (tys cI cZ cQ cU cJ) nws strs (.ref x :: [.int x1]) M0 Pc) (hint : ∀ r M1, Pc 0 r M1 → ∃ v, r = some (.int v)) (hno : ∀ k r M1, Pc (k + 1) r M1 → k = 0) : ConW l yL_owes wsL_owes rmL_owes G vwCl (tys cI cZ cQ cU cJ) nws strs [.ref x, .int x1] M0 (fun _ r M' => (∃ v, Pc 0 (some (.int v)) M' ∧ r = some (.long v.toInt64)) ∨ (∃ k rr, Pc (k + 1) rr M' ∧ r = some (.long (kode (k + 1))))) := by
  refine conW_of (cc := cL_owes) (maxL := 3) (own := RL) hl9 rfl (plainFor_of_name (by decide +kernel)) rfl (Nat.le_of_ble_eq_true rfl) ?_
  intro p e s m args below meth c A CX hN hret htab
  have C := CX.1
  refine VJ.aload_n C 0 dL_owes_0 rfl ?_
  refine VJ.iload_n C 1 dL_owes_1 rfl ?_
  refine VJ.tryV CX [.int x1] M0 [] hcon (vj_p0 _) 0 hx0 rfl (cwV 1 C.1.2.2.2.2 gL_owes_X5_owes rfl rfl rfl hyV_X5_owes ⟨Nat.le_of_ble_eq_true rfl, Nat.le_of_ble_eq_true rfl⟩) rfl rfl (Nat.le_of_ble_eq_true rfl) dL_owes_2 ⟨Nat.le_of_ble_eq_true rfl, Nat.le_of_ble_eq_true rfl⟩ ?_ ?_
  · intro r M1 h1
    obtain ⟨v, rfl⟩ := hint r M1 h1
    refine VJ.cM (M' := M1) (List.append_nil M1) ?_
    refine VJ.i2l C dL_owes_5 ?_
    exact VJ.lretN C rmL_owes.cells rmL_owes.slots (fun _ h9 => h9) (Or.inl ⟨v, h1, rfl⟩) hret (Nat.le_of_ble_eq_true rfl) (Nat.le_of_ble_eq_true rfl) dL_owes_6
  · intro k r M1 h1
    obtain rfl := hno k r M1 h1
    · refine ⟨7, fun H locs ls Q ce q h5 h6 h7 h8 => vj_catch (hh := [(0, 6, 7, 27)]) (pre := []) (x := (0, 6, 7, 27)) (suf := []) C.1.2.2.2.1 htab rfl (fun z hz => absurd hz List.not_mem_nil) (by decide) (by decide) (C.1.2.2.2.2 _ (List.mem_of_getElem? (i := 1) rfl)) (C.nest (List.mem_of_getElem? (i := 66) rfl) rfl) h5 h6 h7 h8, fun q => ?_⟩
      refine VJ.cM (M' := M1) (List.append_nil M1) ?_
      refine VJ.astore_n C [(2, .ref q), (0, .ref x), (1, .int x1)] dL_owes_7 (Nat.le_of_ble_eq_true rfl) rfl ?_
      refine VJ.ldc2 (v := -9000000000000000001) C (C.1.2.2.2.2 _ (List.mem_of_getElem? (i := 2) rfl)) dL_owes_8 ?_
      exact VJ.lretN C rmL_owes.cells rmL_owes.slots (fun _ h9 => h9) (Or.inr ⟨0, r, h1, rfl⟩) hret (Nat.le_of_ble_eq_true rfl) (Nat.le_of_ble_eq_true rfl) dL_owes_11

abbrev rmL_message : Room := { frames := 8, cells := 2, slots := 12, locals := 135 }
theorem hy_L_message : yL_message.cls ≠ "java/lang/invoke/MethodHandle" ∧ yL_message.cls ≠ "java/lang/invoke/VarHandle" ∧ (parseMethodDescriptor yL_message.desc).map (fun d => d.parameters.length) = some 3 := by decide +kernel
set_option maxHeartbeats 8000000 in
set_option maxRecDepth 100000 in
theorem c_L_message (l : Launch) (hl9 : l.stackTraces = false) (G : va_G) (cI cZ cQ cU cJ : ClassId) (x : Nat) (x1 x2 : Int32) (M0 : va_W) (Pc : Nat → Option Value → va_W → Prop) (fs : List Value) (hx0 : M0[0]? = some (x, .inr (5, fs))) (hcon : ConX l yX5_message wsX5_message rmX5_message G vwCl (tys cI cZ cQ cU cJ) nws strs (.ref x :: [.int x1, .int x2]) M0 Pc) (hint : ∀ r M1, Pc 0 r M1 → ∃ v, r = some (.int v)) (hno : ∀ k r M1, Pc (k + 1) r M1 → k = 0) : ConW l yL_message wsL_message rmL_message G vwCl (tys cI cZ cQ cU cJ) nws strs [.ref x, .int x1, .int x2] M0 (fun _ r M' => (∃ v, Pc 0 (some (.int v)) M' ∧ r = some (.long v.toInt64)) ∨ (∃ k rr, Pc (k + 1) rr M' ∧ r = some (.long (kode (k + 1))))) := by
  refine conW_of (cc := cL_message) (maxL := 4) (own := RL) hl9 rfl (plainFor_of_name (by decide +kernel)) rfl (Nat.le_of_ble_eq_true rfl) ?_
  intro p e s m args below meth c A CX hN hret htab
  have C := CX.1
  refine VJ.aload_n C 0 dL_message_0 rfl ?_
  refine VJ.iload_n C 1 dL_message_1 rfl ?_
  refine VJ.iload_n C 2 dL_message_2 rfl ?_
  refine VJ.tryV CX [.int x1, .int x2] M0 [] hcon (vj_p0 _) 0 hx0 rfl (cwV 2 C.1.2.2.2.2 gL_message_X5_message rfl rfl rfl hyV_X5_message ⟨Nat.le_of_ble_eq_true rfl, Nat.le_of_ble_eq_true rfl⟩) rfl rfl (Nat.le_of_ble_eq_true rfl) dL_message_3 ⟨Nat.le_of_ble_eq_true rfl, Nat.le_of_ble_eq_true rfl⟩ ?_ ?_
  · intro r M1 h1
    obtain ⟨v, rfl⟩ := hint r M1 h1
    refine VJ.cM (M' := M1) (List.append_nil M1) ?_
    refine VJ.i2l C dL_message_6 ?_
    exact VJ.lretN C rmL_message.cells rmL_message.slots (fun _ h9 => h9) (Or.inl ⟨v, h1, rfl⟩) hret (Nat.le_of_ble_eq_true rfl) (Nat.le_of_ble_eq_true rfl) dL_message_7
  · intro k r M1 h1
    obtain rfl := hno k r M1 h1
    · refine ⟨8, fun H locs ls Q ce q h5 h6 h7 h8 => vj_catch (hh := [(0, 7, 8, 27)]) (pre := []) (x := (0, 7, 8, 27)) (suf := []) C.1.2.2.2.1 htab rfl (fun z hz => absurd hz List.not_mem_nil) (by decide) (by decide) (C.1.2.2.2.2 _ (List.mem_of_getElem? (i := 1) rfl)) (C.nest (List.mem_of_getElem? (i := 66) rfl) rfl) h5 h6 h7 h8, fun q => ?_⟩
      refine VJ.cM (M' := M1) (List.append_nil M1) ?_
      refine VJ.astore_n C [(3, .ref q), (0, .ref x), (1, .int x1), (2, .int x2)] dL_message_8 (Nat.le_of_ble_eq_true rfl) rfl ?_
      refine VJ.ldc2 (v := -9000000000000000001) C (C.1.2.2.2.2 _ (List.mem_of_getElem? (i := 2) rfl)) dL_message_9 ?_
      exact VJ.lretN C rmL_message.cells rmL_message.slots (fun _ h9 => h9) (Or.inr ⟨0, r, h1, rfl⟩) hret (Nat.le_of_ble_eq_true rfl) (Nat.le_of_ble_eq_true rfl) dL_message_12

abbrev rmL_holds : Room := { frames := 8, cells := 2, slots := 12, locals := 135 }
theorem hy_L_holds : yL_holds.cls ≠ "java/lang/invoke/MethodHandle" ∧ yL_holds.cls ≠ "java/lang/invoke/VarHandle" ∧ (parseMethodDescriptor yL_holds.desc).map (fun d => d.parameters.length) = some 3 := by decide +kernel
set_option maxHeartbeats 8000000 in
set_option maxRecDepth 100000 in
theorem c_L_holds (l : Launch) (hl9 : l.stackTraces = false) (G : va_G) (cI cZ cQ cU cJ : ClassId) (x : Nat) (x1 x2 : Int32) (M0 : va_W) (Pc : Nat → Option Value → va_W → Prop) (fs : List Value) (hx0 : M0[0]? = some (x, .inr (5, fs))) (hcon : ConX l yX5_holds wsX5_holds rmX5_holds G vwCl (tys cI cZ cQ cU cJ) nws strs (.ref x :: [.int x1, .int x2]) M0 Pc) (hint : ∀ r M1, Pc 0 r M1 → ∃ v, r = some (.int v)) (hno : ∀ k r M1, Pc (k + 1) r M1 → k = 0) : ConW l yL_holds wsL_holds rmL_holds G vwCl (tys cI cZ cQ cU cJ) nws strs [.ref x, .int x1, .int x2] M0 (fun _ r M' => (∃ v, Pc 0 (some (.int v)) M' ∧ r = some (.long v.toInt64)) ∨ (∃ k rr, Pc (k + 1) rr M' ∧ r = some (.long (kode (k + 1))))) := by
  refine conW_of (cc := cL_holds) (maxL := 4) (own := RL) hl9 rfl (plainFor_of_name (by decide +kernel)) rfl (Nat.le_of_ble_eq_true rfl) ?_
  intro p e s m args below meth c A CX hN hret htab
  have C := CX.1
  refine VJ.aload_n C 0 dL_holds_0 rfl ?_
  refine VJ.iload_n C 1 dL_holds_1 rfl ?_
  refine VJ.iload_n C 2 dL_holds_2 rfl ?_
  refine VJ.tryV CX [.int x1, .int x2] M0 [] hcon (vj_p0 _) 0 hx0 rfl (cwV 2 C.1.2.2.2.2 gL_holds_X5_holds rfl rfl rfl hyV_X5_holds ⟨Nat.le_of_ble_eq_true rfl, Nat.le_of_ble_eq_true rfl⟩) rfl rfl (Nat.le_of_ble_eq_true rfl) dL_holds_3 ⟨Nat.le_of_ble_eq_true rfl, Nat.le_of_ble_eq_true rfl⟩ ?_ ?_
  · intro r M1 h1
    obtain ⟨v, rfl⟩ := hint r M1 h1
    refine VJ.cM (M' := M1) (List.append_nil M1) ?_
    refine VJ.i2l C dL_holds_6 ?_
    exact VJ.lretN C rmL_holds.cells rmL_holds.slots (fun _ h9 => h9) (Or.inl ⟨v, h1, rfl⟩) hret (Nat.le_of_ble_eq_true rfl) (Nat.le_of_ble_eq_true rfl) dL_holds_7
  · intro k r M1 h1
    obtain rfl := hno k r M1 h1
    · refine ⟨8, fun H locs ls Q ce q h5 h6 h7 h8 => vj_catch (hh := [(0, 7, 8, 27)]) (pre := []) (x := (0, 7, 8, 27)) (suf := []) C.1.2.2.2.1 htab rfl (fun z hz => absurd hz List.not_mem_nil) (by decide) (by decide) (C.1.2.2.2.2 _ (List.mem_of_getElem? (i := 1) rfl)) (C.nest (List.mem_of_getElem? (i := 66) rfl) rfl) h5 h6 h7 h8, fun q => ?_⟩
      refine VJ.cM (M' := M1) (List.append_nil M1) ?_
      refine VJ.astore_n C [(3, .ref q), (0, .ref x), (1, .int x1), (2, .int x2)] dL_holds_8 (Nat.le_of_ble_eq_true rfl) rfl ?_
      refine VJ.ldc2 (v := -9000000000000000001) C (C.1.2.2.2.2 _ (List.mem_of_getElem? (i := 2) rfl)) dL_holds_9 ?_
      exact VJ.lretN C rmL_holds.cells rmL_holds.slots (fun _ h9 => h9) (Or.inr ⟨0, r, h1, rfl⟩) hret (Nat.le_of_ble_eq_true rfl) (Nat.le_of_ble_eq_true rfl) dL_holds_12

abbrev rmL_holdsAnew : Room := { frames := 8, cells := 2, slots := 12, locals := 135 }
theorem hy_L_holdsAnew : yL_holdsAnew.cls ≠ "java/lang/invoke/MethodHandle" ∧ yL_holdsAnew.cls ≠ "java/lang/invoke/VarHandle" ∧ (parseMethodDescriptor yL_holdsAnew.desc).map (fun d => d.parameters.length) = some 3 := by decide +kernel
set_option maxHeartbeats 8000000 in
set_option maxRecDepth 100000 in
theorem c_L_holdsAnew (l : Launch) (hl9 : l.stackTraces = false) (G : va_G) (cI cZ cQ cU cJ : ClassId) (x : Nat) (x1 x2 : Int32) (M0 : va_W) (Pc : Nat → Option Value → va_W → Prop) (fs : List Value) (hx0 : M0[0]? = some (x, .inr (5, fs))) (hcon : ConX l yX5_holdsAnew wsX5_holdsAnew rmX5_holdsAnew G vwCl (tys cI cZ cQ cU cJ) nws strs (.ref x :: [.int x1, .int x2]) M0 Pc) (hint : ∀ r M1, Pc 0 r M1 → ∃ v, r = some (.int v)) (hno : ∀ k r M1, Pc (k + 1) r M1 → k = 0) : ConW l yL_holdsAnew wsL_holdsAnew rmL_holdsAnew G vwCl (tys cI cZ cQ cU cJ) nws strs [.ref x, .int x1, .int x2] M0 (fun _ r M' => (∃ v, Pc 0 (some (.int v)) M' ∧ r = some (.long v.toInt64)) ∨ (∃ k rr, Pc (k + 1) rr M' ∧ r = some (.long (kode (k + 1))))) := by
  refine conW_of (cc := cL_holdsAnew) (maxL := 4) (own := RL) hl9 rfl (plainFor_of_name (by decide +kernel)) rfl (Nat.le_of_ble_eq_true rfl) ?_
  intro p e s m args below meth c A CX hN hret htab
  have C := CX.1
  refine VJ.aload_n C 0 dL_holdsAnew_0 rfl ?_
  refine VJ.iload_n C 1 dL_holdsAnew_1 rfl ?_
  refine VJ.iload_n C 2 dL_holdsAnew_2 rfl ?_
  refine VJ.tryV CX [.int x1, .int x2] M0 [] hcon (vj_p0 _) 0 hx0 rfl (cwV 2 C.1.2.2.2.2 gL_holdsAnew_X5_holdsAnew rfl rfl rfl hyV_X5_holdsAnew ⟨Nat.le_of_ble_eq_true rfl, Nat.le_of_ble_eq_true rfl⟩) rfl rfl (Nat.le_of_ble_eq_true rfl) dL_holdsAnew_3 ⟨Nat.le_of_ble_eq_true rfl, Nat.le_of_ble_eq_true rfl⟩ ?_ ?_
  · intro r M1 h1
    obtain ⟨v, rfl⟩ := hint r M1 h1
    refine VJ.cM (M' := M1) (List.append_nil M1) ?_
    refine VJ.i2l C dL_holdsAnew_6 ?_
    exact VJ.lretN C rmL_holdsAnew.cells rmL_holdsAnew.slots (fun _ h9 => h9) (Or.inl ⟨v, h1, rfl⟩) hret (Nat.le_of_ble_eq_true rfl) (Nat.le_of_ble_eq_true rfl) dL_holdsAnew_7
  · intro k r M1 h1
    obtain rfl := hno k r M1 h1
    · refine ⟨8, fun H locs ls Q ce q h5 h6 h7 h8 => vj_catch (hh := [(0, 7, 8, 27)]) (pre := []) (x := (0, 7, 8, 27)) (suf := []) C.1.2.2.2.1 htab rfl (fun z hz => absurd hz List.not_mem_nil) (by decide) (by decide) (C.1.2.2.2.2 _ (List.mem_of_getElem? (i := 1) rfl)) (C.nest (List.mem_of_getElem? (i := 66) rfl) rfl) h5 h6 h7 h8, fun q => ?_⟩
      refine VJ.cM (M' := M1) (List.append_nil M1) ?_
      refine VJ.astore_n C [(3, .ref q), (0, .ref x), (1, .int x1), (2, .int x2)] dL_holdsAnew_8 (Nat.le_of_ble_eq_true rfl) rfl ?_
      refine VJ.ldc2 (v := -9000000000000000001) C (C.1.2.2.2.2 _ (List.mem_of_getElem? (i := 2) rfl)) dL_holdsAnew_9 ?_
      exact VJ.lretN C rmL_holdsAnew.cells rmL_holdsAnew.slots (fun _ h9 => h9) (Or.inr ⟨0, r, h1, rfl⟩) hret (Nat.le_of_ble_eq_true rfl) (Nat.le_of_ble_eq_true rfl) dL_holdsAnew_12

abbrev rmL_bar : Room := { frames := 8, cells := 1, slots := 6, locals := 134 }
theorem hy_L_bar : yL_bar.cls ≠ "java/lang/invoke/MethodHandle" ∧ yL_bar.cls ≠ "java/lang/invoke/VarHandle" ∧ (parseMethodDescriptor yL_bar.desc).map (fun d => d.parameters.length) = some 3 := by decide +kernel
set_option maxHeartbeats 8000000 in
set_option maxRecDepth 100000 in
theorem c_L_bar (l : Launch) (hl9 : l.stackTraces = false) (G : va_G) (cI cZ cQ cU cJ : ClassId) (x : Nat) (x1 x2 : Int32) (M0 : va_W) (Pc : Nat → Option Value → va_W → Prop) (fs : List Value) (hx0 : M0[0]? = some (x, .inr (5, fs))) (hcon : ConX l yX5_bar wsX5_bar rmX5_bar G vwCl (tys cI cZ cQ cU cJ) nws strs (.ref x :: [.int x1, .int x2]) M0 Pc) (hint : ∀ r M1, Pc 0 r M1 → ∃ v, r = some (.int v)) (hno : ∀ k r M1, Pc (k + 1) r M1 → k = 0) : ConW l yL_bar wsL_bar rmL_bar G vwCl (tys cI cZ cQ cU cJ) nws strs [.ref x, .int x1, .int x2] M0 (fun _ r M' => (∃ v, Pc 0 (some (.int v)) M' ∧ r = some (.long (if v = 0 then 0 else 1))) ∨ (∃ k rr, Pc (k + 1) rr M' ∧ r = some (.long (kode (k + 1))))) := by
  refine conW_of (cc := cL_bar) (maxL := 4) (own := RL) hl9 rfl (plainFor_of_name (by decide +kernel)) rfl (Nat.le_of_ble_eq_true rfl) ?_
  intro p e s m args below meth c A CX hN hret htab
  have C := CX.1
  refine VJ.aload_n C 0 dL_bar_0 rfl ?_
  refine VJ.iload_n C 1 dL_bar_1 rfl ?_
  refine VJ.iload_n C 2 dL_bar_2 rfl ?_
  refine VJ.tryV CX [.int x1, .int x2] M0 [] hcon (vj_p0 _) 0 hx0 rfl (cwV 2 C.1.2.2.2.2 gL_bar_X5_bar rfl rfl rfl hyV_X5_bar ⟨Nat.le_of_ble_eq_true rfl, Nat.le_of_ble_eq_true rfl⟩) rfl rfl (Nat.le_of_ble_eq_true rfl) dL_bar_3 ⟨Nat.le_of_ble_eq_true rfl, Nat.le_of_ble_eq_true rfl⟩ ?_ ?_
  · intro r M1 h1
    obtain ⟨v, rfl⟩ := hint r M1 h1
    refine VJ.cM (M' := M1) (List.append_nil M1) ?_
    by_cases hv : v = 0
    · refine VJ.xif_eq_t C 13 hv dL_bar_6 (by decide) ?_
      refine VJ.lconst (v := 0) C dL_bar_13 (by decide) ?_
      exact VJ.lretN C rmL_bar.cells rmL_bar.slots (fun _ h9 => h9) (Or.inl ⟨v, h1, by rw [if_pos hv]⟩) hret (Nat.le_of_ble_eq_true rfl) (Nat.le_of_ble_eq_true rfl) dL_bar_14
    · refine VJ.xif_eq_f C 13 hv dL_bar_6 (by decide) ?_
      refine VJ.lconst (v := 1) C dL_bar_9 (by decide) ?_
      refine VJ.goto C 14 dL_bar_10 (by decide) ?_
      exact VJ.lretN C rmL_bar.cells rmL_bar.slots (fun _ h9 => h9) (Or.inl ⟨v, h1, by rw [if_neg hv]⟩) hret (Nat.le_of_ble_eq_true rfl) (Nat.le_of_ble_eq_true rfl) dL_bar_14
  · intro k r M1 h1
    obtain rfl := hno k r M1 h1
    · refine ⟨15, fun H locs ls Q ce q h5 h6 h7 h8 => vj_catch (hh := [(0, 14, 15, 27)]) (pre := []) (x := (0, 14, 15, 27)) (suf := []) C.1.2.2.2.1 htab rfl (fun z hz => absurd hz List.not_mem_nil) (by decide) (by decide) (C.1.2.2.2.2 _ (List.mem_of_getElem? (i := 1) rfl)) (C.nest (List.mem_of_getElem? (i := 66) rfl) rfl) h5 h6 h7 h8, fun q => ?_⟩
      refine VJ.cM (M' := M1) (List.append_nil M1) ?_
      refine VJ.astore_n C [(3, .ref q), (0, .ref x), (1, .int x1), (2, .int x2)] dL_bar_15 (Nat.le_of_ble_eq_true rfl) rfl ?_
      refine VJ.ldc2 (v := -9000000000000000001) C (C.1.2.2.2.2 _ (List.mem_of_getElem? (i := 2) rfl)) dL_bar_16 ?_
      exact VJ.lretN C rmL_bar.cells rmL_bar.slots (fun _ h9 => h9) (Or.inr ⟨0, r, h1, rfl⟩) hret (Nat.le_of_ble_eq_true rfl) (Nat.le_of_ble_eq_true rfl) dL_bar_19

abbrev rmL_look : Room := { frames := 8, cells := 2, slots := 12, locals := 134 }
theorem hy_L_look : yL_look.cls ≠ "java/lang/invoke/MethodHandle" ∧ yL_look.cls ≠ "java/lang/invoke/VarHandle" ∧ (parseMethodDescriptor yL_look.desc).map (fun d => d.parameters.length) = some 3 := by decide +kernel
set_option maxHeartbeats 8000000 in
set_option maxRecDepth 100000 in
theorem c_L_look (l : Launch) (hl9 : l.stackTraces = false) (G : va_G) (cI cZ cQ cU cJ : ClassId) (x : Nat) (x1 x2 : Int32) (M0 : va_W) (Pc : Nat → Option Value → va_W → Prop) (fs : List Value) (hx0 : M0[0]? = some (x, .inr (5, fs))) (hcon : ConX l yX5_look wsX5_look rmX5_look G vwCl (tys cI cZ cQ cU cJ) nws strs (.ref x :: [.int x1, .int x2]) M0 Pc) (hint : ∀ r M1, Pc 0 r M1 → ∃ v, r = some (.int v)) (hno : ∀ k r M1, Pc (k + 1) r M1 → k = 0 ∨ k = 1) : ConW l yL_look wsL_look rmL_look G vwCl (tys cI cZ cQ cU cJ) nws strs [.ref x, .int x1, .int x2] M0 (fun _ r M' => (∃ v, Pc 0 (some (.int v)) M' ∧ r = some (.long v.toInt64)) ∨ (∃ k rr, Pc (k + 1) rr M' ∧ r = some (.long (kode (k + 1))))) := by
  refine conW_of (cc := cL_look) (maxL := 4) (own := RL) hl9 rfl (plainFor_of_name (by decide +kernel)) rfl (Nat.le_of_ble_eq_true rfl) ?_
  intro p e s m args below meth c A CX hN hret htab
  have C := CX.1
  refine VJ.aload_n C 0 dL_look_0 rfl ?_
  refine VJ.iload_n C 1 dL_look_1 rfl ?_
  refine VJ.iload_n C 2 dL_look_2 rfl ?_
  refine VJ.tryV CX [.int x1, .int x2] M0 [] hcon (vj_p0 _) 0 hx0 rfl (cwV 2 C.1.2.2.2.2 gL_look_X5_look rfl rfl rfl hyV_X5_look ⟨Nat.le_of_ble_eq_true rfl, Nat.le_of_ble_eq_true rfl⟩) rfl rfl (Nat.le_of_ble_eq_true rfl) dL_look_3 ⟨Nat.le_of_ble_eq_true rfl, Nat.le_of_ble_eq_true rfl⟩ ?_ ?_
  · intro r M1 h1
    obtain ⟨v, rfl⟩ := hint r M1 h1
    refine VJ.cM (M' := M1) (List.append_nil M1) ?_
    refine VJ.i2l C dL_look_6 ?_
    exact VJ.lretN C rmL_look.cells rmL_look.slots (fun _ h9 => h9) (Or.inl ⟨v, h1, rfl⟩) hret (Nat.le_of_ble_eq_true rfl) (Nat.le_of_ble_eq_true rfl) dL_look_7
  · intro k r M1 h1
    rcases hno k r M1 h1 with rfl | rfl
    · refine ⟨8, fun H locs ls Q ce q h5 h6 h7 h8 => vj_catch (hh := [(0, 7, 8, 27), (0, 7, 13, 15)]) (pre := []) (x := (0, 7, 8, 27)) (suf := [(0, 7, 13, 15)]) C.1.2.2.2.1 htab rfl (fun z hz => absurd hz List.not_mem_nil) (by decide) (by decide) (C.1.2.2.2.2 _ (List.mem_of_getElem? (i := 1) rfl)) (C.nest (List.mem_of_getElem? (i := 66) rfl) rfl) h5 h6 h7 h8, fun q => ?_⟩
      refine VJ.cM (M' := M1) (List.append_nil M1) ?_
      refine VJ.astore_n C [(3, .ref q), (0, .ref x), (1, .int x1), (2, .int x2)] dL_look_8 (Nat.le_of_ble_eq_true rfl) rfl ?_
      refine VJ.ldc2 (v := -9000000000000000001) C (C.1.2.2.2.2 _ (List.mem_of_getElem? (i := 3) rfl)) dL_look_9 ?_
      exact VJ.lretN C rmL_look.cells rmL_look.slots (fun _ h9 => h9) (Or.inr ⟨0, r, h1, rfl⟩) hret (Nat.le_of_ble_eq_true rfl) (Nat.le_of_ble_eq_true rfl) dL_look_12
    · refine ⟨13, fun H locs ls Q ce q h5 h6 h7 h8 => vj_catch (hh := [(0, 7, 8, 27), (0, 7, 13, 15)]) (pre := [(0, 7, 8, 27)]) (x := (0, 7, 13, 15)) (suf := []) C.1.2.2.2.1 htab rfl (vj_all ⟨by decide, "java/lang/IndexOutOfBoundsException", (C.1.2.2.2.2 _ (List.mem_of_getElem? (i := 1) rfl)), hN.1⟩ (fun z hz => absurd hz List.not_mem_nil)) (by decide) (by decide) (C.1.2.2.2.2 _ (List.mem_of_getElem? (i := 2) rfl)) (C.nest (List.mem_of_getElem? (i := 67) rfl) rfl) h5 h6 h7 h8, fun q => ?_⟩
      refine VJ.cM (M' := M1) (List.append_nil M1) ?_
      refine VJ.astore_n C [(3, .ref q), (0, .ref x), (1, .int x1), (2, .int x2)] dL_look_13 (Nat.le_of_ble_eq_true rfl) rfl ?_
      refine VJ.ldc2 (v := -9000000000000000002) C (C.1.2.2.2.2 _ (List.mem_of_getElem? (i := 4) rfl)) dL_look_14 ?_
      exact VJ.lretN C rmL_look.cells rmL_look.slots (fun _ h9 => h9) (Or.inr ⟨1, r, h1, rfl⟩) hret (Nat.le_of_ble_eq_true rfl) (Nat.le_of_ble_eq_true rfl) dL_look_17

abbrev rmL_looks : Room := { frames := 8, cells := 1, slots := 6, locals := 132 }
theorem hy_L_looks : yL_looks.cls ≠ "java/lang/invoke/MethodHandle" ∧ yL_looks.cls ≠ "java/lang/invoke/VarHandle" ∧ (parseMethodDescriptor yL_looks.desc).map (fun d => d.parameters.length) = some 2 := by decide +kernel
set_option maxHeartbeats 8000000 in
set_option maxRecDepth 100000 in
theorem c_L_looks (l : Launch) (hl9 : l.stackTraces = false) (G : va_G) (cI cZ cQ cU cJ : ClassId) (x : Nat) (x1 : Int32) (M0 : va_W) (Pc : Nat → Option Value → va_W → Prop) (fs : List Value) (hx0 : M0[0]? = some (x, .inr (5, fs))) (hcon : ConX l yX5_looks wsX5_looks rmX5_looks G vwCl (tys cI cZ cQ cU cJ) nws strs (.ref x :: [.int x1]) M0 Pc) (hint : ∀ r M1, Pc 0 r M1 → ∃ v, r = some (.int v)) (hno : ∀ k r M1, Pc (k + 1) r M1 → k = 0) : ConW l yL_looks wsL_looks rmL_looks G vwCl (tys cI cZ cQ cU cJ) nws strs [.ref x, .int x1] M0 (fun _ r M' => (∃ v, Pc 0 (some (.int v)) M' ∧ r = some (.long v.toInt64)) ∨ (∃ k rr, Pc (k + 1) rr M' ∧ r = some (.long (kode (k + 1))))) := by
  refine conW_of (cc := cL_looks) (maxL := 3) (own := RL) hl9 rfl (plainFor_of_name (by decide +kernel)) rfl (Nat.le_of_ble_eq_true rfl) ?_
  intro p e s m args below meth c A CX hN hret htab
  have C := CX.1
  refine VJ.aload_n C 0 dL_looks_0 rfl ?_
  refine VJ.iload_n C 1 dL_looks_1 rfl ?_
  refine VJ.tryV CX [.int x1] M0 [] hcon (vj_p0 _) 0 hx0 rfl (cwV 1 C.1.2.2.2.2 gL_looks_X5_looks rfl rfl rfl hyV_X5_looks ⟨Nat.le_of_ble_eq_true rfl, Nat.le_of_ble_eq_true rfl⟩) rfl rfl (Nat.le_of_ble_eq_true rfl) dL_looks_2 ⟨Nat.le_of_ble_eq_true rfl, Nat.le_of_ble_eq_true rfl⟩ ?_ ?_
  · intro r M1 h1
    obtain ⟨v, rfl⟩ := hint r M1 h1
    refine VJ.cM (M' := M1) (List.append_nil M1) ?_
    refine VJ.i2l C dL_looks_5 ?_
    exact VJ.lretN C rmL_looks.cells rmL_looks.slots (fun _ h9 => h9) (Or.inl ⟨v, h1, rfl⟩) hret (Nat.le_of_ble_eq_true rfl) (Nat.le_of_ble_eq_true rfl) dL_looks_6
  · intro k r M1 h1
    obtain rfl := hno k r M1 h1
    · refine ⟨7, fun H locs ls Q ce q h5 h6 h7 h8 => vj_catch (hh := [(0, 6, 7, 27)]) (pre := []) (x := (0, 6, 7, 27)) (suf := []) C.1.2.2.2.1 htab rfl (fun z hz => absurd hz List.not_mem_nil) (by decide) (by decide) (C.1.2.2.2.2 _ (List.mem_of_getElem? (i := 1) rfl)) (C.nest (List.mem_of_getElem? (i := 66) rfl) rfl) h5 h6 h7 h8, fun q => ?_⟩
      refine VJ.cM (M' := M1) (List.append_nil M1) ?_
      refine VJ.astore_n C [(2, .ref q), (0, .ref x), (1, .int x1)] dL_looks_7 (Nat.le_of_ble_eq_true rfl) rfl ?_
      refine VJ.ldc2 (v := -9000000000000000001) C (C.1.2.2.2.2 _ (List.mem_of_getElem? (i := 2) rfl)) dL_looks_8 ?_
      exact VJ.lretN C rmL_looks.cells rmL_looks.slots (fun _ h9 => h9) (Or.inr ⟨0, r, h1, rfl⟩) hret (Nat.le_of_ble_eq_true rfl) (Nat.le_of_ble_eq_true rfl) dL_looks_11
