/-! ===== draw ===== -/
section LDr
theorem and_nn (x : Int32) : ((x &&& 2147483647).toInt).toNat < 2147483648 ∧ x &&& 2147483647 = nI (((x &&& 2147483647).toInt).toNat) := by
  have c : (x &&& 2147483647).toBitVec.msb = false := by
    rw [Int32.toBitVec_and, BitVec.msb_and, show (2147483647 : Int32).toBitVec.msb = false from by decide, Bool.and_false]
  rw [BitVec.msb_eq_toInt, Int32.toInt_toBitVec] at c
  have c2 := of_decide_eq_false c
  have c3 := Int32.toInt_lt (x &&& 2147483647)
  generalize (x &&& 2147483647) = z at c2 c3 ⊢
  refine ⟨by omega, ?_⟩
  rw [← Int32.toInt_inj, n_ti (by omega)]
  omega
def drw (L : Nat) (xs : Nat → Int32) (i : Nat) : Nat := (((if i < L then xs i else 15595951 * nI i + 11863) &&& 2147483647).toInt).toNat
theorem drw_lt (L : Nat) (xs : Nat → Int32) (i : Nat) : drw L xs i < 2147483648 := (and_nn _).1
theorem drw_eq (L : Nat) (xs : Nat → Int32) (i : Nat) : (if i < L then xs i else 15595951 * nI i + 11863) &&& 2147483647 = nI (drw L xs i) := (and_nn _).2
def DPre (G : va_G) (cl : List vw_C) (ty : List (ClassId × FieldType)) (nw : List Cond) (b L : Nat) (xs : Nat → Int32) (i : Int32) (sz : Nat) : Array Value → State → Prop := fun a U => CPre G cl ty nw [.ref b, .int i] [] sz a U ∧ va_X b L xs U U.heap ∧ b < sz
theorem DPre.blind {G : va_G} {cl : List vw_C} {ty : List (ClassId × FieldType)} {nw : List Cond} {b L : Nat} {xs : Nat → Int32} {i : Int32} {sz : Nat} : FrameBlind (DPre G cl ty nw b L xs i sz) := fun a U g mk q => ⟨CPre.blind a U g mk q.1, q.2.1.moved (u := U) (U := U.calling g mk a) (Vm.Alike.refl U.vm), q.2.2⟩
abbrev rmL_draw : Room := { frames := 0, cells := 0, slots := 0, locals := 0 }
theorem hy_L_draw : yL_draw.cls ≠ "java/lang/invoke/MethodHandle" ∧ yL_draw.cls ≠ "java/lang/invoke/VarHandle" ∧ (parseMethodDescriptor yL_draw.desc).map (fun d => d.parameters.length) = some 2 := by decide +kernel
set_option maxHeartbeats 4000000 in
theorem c_L_draw (l : Launch) (G : va_G) (cI cZ cQ cU cJ : ClassId) {b L : Nat} {xs : Nat → Int32} {i : Nat} (hL : L < 2147483648) (hi : i < 2147483648) : ∀ sz : Nat, Met l yL_draw wsL_draw rmL_draw (DPre G vwCl (tys cI cZ cQ cU cJ) nws b L xs (nI i) sz) (CPostX G vwCl (va_A [] sz) (fun k r M' => k = 0 ∧ r = some (.int (nI (drw L xs i))) ∧ M' = [])) rmL_draw.cells rmL_draw.slots (va_A [] sz) := by
  intro sz
  refine Met.ofWF (cc := cL_draw) (maxL := 2) (ret := some .int) (plainFor_of_name (by decide +kernel)) rfl ?_
  intro p e s m args below meth c s₁ B hml hv
  obtain ⟨⟨rfl, hsz, hP, hK, hD0⟩, hX, hb⟩ := hv
  subst hsz
  have hD := hD0.self (sz := s.heap.size)
  rw [lg_entry_eq]
  have hret := B.returns
  have C : Cx p s m ([Value.ref b, .int (nI i)] : List Value).toArray meth c cL_draw 2 wsL_draw RL G vwCl (tys cI cZ cQ cU cJ) nws (va_A [] s.heap.size) := ⟨⟨B.exec, B.bytes, hml, findClass_of_methodNamed B.named, atoms_spec (ws := wsL_draw) B.pre⟩, hK, fun q h => Or.inr h, B.notSynchronized⟩
  have hbA : ¬ va_A [] s.heap.size b := by
    rintro (⟨k, e9, h⟩ | h)
    · simp at h
    · omega
  have fin : ∀ x : Int32, x = (if i < L then xs i else 15595951 * nI i + 11863) → VJ p l e rmL_draw s m ([Value.ref b, .int (nI i)] : List Value).toArray below meth c 2 G vwCl (va_A [] s.heap.size) (fun (_ : Unit) t => QN below G vwCl (va_A [] s.heap.size) ([Value.ref b, .int (nI i)] : List Value).toArray s rmL_draw.cells rmL_draw.slots (fun k r M' => k = 0 ∧ r = some (.int (nI (drw L xs i))) ∧ M' = []) t) 0 0 (some ()) [] 20 [(0, .ref b), (1, .int (nI i))] [.int x] := by
    intro x hx
    subst hx
    refine VJ.ldc (v := 2147483647) C (C.1.2.2.2.2 _ (List.mem_of_getElem? (i := 2) rfl)) dL_draw_20 ?_
    refine VJ.iand C dL_draw_22 ?_
    refine VJ.iv (drw_eq L xs i) ?_
    exact VJ.iretN C rmL_draw.cells rmL_draw.slots (fun _ h9 => h9) ⟨rfl, rfl, rfl⟩ hret (Nat.le_refl _) (Nat.le_refl _) dL_draw_23
  have main : VJ p l e rmL_draw s m ([Value.ref b, .int (nI i)] : List Value).toArray below meth c 2 G vwCl (va_A [] s.heap.size) (fun (_ : Unit) t => QN below G vwCl (va_A [] s.heap.size) ([Value.ref b, .int (nI i)] : List Value).toArray s rmL_draw.cells rmL_draw.slots (fun k r M' => k = 0 ∧ r = some (.int (nI (drw L xs i))) ∧ M' = []) t) 0 0 (some ()) [] 0 [(0, .ref b), (1, .int (nI i))] [] := by
    refine VJ.iload_n C 1 dL_draw_0 rfl ?_
    refine VJ.aload_n C 0 dL_draw_1 rfl ?_
    refine VJ.slen C hX hb hbA dL_draw_2 ?_
    by_cases h : i < L
    · refine VJ.xicmp_ge_f C 12 (fun z => by have := (n_le (a := L) hL hi).mp z; omega) dL_draw_3 (by decide) ?_
      refine VJ.aload_n C 0 dL_draw_6 rfl ?_
      refine VJ.iload_n C 1 dL_draw_7 rfl ?_
      refine VJ.sread C hX hb hbA ⟨nI_in h hL, rfl⟩ dL_draw_8 ?_
      refine VJ.goto C 20 dL_draw_9 (by decide) ?_
      exact fin _ (by rw [if_pos h, nI_tn hi])
    · refine VJ.xicmp_ge_t C 12 ((n_le (a := L) hL hi).mpr (by omega)) dL_draw_3 (by decide) ?_
      refine VJ.ldc (v := 15595951) C (C.1.2.2.2.2 _ (List.mem_of_getElem? (i := 1) rfl)) dL_draw_12 ?_
      refine VJ.iload_n C 1 dL_draw_14 rfl ?_
      refine VJ.imul C dL_draw_15 ?_
      refine VJ.sipush (v := 11863) C dL_draw_16 (by decide) ?_
      refine VJ.iadd C dL_draw_19 ?_
      exact fin _ (by rw [if_neg h])
  exact main () rfl s.heap [] _ hP hD va_S.rf (lv_entry [.ref b, .int (nI i)] (Nat.le_of_ble_eq_true rfl))
theorem VJ.a_draw {p : Program} {l : Launch} {e : Env} {Rm : Room} {s : State} {m : MethodId} {args : Array Value} {below : List Frame} {meth : Method} {c : Code} {cc : ByteArray} {nL : Nat} {Ts : List Cond} {own : String} {G : va_G} {cI cZ cQ cU cJ : ClassId} {A : Nat → Prop} {O : Type} {Qf : O → State → Prop} {cells slots : Nat} {f : Option O} {M : va_W} {pc : Nat} {lv : List (Nat × Value)} {st : List Value} {b L : Nat} {xs : Nat → Int32} (C : Cx p s m args meth c cc nL Ts own G vwCl (tys cI cZ cQ cU cJ) nws A) (hX : va_X b L xs s s.heap) (hbl : b < s.heap.size) (hbA : ¬ A b) (hL : L < 2147483648) {i : Nat} (hi : i < 2147483648) {index : Nat} {bytes : ByteArray} {maxL : Nat} {ret : Option FieldType} (cw : CallB Rm s args own index yL_draw bytes maxL ret wsL_draw rmL_draw rmL_draw.cells rmL_draw.slots 2 ∧ (Cond.static yL_draw).before args s = true) (hroom : (st.map fun v => v.category).sum ≤ 8) (hdg : decode cc pc = .ok (.invokestatic index, 3)) (hR : cells ≤ Rm.cells ∧ slots ≤ Rm.slots)
    (k : VJ p l e Rm s m args below meth c nL G vwCl A Qf cells slots f M (pc + 3) lv (.int (nI (drw L xs i)) :: st)) : VJ p l e Rm s m args below meth c nL G vwCl A Qf cells slots f M pc lv (.int (nI i) :: .ref b :: st) := by
  intro out ho H locs ls hP hD hS hl
  have hM : M.Perm ([] ++ M) := vj_pn M
  refine vjp_after C.2.2.1 hP hD hS hM (va_runS (As := [.ref b, .int (nI i)]) (rest := st) C.1 (c_L_draw l G cI cZ cQ cU cJ hL hi H.size) cw ⟨DPre.blind, fun U hU hW => ⟨vj_pre C.2.1 hM hP hD U hU hW, by rw [hU]; exact (hX.kept (hS.2.1 b hbl hbA)).moved hW.alike, Nat.lt_of_lt_of_le hbl hS.1⟩⟩ rfl rfl hl.1 rfl (lv_room hroom) hdg hR) (fun r M1 H1 locs1 hp hP1 hD1 hS1 => ?_)
  obtain ⟨-, rfl, rfl⟩ := hp
  exact k out ho H1 locs1 ls hP1 hD1 hS1 hl
end LDr
