/-! ===== messages are taken, their row grows ===== -/
section KX5
variable {p : Program} {l : Launch} {e : Env} {R : Room} {s : State} {m : MethodId} {args : Array Value} {below : List Frame} {meth : Method} {c : Code} {cc : ByteArray} {nL : Nat} {Ts : List Cond} {own : String} {G : va_G} {cl : List vw_C} {ty : List (ClassId × FieldType)} {nw : List Cond} {ss : List (String × Nat × String)} {A : Nat → Prop} {O : Type} {Qf : O → State → Prop} {cells slots : Nat} {f fA fB : Option O} {M : va_W} {pc : Nat} {lv : List (Nat × Value)} {st : List Value}
theorem VJ.drop {M' R' : va_W} (h : M.Perm (M' ++ R')) (k : VJ p l e R s m args below meth c nL G cl A Qf cells slots f M' pc lv st) : VJ p l e R s m args below meth c nL G cl A Qf cells slots f M pc lv st := by
  intro out ho H locs ls hP hD hS hl
  have hP2 := vj_Pp h hP
  have hD2 := vj_Dp h hD
  have hx : ∀ (k : Nat) (q : Nat × va_E), M'[k]? = some q → (M' ++ R')[k]? = some q := fun k q hq => by
    rw [List.getElem?_append_left (List.getElem?_eq_some_iff.mp hq).1]; exact hq
  exact k out ho H locs ls (fun k q hq => hP2 k q (hx k q hq)) ⟨fun i j p q hi hj => hD2.1 i j p q (hx i p hi) (hx j q hj), fun k q hq => hD2.2 k q (hx k q hq)⟩ hS hl
theorem VJ.callPF {y : MethodName} {bytes : ByteArray} {maxL n index : Nat} {ret : Option FieldType} {ws : List Cond} {rm : Room} {st0 : List Value} {P : Nat → Option Value → va_W → Prop} (C : Cx p s m args meth c cc nL Ts own G cl ty nw A) (As : List Value) (wc wr : va_W) (hcon : ConP l y ws rm G cl ty nw As wc P) (hM : M.Perm (wc ++ wr))
    (cw : CallB R s args own index y bytes maxL ret ws rm rm.cells rm.slots n ∧ (Cond.static y).before args s = true) (hn : As.length = n) (hst : st0 = As.reverse ++ st) (hroom : (st.map fun v => v.category).sum ≤ 8) (hdg : decode cc pc = .ok (.invokestatic index, 3)) (hR : cells + rm.cells ≤ R.cells ∧ slots + rm.slots ≤ R.slots)
    (k : ∀ r M1, P 0 r M1 → VJ p l e R s m args below meth c nL G cl A Qf (cells + rm.cells) (slots + rm.slots) f (M1 ++ wr) (pc + 3) lv (r.toList ++ st)) : VJ p l e R s m args below meth c nL G cl A Qf cells slots f M pc lv st0 := by
  intro out ho H locs ls hP hD hS hl
  subst hst
  exact vjp_after C.2.2.1 hP hD hS hM (va_runS (As := As) (rest := st) C.1 (hcon H.size) cw ⟨CPre.blind, vj_pre C.2.1 hM hP hD⟩ rfl hn hl.1 rfl (lv_room hroom) hdg hR)
    (fun r M1 H1 locs1 hp hP1 hD1 hS1 => k r M1 hp out ho H1 locs1 ls hP1 hD1 hS1 hl)
theorem VJ.callPV {y : MethodName} {bytes : ByteArray} {maxL n index : Nat} {ret : Option FieldType} {ws : List Cond} {rm : Room} {b : Nat} {st0 : List Value} {P : Nat → Option Value → va_W → Prop} (C : Cx p s m args meth c cc nL Ts own G cl ty nw A) (As : List Value) (wc wr : va_W) (hcon : ConP l y ws rm G cl ty nw (.ref b :: As) wc P) (hM : M.Perm (wc ++ wr)) (q0 : Nat) {ci : Nat} {fs : List Value} {q : vw_C} (he : wc[q0]? = some (b, .inr (ci, fs))) (hc : cl[ci]? = some q)
    (cw : CallW R s args own q.1 index y bytes maxL ret ws rm rm.cells rm.slots n) (hn : As.length = n) (hst : st0 = As.reverse ++ .ref b :: st) (hroom : (st.map fun v => v.category).sum ≤ 8) (hdg : decode cc pc = .ok (.invokevirtual index, 3)) (hR : cells + rm.cells ≤ R.cells ∧ slots + rm.slots ≤ R.slots)
    (k : ∀ r M1, P 0 r M1 → VJ p l e R s m args below meth c nL G cl A Qf (cells + rm.cells) (slots + rm.slots) f (M1 ++ wr) (pc + 3) lv (r.toList ++ st)) : VJ p l e R s m args below meth c nL G cl A Qf cells slots f M pc lv st0 := by
  intro out ho H locs ls hP hD hS hl
  subst hst
  exact vjp_after C.2.2.1 hP hD hS hM (va_runV (As := As) (rest := st) C.1 (hcon H.size) cw ⟨CPre.blind, vj_recv C.2.1 hM hP hc he, vj_pre C.2.1 hM hP hD⟩ rfl hn hl.1 rfl (lv_room hroom) hdg hR)
    (fun r M1 H1 locs1 hp hP1 hD1 hS1 => k r M1 hp out ho H1 locs1 ls hP1 hD1 hS1 hl)
theorem VJ.copyi {index : Nat} {a0 a : Nat} {c0 c1 : ClassId} {n0 n1 : Nat} {g0 g1 : Nat → Int32} {n : Int32} (C : Cx p s m args meth c cc nL Ts own G cl ty nw A) (hlink : (Cond.methodLink own index arraycopyName).before args s = true) (hnat : (Cond.native arraycopyName).before args s = true) (hstat : (Cond.static arraycopyName).before args s = true) (hini : (Cond.initialized "java/lang/System").before args s = true)
    (q0 q1 t0 t1 : Nat) (ha0 : M[q0]? = some (a0, .inl (c0, n0, .inl g0))) (ha1 : M[q1]? = some (a, .inl (c1, n1, .inl g1))) (ht0 : ty[t0]? = some (c0, .int)) (ht1 : ty[t1]? = some (c1, .int)) (h3 : ¬ n < 0) (h4 : n.toNatClampNeg ≤ n0) (h5 : n.toNatClampNeg ≤ n1)
    (hframes : 1 ≤ R.frames) (hlocals : (st.map fun v => v.category).sum + 18 ≤ R.locals) (hdg : decode cc pc = .ok (.invokestatic index, 3)) (M' : va_W) (hM : M.set q1 (a, .inl (c1, n1, .inl (va_cpy g0 g1 0 0 n.toNatClampNeg))) = M')
    (k : VJ p l e R s m args below meth c nL G cl A Qf cells slots f M' (pc + 3) lv st) : VJ p l e R s m args below meth c nL G cl A Qf cells slots f M pc lv (.int n :: .int 0 :: .ref a :: .int 0 :: .ref a0 :: st) := by
  intro out ho H locs ls hP hD hS hl
  subst hM
  exact va_copyi C.1.1 C.1.2.1 (hl.1.trans C.1.2.2.1.symm).symm C.1.2.2.2.1 hlink hnat hstat hini C.2.1.1 hP hD hS q0 q1 t0 t1 ha0 ha1 ht0 ht1 rfl (by decide) (by decide) h3 (by simpa using h4) (by simpa using h5) (fun i hi => rfl) hframes hlocals hdg (fun H1 locs1 hP1 hD1 hS1 => k out ho H1 locs1 ls hP1 hD1 hS1 hl)
theorem VJ.aretA (C : Cx p s m args meth c cc nL Ts own G cl ty nw A) {P : Nat → Option Value → va_W → Prop} {o : O} {a : Nat} {rt : FieldType} (mc ms : Nat) (hQ : ∀ t, QN below G cl A args s mc ms P t → Qf o t) (hP0 : P 0 (some (.ref a)) M) (hr : meth.sig.returnType = some (.array rt)) (hc : cells ≤ mc) (hs : slots ≤ ms) (hdg : decode cc pc = .ok (.areturn, 1)) : VJ p l e R s m args below meth c nL G cl A Qf cells slots (some o) M pc lv [.ref a] := by
  intro out ho H locs ls hP hD hS hl
  cases ho
  refine vj_mono hQ (W.widen hc hs ?_)
  exact W.aret C.1.1 C.1.2.1 hr (Or.inr ⟨rt, rfl⟩) (Or.inr ⟨a, rfl⟩) (fun t ht hW9 => ⟨⟨_, M, hP0, rfl, by rw [ht]; exact hP, hD⟩, hS.F ht⟩) hS.2.2 hdg C.2.2.2
end KX5
theorem nI_cl {n : Nat} (h : n < 2147483648) : (nI n).toNatClampNeg = n ∧ ¬ nI n < 0 := by
  have e : (nI n).toInt = (n : Int) := by
    unfold nI
    rw [Int32.toInt_ofNat_of_lt (by simpa using h)]
  refine ⟨?_, ?_⟩
  · show (nI n).toInt.toNat = n
    omega
  · rw [Int32.lt_iff_toInt_lt, e]
    simp
theorem nI_ne {n n' : Nat} (h : n < n') (h' : n' < 2147483648) : ¬ nI n' = nI n := fun e => by
  have h1 := (nI_cl h').1
  have h2 := (nI_cl (Nat.lt_trans h h')).1
  rw [e] at h1
  omega
theorem nI_lt9 {n n' : Nat} (h : n < n') (h' : n' < 2147483648) : nI n < nI n' := by
  unfold nI
  rw [Int32.lt_iff_toInt_lt, Int32.toInt_ofNat_of_lt (by omega), Int32.toInt_ofNat_of_lt (by omega)]
  omega
theorem hy_J7_copyOf : yJ7_copyOf_59c91.cls ≠ "java/lang/invoke/MethodHandle" ∧ yJ7_copyOf_59c91.cls ≠ "java/lang/invoke/VarHandle" ∧ (parseMethodDescriptor yJ7_copyOf_59c91.desc).map (fun d => d.parameters.length) = some 2 := by decide +kernel
abbrev rmJ7_copyOf : Room := { frames := 1, cells := 1, slots := 12288, locals := 40 }
set_option maxHeartbeats 8000000 in
set_option maxRecDepth 100000 in
theorem c_J7_copyOf (l : Launch) (G : va_G) (cI cZ cQ cU cJ : ClassId) (a n n' : Nat) (g : OI) (h1 : n < n') (h2 : n' ≤ 12288) : ConP l yJ7_copyOf_59c91 wsJ7_copyOf_59c91 rmJ7_copyOf G vwCl (tys cI cZ cQ cU cJ) nws [.ref a, .int (nI n')] (pf [[(a, .inl (cI, n, .inl g))]]) (fun _ r M' => ∃ q, r = some (.ref q) ∧ M' = pf [[(a, .inl (cI, n, .inl g))], [(q, .inl (cI, n', .inl (va_cpy g (fun _ => 0) 0 0 n)))]]) := by
  have b1 := nI_cl (n := n) (by omega)
  have b2 := nI_cl (n := n') (by omega)
  refine conP_of (f := some ()) (maxL := 3) (own := RJ7) rfl (plainFor_of_name (by decide +kernel)) rfl (Nat.le_of_ble_eq_true rfl) ?_ rfl
  intro p e s m args below meth c A C hret hname
  refine VJ.iload_n C 1 dJ7_copyOf_59c91_0 rfl ?_
  refine VJ.aload_n C 0 dJ7_copyOf_59c91_1 rfl ?_
  refine VJ.alen C 0 0 (v := nI n) rfl rfl rfl dJ7_copyOf_59c91_2 ?_
  refine VJ.eqf (f' := if nI n' = nI n then none else some ()) (by rw [if_neg (nI_ne h1 (by omega))]) ?_
  refine VJ.icmp_ne C 14 dJ7_copyOf_59c91_3 (by decide) (fun _ => ?_) (fun _ => VJ.fnone rfl)
  refine VJ.iload_n C 1 dJ7_copyOf_59c91_14 rfl ?_
  refine VJ.newarr C 0 (n', .inl (fun _ => 0)) (fun q1 => pf [[(a, .inl (cI, n, .inl g))], [(q1, .inl (cI, n', .inl (fun _ => 0)))]]) (fun _ => rfl) rfl rfl (fun _ _ h9 => h9) (C.1.2.2.2.2 _ (List.mem_of_getElem? (i := 7) rfl)) (fun _ => rfl) b2.2 b2.1 (by simp [componentBytes]; omega) (Nat.le_of_ble_eq_true rfl) (by simpa using h2) dJ7_copyOf_59c91_15 (fun q1 => ?_)
  refine VJ.astore_n C [(2, .ref q1), (0, .ref a), (1, .int (nI n'))] dJ7_copyOf_59c91_17 (Nat.le_of_ble_eq_true rfl) rfl ?_
  refine VJ.aload_n C 1 dJ7_copyOf_59c91_18 rfl ?_
  refine VJ.iconst (v := 0) C dJ7_copyOf_59c91_19 (by decide) ?_
  refine VJ.aload_n C 0 dJ7_copyOf_59c91_20 rfl ?_
  refine VJ.iconst (v := 0) C dJ7_copyOf_59c91_21 (by decide) ?_
  refine VJ.aload_n C 1 dJ7_copyOf_59c91_22 rfl ?_
  refine VJ.alen C 0 0 (v := nI n) rfl rfl rfl dJ7_copyOf_59c91_23 ?_
  refine VJ.iload_n C 2 dJ7_copyOf_59c91_24 rfl ?_
  refine VJ.mmin C (C.1.2.2.2.2 _ (List.mem_of_getElem? (i := 8) rfl)) (C.1.2.2.2.2 _ (List.mem_of_getElem? (i := 9) rfl)) (C.1.2.2.2.2 _ (List.mem_of_getElem? (i := 10) rfl)) (C.1.2.2.2.2 _ (List.mem_of_getElem? (i := 11) rfl)) (Nat.le_of_ble_eq_true rfl) (Nat.le_of_ble_eq_true rfl) (Nat.le_of_ble_eq_true rfl) (by show 0 + n' ≤ 12288; omega) dJ7_copyOf_59c91_25 ?_
  rw [if_neg (fun h => by have := Int32.lt_asymm (nI_lt9 h1 (by omega)) h; exact this)]
  refine VJ.copyi C (C.1.2.2.2.2 _ (List.mem_of_getElem? (i := 12) rfl)) (C.1.2.2.2.2 _ (List.mem_of_getElem? (i := 13) rfl)) (C.1.2.2.2.2 _ (List.mem_of_getElem? (i := 14) rfl)) (C.1.2.2.2.2 _ (List.mem_of_getElem? (i := 15) rfl)) 0 1 0 0 rfl rfl rfl rfl b1.2 (by rw [b1.1]; exact Nat.le_refl _) (by rw [b1.1]; omega) (Nat.le_of_ble_eq_true rfl) (Nat.le_of_ble_eq_true rfl) dJ7_copyOf_59c91_28 (pf [[(a, .inl (cI, n, .inl g))], [(q1, .inl (cI, n', .inl (va_cpy g (fun _ => 0) 0 0 n)))]]) (by rw [b1.1]; rfl) ?_
  refine VJ.aload_n C 0 dJ7_copyOf_59c91_31 rfl ?_
  exact VJ.aretA C rmJ7_copyOf.cells rmJ7_copyOf.slots (fun _ h9 => h9) ⟨q1, rfl, rfl⟩ hret (Nat.le_of_ble_eq_true rfl) (by show 0 + n' ≤ 12288; omega) dJ7_copyOf_59c91_32

def gn (n : Nat) : Nat := if 2 * n < 12288 then 2 * n else 12288
theorem gn_ok {n : Nat} (h0 : 0 < n) (h : n < 12288) : n < gn n ∧ gn n ≤ 12288 := by
  unfold gn
  split <;> omega
theorem gn_min {n : Nat} (h : n < 12288) : (if (12288 : Int32) < 2 * nI n then (12288 : Int32) else 2 * nI n) = nI (gn n) := by
  have e : (2 : Int32) * nI n = nI (2 * n) := by
    unfold nI
    rw [Int32.ofNat_mul]
    rfl
  have e2 : (12288 : Int32) = nI 12288 := rfl
  rw [e, e2]
  unfold gn
  split
  · rename_i h1
    by_cases h2 : 2 * n < 12288
    · exact absurd h1 (Int32.lt_asymm (nI_lt9 h2 (by omega)))
    · rw [if_neg h2]
  · rename_i h1
    by_cases h2 : 2 * n < 12288
    · rw [if_pos h2]
    · rw [if_neg h2]
      by_cases h3 : 2 * n = 12288
      · rw [h3]
      · exact absurd (nI_lt9 (n := 12288) (n' := 2 * n) (by omega) (by omega)) h1
theorem dp_2_3_1_0 : ([2, 3, 1, 0] : List Nat).Perm (List.range 4) := by decide +kernel
theorem dq_2_0_1 : ([2, 0, 1] : List Nat).Perm (List.range 3) := by decide +kernel
theorem in_X4_grow_X4 : ∀ w ∈ u_ws RX4 TX4 5, w ∈ wsX4_grow := in_of 22 rfl
theorem hy_X4_grow : yX4_grow.cls ≠ "java/lang/invoke/MethodHandle" ∧ yX4_grow.cls ≠ "java/lang/invoke/VarHandle" ∧ (parseMethodDescriptor yX4_grow.desc).map (fun d => d.parameters.length) = some 0 := by decide +kernel
theorem hyV_X4_grow : yX4_grow.cls = RX4 ∧ yX4_grow.cls ≠ "java/lang/invoke/MethodHandle" ∧ yX4_grow.cls ≠ "java/lang/invoke/VarHandle" ∧ (parseMethodDescriptor yX4_grow.desc).map (fun d => d.parameters.length) = some 0 := ⟨rfl, hy_X4_grow⟩
abbrev rmX4_grow : Room := { frames := 2, cells := 1, slots := 12288, locals := 62 }
set_option maxHeartbeats 8000000 in
set_option maxRecDepth 100000 in
theorem c_X4_grow (l : Launch) (G : va_G) (cI cZ cQ cU cJ : ClassId) (o : Nat) (ad : Nat → Nat) (n : Nat) (I : OI) (R : RI) (h0 : 0 < n) (h1 : n < 12288) : ConP l yX4_grow wsX4_grow rmX4_grow G vwCl (tys cI cZ cQ cU cJ) nws [.ref o] (pf [rW cI cZ o ad n I R]) (fun _ r M' => r = none ∧ ∃ ad', M' = pf [rW cI cZ o ad' (gn n) I (va_up R 1 (va_cpy (R 1) (fun _ => 0) 0 0 n))]) := by
  have b1 := nI_cl (n := n) (by omega)
  have g1 := gn_ok h0 h1
  refine conP_of (f := some ()) (maxL := 2) (own := RX4) rfl (plainFor_of_name (by decide +kernel)) rfl (Nat.le_of_ble_eq_true rfl) ?_ rfl
  intro p e s m args below meth c A C hret hname
  refine VJ.iconst (v := 2) C dX4_grow_0 (by decide) ?_
  refine VJ.aload_n C 0 dX4_grow_1 rfl ?_
  refine VJ.get (C0 := RX4) (T := TX4) (N := 5) (ci := 4) C in_X4_grow_X4 0 rfl rfl 3 (Nat.le_of_ble_eq_true rfl) (C.1.2.2.2.2 _ (List.mem_of_getElem? (i := 1) rfl)) (fun _ h9 => h9) (v := .ref (ad 1)) rfl dX4_grow_2 ?_
  refine VJ.alen C 2 0 (v := nI n) rfl rfl rfl dX4_grow_5 ?_
  refine VJ.imul C dX4_grow_6 ?_
  refine VJ.sipush (v := 12288) C dX4_grow_7 (by decide) ?_
  refine VJ.mmin C (C.1.2.2.2.2 _ (List.mem_of_getElem? (i := 2) rfl)) (C.1.2.2.2.2 _ (List.mem_of_getElem? (i := 3) rfl)) (C.1.2.2.2.2 _ (List.mem_of_getElem? (i := 4) rfl)) (C.1.2.2.2.2 _ (List.mem_of_getElem? (i := 5) rfl)) (Nat.le_of_ble_eq_true rfl) (Nat.le_of_ble_eq_true rfl) (Nat.zero_le _) (Nat.zero_le _) dX4_grow_10 ?_
  rw [gn_min h1]
  refine VJ.istore_n C [(1, .int (nI (gn n))), (0, .ref o)] dX4_grow_13 (Nat.le_of_ble_eq_true rfl) rfl ?_
  refine VJ.iload_n C 0 dX4_grow_14 rfl ?_
  refine VJ.aload_n C 1 dX4_grow_15 rfl ?_
  refine VJ.get (C0 := RX4) (T := TX4) (N := 5) (ci := 4) C in_X4_grow_X4 0 rfl rfl 3 (Nat.le_of_ble_eq_true rfl) (C.1.2.2.2.2 _ (List.mem_of_getElem? (i := 1) rfl)) (fun _ h9 => h9) (v := .ref (ad 1)) rfl dX4_grow_16 ?_
  refine VJ.alen C 2 0 (v := nI n) rfl rfl rfl dX4_grow_19 ?_
  refine VJ.eqf (f' := if nI (gn n) ≤ nI n then none else some ()) (by rw [if_neg (Int32.not_le.mpr (nI_lt9 g1.1 (by omega)))]) ?_
  refine VJ.icmp_le C 35 dX4_grow_20 (by decide) (fun _ => VJ.fnone rfl) (fun _ => ?_)
  refine VJ.aload_n C 1 dX4_grow_23 rfl ?_
  refine VJ.aload_n C 1 dX4_grow_24 rfl ?_
  refine VJ.get (C0 := RX4) (T := TX4) (N := 5) (ci := 4) C in_X4_grow_X4 0 rfl rfl 3 (Nat.le_of_ble_eq_true rfl) (C.1.2.2.2.2 _ (List.mem_of_getElem? (i := 1) rfl)) (fun _ h9 => h9) (v := .ref (ad 1)) rfl dX4_grow_25 ?_
  refine VJ.iload_n C 0 dX4_grow_28 rfl ?_
  refine VJ.cM (M' := pf [[(o, .inr (4, rF ad I))], [(ad 0, .inl (cI, 24, .inl (R 0)))], [(ad 1, .inl (cI, n, .inl (R 1)))]]) rfl ?_
  refine VJ.callPF C [.ref (ad 1), .int (nI (gn n))] (pf [[(ad 1, .inl (cI, n, .inl (R 1)))]]) (pf [[(o, .inr (4, rF ad I))], [(ad 0, .inl (cI, 24, .inl (R 0)))]]) (c_J7_copyOf l G cI cZ cQ cU cJ (ad 1) n (gn n) (R 1) g1.1 g1.2) (vj_pf 3 [2, 0, 1] rfl rfl dq_2_0_1) (va_cwS 2 C.1.2.2.2.2 gX4_grow_J7_copyOf_59c91 rfl rfl rfl hy_J7_copyOf ⟨Nat.le_of_ble_eq_true rfl, Nat.le_of_ble_eq_true rfl⟩) rfl rfl (Nat.le_of_ble_eq_true rfl) dX4_grow_29 ⟨Nat.le_of_ble_eq_true rfl, Nat.le_of_ble_eq_true rfl⟩ (fun r M1 h9 => ?_)
  obtain ⟨q, rfl, rfl⟩ := h9
  refine VJ.put (C0 := RX4) (T := TX4) (N := 5) (ci := 4) C in_X4_grow_X4 2 rfl rfl 3 (Nat.le_of_ble_eq_true rfl) (C.1.2.2.2.2 _ (List.mem_of_getElem? (i := 1) rfl)) (fun _ h9 => h9) (pf [[(ad 1, .inl (cI, n, .inl (R 1)))], [(q, .inl (cI, gn n, .inl (va_cpy (R 1) (fun _ => 0) 0 0 n)))], [(o, .inr (4, [.int (I 0), .int (I 1), .ref (ad 0), .ref q, .int (I 2)]))], [(ad 0, .inl (cI, 24, .inl (R 0)))]]) tyX4 tyX4_ok nmX4 rfl (fty := .array .int) rfl rfl rfl (Nat.le_of_ble_eq_true rfl) rfl dX4_grow_32 ?_
  refine VJ.drop (M' := pf [[(o, .inr (4, [.int (I 0), .int (I 1), .ref (ad 0), .ref q, .int (I 2)]))], [(ad 0, .inl (cI, 24, .inl (R 0)))], [(q, .inl (cI, gn n, .inl (va_cpy (R 1) (fun _ => 0) 0 0 n)))]]) (R' := pf [[(ad 1, .inl (cI, n, .inl (R 1)))]]) (vj_pf 4 [2, 3, 1, 0] rfl rfl dp_2_3_1_0) ?_
  exact VJ.vretN C rmX4_grow.cells rmX4_grow.slots (fun _ h9 => h9) ⟨rfl, adl [ad 0, q], rfl⟩ hret (Nat.le_of_ble_eq_true rfl) (Nat.le_of_ble_eq_true rfl) dX4_grow_35
set_option maxHeartbeats 4000000 in
set_option maxRecDepth 100000 in
def f_X4_take_j16 (n : Nat) (I : OI) (R : RI) (x1 : Int32) : Option (OI × RI) :=
  if (nI n) ≤ (I 2) then (some (I, R)) else (ogn n (ol (va_up R 1 (putv n (R 1) (I 2) x1)) (fun R1 => ol (va_up I 2 ((I 2) + 1)) (fun I2 => ob1 (f_X4_personIn x1) (fun r3 => ob1 (f_X4_dwellingIn x1) (fun r4 => ol (va_up R1 0 (putv 24 (R1 0) r3 r4)) (fun R5 => some (I2, R5))))))))
def f_X4_take (n : Nat) (I : OI) (R : RI) (x1 : Int32) : Option (OI × RI) :=
  if (I 2) < (nI n) then (f_X4_take_j16 n I R x1) else none
abbrev rmX4_take : Room := { frames := 1, cells := 0, slots := 0, locals := 22 }
theorem in_X4_take_X4 : ∀ w ∈ u_ws RX4 TX4 5, w ∈ wsX4_take := in_of 38 rfl
theorem hy_X4_take : yX4_take.cls ≠ "java/lang/invoke/MethodHandle" ∧ yX4_take.cls ≠ "java/lang/invoke/VarHandle" ∧ (parseMethodDescriptor yX4_take.desc).map (fun d => d.parameters.length) = some 1 := by decide +kernel
theorem hyV_X4_take : yX4_take.cls = RX4 ∧ yX4_take.cls ≠ "java/lang/invoke/MethodHandle" ∧ yX4_take.cls ≠ "java/lang/invoke/VarHandle" ∧ (parseMethodDescriptor yX4_take.desc).map (fun d => d.parameters.length) = some 1 := ⟨rfl, hy_X4_take⟩
set_option maxHeartbeats 8000000 in
set_option maxRecDepth 100000 in
theorem c_X4_take (l : Launch) (G : va_G) (cI cZ cQ cU cJ : ClassId) (o : Nat) (ad : Nat → Nat) (n : Nat) (I : OI) (R : RI) (x1 : Int32) (out : OI × RI) (hf : f_X4_take n I R x1 = some out) : Con l yX4_take wsX4_take rmX4_take G vwCl (tys cI cZ cQ cU cJ) nws [.ref o, .int x1] (pf [rW cI cZ o ad n I R]) (none) (pf [rW cI cZ o ad n out.1 out.2]) := by
  refine con_of (rv := fun out : OI × RI => none) (Wd := fun out : OI × RI => pf [rW cI cZ o ad n out.1 out.2]) (maxL := 2) (own := RX4) rfl (plainFor_of_name (by decide +kernel)) rfl (Nat.le_of_ble_eq_true rfl) ?_ hf
  intro p e s m args below meth c A C hret hname
  have j16 : ∀ (I : OI) (R : RI) (x1 : Int32), VJ p l e rmX4_take s m args below meth c 2 G vwCl A (QR below G vwCl A args s rmX4_take.cells rmX4_take.slots (fun out : OI × RI => none) (fun out : OI × RI => pf [rW cI cZ o ad n out.1 out.2])) 0 0 (f_X4_take_j16 n  I R x1) (pf [rW cI cZ o ad n I R]) 16 [(0, .ref o), (1, .int x1)] [] := by
    intro  I R x1
    unfold f_X4_take_j16
    refine VJ.aload_n C 0 dX4_take_16 rfl ?_
    refine VJ.get (C0 := RX4) (T := TX4) (N := 5) (ci := 4) C in_X4_take_X4 0 rfl rfl 4 (Nat.le_of_ble_eq_true rfl) (C.1.2.2.2.2 _ (List.mem_of_getElem? (i := 1) rfl)) (fun _ h9 => h9) (v := .int (I 2)) rfl dX4_take_17 ?_
    refine VJ.aload_n C 0 dX4_take_20 rfl ?_
    refine VJ.get (C0 := RX4) (T := TX4) (N := 5) (ci := 4) C in_X4_take_X4 0 rfl rfl 3 (Nat.le_of_ble_eq_true rfl) (C.1.2.2.2.2 _ (List.mem_of_getElem? (i := 2) rfl)) (fun _ h9 => h9) (v := .ref (ad 1)) rfl dX4_take_21 ?_
    refine VJ.alen C 2 0 (v := nI n) rfl rfl rfl dX4_take_24 ?_
    refine VJ.icmp_ge C 65 dX4_take_25 (by decide) (fun _ => ?_) (fun _ => ?_)
    · exact VJ.vret C hret rfl rfl dX4_take_65
    · refine VJ.aload_n C 0 dX4_take_28 rfl ?_
      refine VJ.get (C0 := RX4) (T := TX4) (N := 5) (ci := 4) C in_X4_take_X4 0 rfl rfl 3 (Nat.le_of_ble_eq_true rfl) (C.1.2.2.2.2 _ (List.mem_of_getElem? (i := 2) rfl)) (fun _ h9 => h9) (v := .ref (ad 1)) rfl dX4_take_29 ?_
      refine VJ.aload_n C 0 dX4_take_32 rfl ?_
      refine VJ.get (C0 := RX4) (T := TX4) (N := 5) (ci := 4) C in_X4_take_X4 0 rfl rfl 4 (Nat.le_of_ble_eq_true rfl) (C.1.2.2.2.2 _ (List.mem_of_getElem? (i := 1) rfl)) (fun _ h9 => h9) (v := .int (I 2)) rfl dX4_take_33 ?_
      refine VJ.iload_n C 1 dX4_take_36 rfl ?_
      refine VJ.rogn (fun hn9 => ?_)
      refine VJ.putSN (q0 := 2) C R 1 (fun R1 => pf [rW cI cZ o ad n I R1]) rfl (fun _ => rfl) (c_X5_putt l G cI cZ cQ cU cJ (ad 1) n hn9 (R 1) (I 2) x1) (⟨va_cnB 3 C.1.2.2.2.2 gX4_take_X5_put_n37 rfl rfl rfl (C.nestM (List.mem_of_getElem? (i := 63) rfl)) (C.1.2.2.2.2 _ (List.mem_of_getElem? (i := 30) rfl)) hy_X5_put ⟨Nat.le_of_ble_eq_true rfl, Nat.le_of_ble_eq_true rfl⟩, (C.1.2.2.2.2 _ (List.mem_of_getElem? (i := 29) rfl)), trivial⟩) rfl (Nat.le_of_ble_eq_true rfl) dX4_take_37 ⟨Nat.le_of_ble_eq_true rfl, Nat.le_of_ble_eq_true rfl⟩ ⟨rfl, rfl⟩ (fun R1 => ?_)
      refine VJ.aload_n C 0 dX4_take_40 rfl ?_
      refine VJ.dup C dX4_take_41 rfl ?_
      refine VJ.get (C0 := RX4) (T := TX4) (N := 5) (ci := 4) C in_X4_take_X4 0 rfl rfl 4 (Nat.le_of_ble_eq_true rfl) (C.1.2.2.2.2 _ (List.mem_of_getElem? (i := 1) rfl)) (fun _ h9 => h9) (v := .int (I 2)) rfl dX4_take_42 ?_
      refine VJ.iconst (v := 1) C dX4_take_45 (by decide) ?_
      refine VJ.iadd C dX4_take_46 ?_
      refine VJ.putI (C0 := RX4) (T := TX4) (N := 5) (ci := 4) C in_X4_take_X4 0 rfl rfl 4 (Nat.le_of_ble_eq_true rfl) (C.1.2.2.2.2 _ (List.mem_of_getElem? (i := 1) rfl)) (fun _ h9 => h9) (Ii := I) (jj := 2) (fun I2 => pf [rW cI cZ o ad n I2 R1]) tyX4 tyX4_ok nmX4 rfl rfl (Nat.le_of_ble_eq_true rfl) (fun _ => rfl) dX4_take_47 (fun I2 => ?_)
      refine VJ.aload_n C 0 dX4_take_50 rfl ?_
      refine VJ.get (C0 := RX4) (T := TX4) (N := 5) (ci := 4) C in_X4_take_X4 0 rfl rfl 2 (Nat.le_of_ble_eq_true rfl) (C.1.2.2.2.2 _ (List.mem_of_getElem? (i := 3) rfl)) (fun _ h9 => h9) (v := .ref (ad 0)) rfl dX4_take_51 ?_
      refine VJ.iload_n C 1 dX4_take_54 rfl ?_
      refine VJ.callS1 C [.int x1] (pf []) (pf [rW cI cZ o ad n I2 R1]) (fun r3 => some (.int r3)) (fun r3 => pf []) (fun r3 => pf [rW cI cZ o ad n I2 R1]) (fun r3 => [.int r3, .ref (ad 0)]) 0 0 (fun _ h9 => c_X4_personIn l G cI cZ cQ cU cJ x1 _ h9) (vj_pn _) (fun _ => vj_pn' _) (va_cwS 1 C.1.2.2.2.2 gX4_take_X4_personIn rfl rfl rfl hy_X4_personIn ⟨Nat.le_of_ble_eq_true rfl, Nat.le_of_ble_eq_true rfl⟩) rfl rfl (fun _ => rfl) (Nat.le_of_ble_eq_true rfl) dX4_take_55 ⟨Nat.le_of_ble_eq_true rfl, Nat.le_of_ble_eq_true rfl⟩ ⟨rfl, rfl⟩ (fun r3 => ?_)
      refine VJ.iload_n C 1 dX4_take_58 rfl ?_
      refine VJ.callS1 C [.int x1] (pf []) (pf [rW cI cZ o ad n I2 R1]) (fun r4 => some (.int r4)) (fun r4 => pf []) (fun r4 => pf [rW cI cZ o ad n I2 R1]) (fun r4 => [.int r4, .int r3, .ref (ad 0)]) 0 0 (fun _ h9 => c_X4_dwellingIn l G cI cZ cQ cU cJ x1 _ h9) (vj_pn _) (fun _ => vj_pn' _) (va_cwS 1 C.1.2.2.2.2 gX4_take_X4_dwellingIn rfl rfl rfl hy_X4_dwellingIn ⟨Nat.le_of_ble_eq_true rfl, Nat.le_of_ble_eq_true rfl⟩) rfl rfl (fun _ => rfl) (Nat.le_of_ble_eq_true rfl) dX4_take_59 ⟨Nat.le_of_ble_eq_true rfl, Nat.le_of_ble_eq_true rfl⟩ ⟨rfl, rfl⟩ (fun r4 => ?_)
      refine VJ.putSN (q0 := 1) C R1 0 (fun R5 => pf [rW cI cZ o ad n I2 R5]) rfl (fun _ => rfl) (c_X5_putt l G cI cZ cQ cU cJ (ad 0) 24 (Nat.le_of_ble_eq_true rfl) (R1 0) r3 r4) (⟨va_cnB 3 C.1.2.2.2.2 gX4_take_X5_put_n37 rfl rfl rfl (C.nestM (List.mem_of_getElem? (i := 63) rfl)) (C.1.2.2.2.2 _ (List.mem_of_getElem? (i := 30) rfl)) hy_X5_put ⟨Nat.le_of_ble_eq_true rfl, Nat.le_of_ble_eq_true rfl⟩, (C.1.2.2.2.2 _ (List.mem_of_getElem? (i := 29) rfl)), trivial⟩) rfl (Nat.le_of_ble_eq_true rfl) dX4_take_62 ⟨Nat.le_of_ble_eq_true rfl, Nat.le_of_ble_eq_true rfl⟩ ⟨rfl, rfl⟩ (fun R5 => ?_)
      exact VJ.vret C hret rfl rfl dX4_take_65
  unfold f_X4_take
  refine VJ.aload_n C 0 dX4_take_0 rfl ?_
  refine VJ.get (C0 := RX4) (T := TX4) (N := 5) (ci := 4) C in_X4_take_X4 0 rfl rfl 4 (Nat.le_of_ble_eq_true rfl) (C.1.2.2.2.2 _ (List.mem_of_getElem? (i := 1) rfl)) (fun _ h9 => h9) (v := .int (I 2)) rfl dX4_take_1 ?_
  refine VJ.aload_n C 0 dX4_take_4 rfl ?_
  refine VJ.get (C0 := RX4) (T := TX4) (N := 5) (ci := 4) C in_X4_take_X4 0 rfl rfl 3 (Nat.le_of_ble_eq_true rfl) (C.1.2.2.2.2 _ (List.mem_of_getElem? (i := 2) rfl)) (fun _ h9 => h9) (v := .ref (ad 1)) rfl dX4_take_5 ?_
  refine VJ.alen C 2 0 (v := nI n) rfl rfl rfl dX4_take_8 ?_
  refine VJ.icmp_lt C 16 dX4_take_9 (by decide) (fun _ => ?_) (fun _ => ?_)
  · exact j16 I R x1
  · exact VJ.fnone rfl

def f_X4_takeB (n : Nat) (I : OI) (R : RI) (x1 : Int32) : Option (OI × RI) :=
  if (I 2) < (nI n) then none else if 0 < n ∧ n < 12288 then f_X4_take_j16 (gn n) I (va_up R 1 (va_cpy (R 1) (fun _ => 0) 0 0 n)) x1 else none
abbrev rmX4_takeB : Room := { frames := 3, cells := 1, slots := 12288, locals := 84 }
set_option maxHeartbeats 8000000 in
set_option maxRecDepth 100000 in
theorem c_X4_takeB (l : Launch) (G : va_G) (cI cZ cQ cU cJ : ClassId) (o : Nat) (ad : Nat → Nat) (n : Nat) (I : OI) (R : RI) (x1 : Int32) (out : OI × RI) (hf : f_X4_takeB n I R x1 = some out) : ConP l yX4_take wsX4_take rmX4_takeB G vwCl (tys cI cZ cQ cU cJ) nws [.ref o, .int x1] (pf [rW cI cZ o ad n I R]) (fun _ r M' => r = none ∧ ∃ ad', M' = pf [rW cI cZ o ad' (gn n) out.1 out.2]) := by
  refine conP_of2 (Pf := fun (out : OI × RI) _ r M' => r = none ∧ ∃ ad', M' = pf [rW cI cZ o ad' (gn n) out.1 out.2]) (maxL := 2) (own := RX4) rfl (plainFor_of_name (by decide +kernel)) rfl (Nat.le_of_ble_eq_true rfl) ?_ hf
  intro p e s m args below meth c A C hret hname
  have j16 : ∀ (ad : Nat → Nat) (n : Nat) (I : OI) (R : RI) (x1 : Int32), VJ p l e rmX4_takeB s m args below meth c 2 G vwCl A (fun (o9 : OI × RI) (t9 : State) => QN below G vwCl A args s rmX4_takeB.cells rmX4_takeB.slots (fun _ r M' => r = none ∧ ∃ ad', M' = pf [rW cI cZ o ad' n o9.1 o9.2]) t9) 1 12288 (f_X4_take_j16 n  I R x1) (pf [rW cI cZ o ad n I R]) 16 [(0, .ref o), (1, .int x1)] [] := by
    intro ad n I R x1
    unfold f_X4_take_j16
    refine VJ.aload_n C 0 dX4_take_16 rfl ?_
    refine VJ.get (C0 := RX4) (T := TX4) (N := 5) (ci := 4) C in_X4_take_X4 0 rfl rfl 4 (Nat.le_of_ble_eq_true rfl) (C.1.2.2.2.2 _ (List.mem_of_getElem? (i := 1) rfl)) (fun _ h9 => h9) (v := .int (I 2)) rfl dX4_take_17 ?_
    refine VJ.aload_n C 0 dX4_take_20 rfl ?_
    refine VJ.get (C0 := RX4) (T := TX4) (N := 5) (ci := 4) C in_X4_take_X4 0 rfl rfl 3 (Nat.le_of_ble_eq_true rfl) (C.1.2.2.2.2 _ (List.mem_of_getElem? (i := 2) rfl)) (fun _ h9 => h9) (v := .ref (ad 1)) rfl dX4_take_21 ?_
    refine VJ.alen C 2 0 (v := nI n) rfl rfl rfl dX4_take_24 ?_
    refine VJ.icmp_ge C 65 dX4_take_25 (by decide) (fun _ => ?_) (fun _ => ?_)
    · exact VJ.vretN C rmX4_takeB.cells rmX4_takeB.slots (fun _ h9 => h9) ⟨rfl, ad, rfl⟩ hret (Nat.le_of_ble_eq_true rfl) (Nat.le_of_ble_eq_true rfl) dX4_take_65
    · refine VJ.aload_n C 0 dX4_take_28 rfl ?_
      refine VJ.get (C0 := RX4) (T := TX4) (N := 5) (ci := 4) C in_X4_take_X4 0 rfl rfl 3 (Nat.le_of_ble_eq_true rfl) (C.1.2.2.2.2 _ (List.mem_of_getElem? (i := 2) rfl)) (fun _ h9 => h9) (v := .ref (ad 1)) rfl dX4_take_29 ?_
      refine VJ.aload_n C 0 dX4_take_32 rfl ?_
      refine VJ.get (C0 := RX4) (T := TX4) (N := 5) (ci := 4) C in_X4_take_X4 0 rfl rfl 4 (Nat.le_of_ble_eq_true rfl) (C.1.2.2.2.2 _ (List.mem_of_getElem? (i := 1) rfl)) (fun _ h9 => h9) (v := .int (I 2)) rfl dX4_take_33 ?_
      refine VJ.iload_n C 1 dX4_take_36 rfl ?_
      refine VJ.rogn (fun hn9 => ?_)
      refine VJ.putSN (q0 := 2) C R 1 (fun R1 => pf [rW cI cZ o ad n I R1]) rfl (fun _ => rfl) (c_X5_putt l G cI cZ cQ cU cJ (ad 1) n hn9 (R 1) (I 2) x1) (⟨va_cnB 3 C.1.2.2.2.2 gX4_take_X5_put_n37 rfl rfl rfl (C.nestM (List.mem_of_getElem? (i := 63) rfl)) (C.1.2.2.2.2 _ (List.mem_of_getElem? (i := 30) rfl)) hy_X5_put ⟨Nat.le_of_ble_eq_true rfl, Nat.le_of_ble_eq_true rfl⟩, (C.1.2.2.2.2 _ (List.mem_of_getElem? (i := 29) rfl)), trivial⟩) rfl (Nat.le_of_ble_eq_true rfl) dX4_take_37 ⟨Nat.le_of_ble_eq_true rfl, Nat.le_of_ble_eq_true rfl⟩ ⟨rfl, rfl⟩ (fun R1 => ?_)
      refine VJ.aload_n C 0 dX4_take_40 rfl ?_
      refine VJ.dup C dX4_take_41 rfl ?_
      refine VJ.get (C0 := RX4) (T := TX4) (N := 5) (ci := 4) C in_X4_take_X4 0 rfl rfl 4 (Nat.le_of_ble_eq_true rfl) (C.1.2.2.2.2 _ (List.mem_of_getElem? (i := 1) rfl)) (fun _ h9 => h9) (v := .int (I 2)) rfl dX4_take_42 ?_
      refine VJ.iconst (v := 1) C dX4_take_45 (by decide) ?_
      refine VJ.iadd C dX4_take_46 ?_
      refine VJ.putI (C0 := RX4) (T := TX4) (N := 5) (ci := 4) C in_X4_take_X4 0 rfl rfl 4 (Nat.le_of_ble_eq_true rfl) (C.1.2.2.2.2 _ (List.mem_of_getElem? (i := 1) rfl)) (fun _ h9 => h9) (Ii := I) (jj := 2) (fun I2 => pf [rW cI cZ o ad n I2 R1]) tyX4 tyX4_ok nmX4 rfl rfl (Nat.le_of_ble_eq_true rfl) (fun _ => rfl) dX4_take_47 (fun I2 => ?_)
      refine VJ.aload_n C 0 dX4_take_50 rfl ?_
      refine VJ.get (C0 := RX4) (T := TX4) (N := 5) (ci := 4) C in_X4_take_X4 0 rfl rfl 2 (Nat.le_of_ble_eq_true rfl) (C.1.2.2.2.2 _ (List.mem_of_getElem? (i := 3) rfl)) (fun _ h9 => h9) (v := .ref (ad 0)) rfl dX4_take_51 ?_
      refine VJ.iload_n C 1 dX4_take_54 rfl ?_
      refine VJ.callS1 C [.int x1] (pf []) (pf [rW cI cZ o ad n I2 R1]) (fun r3 => some (.int r3)) (fun r3 => pf []) (fun r3 => pf [rW cI cZ o ad n I2 R1]) (fun r3 => [.int r3, .ref (ad 0)]) 1 12288 (fun _ h9 => c_X4_personIn l G cI cZ cQ cU cJ x1 _ h9) (vj_pn _) (fun _ => vj_pn' _) (va_cwS 1 C.1.2.2.2.2 gX4_take_X4_personIn rfl rfl rfl hy_X4_personIn ⟨Nat.le_of_ble_eq_true rfl, Nat.le_of_ble_eq_true rfl⟩) rfl rfl (fun _ => rfl) (Nat.le_of_ble_eq_true rfl) dX4_take_55 ⟨Nat.le_of_ble_eq_true rfl, Nat.le_of_ble_eq_true rfl⟩ ⟨rfl, rfl⟩ (fun r3 => ?_)
      refine VJ.iload_n C 1 dX4_take_58 rfl ?_
      refine VJ.callS1 C [.int x1] (pf []) (pf [rW cI cZ o ad n I2 R1]) (fun r4 => some (.int r4)) (fun r4 => pf []) (fun r4 => pf [rW cI cZ o ad n I2 R1]) (fun r4 => [.int r4, .int r3, .ref (ad 0)]) 1 12288 (fun _ h9 => c_X4_dwellingIn l G cI cZ cQ cU cJ x1 _ h9) (vj_pn _) (fun _ => vj_pn' _) (va_cwS 1 C.1.2.2.2.2 gX4_take_X4_dwellingIn rfl rfl rfl hy_X4_dwellingIn ⟨Nat.le_of_ble_eq_true rfl, Nat.le_of_ble_eq_true rfl⟩) rfl rfl (fun _ => rfl) (Nat.le_of_ble_eq_true rfl) dX4_take_59 ⟨Nat.le_of_ble_eq_true rfl, Nat.le_of_ble_eq_true rfl⟩ ⟨rfl, rfl⟩ (fun r4 => ?_)
      refine VJ.putSN (q0 := 1) C R1 0 (fun R5 => pf [rW cI cZ o ad n I2 R5]) rfl (fun _ => rfl) (c_X5_putt l G cI cZ cQ cU cJ (ad 0) 24 (Nat.le_of_ble_eq_true rfl) (R1 0) r3 r4) (⟨va_cnB 3 C.1.2.2.2.2 gX4_take_X5_put_n37 rfl rfl rfl (C.nestM (List.mem_of_getElem? (i := 63) rfl)) (C.1.2.2.2.2 _ (List.mem_of_getElem? (i := 30) rfl)) hy_X5_put ⟨Nat.le_of_ble_eq_true rfl, Nat.le_of_ble_eq_true rfl⟩, (C.1.2.2.2.2 _ (List.mem_of_getElem? (i := 29) rfl)), trivial⟩) rfl (Nat.le_of_ble_eq_true rfl) dX4_take_62 ⟨Nat.le_of_ble_eq_true rfl, Nat.le_of_ble_eq_true rfl⟩ ⟨rfl, rfl⟩ (fun R5 => ?_)
      exact VJ.vretN C rmX4_takeB.cells rmX4_takeB.slots (fun _ h9 => h9) ⟨rfl, ad, rfl⟩ hret (Nat.le_of_ble_eq_true rfl) (Nat.le_of_ble_eq_true rfl) dX4_take_65
  unfold f_X4_takeB
  refine VJ.aload_n C 0 dX4_take_0 rfl ?_
  refine VJ.get (C0 := RX4) (T := TX4) (N := 5) (ci := 4) C in_X4_take_X4 0 rfl rfl 4 (Nat.le_of_ble_eq_true rfl) (C.1.2.2.2.2 _ (List.mem_of_getElem? (i := 1) rfl)) (fun _ h9 => h9) (v := .int (I 2)) rfl dX4_take_1 ?_
  refine VJ.aload_n C 0 dX4_take_4 rfl ?_
  refine VJ.get (C0 := RX4) (T := TX4) (N := 5) (ci := 4) C in_X4_take_X4 0 rfl rfl 3 (Nat.le_of_ble_eq_true rfl) (C.1.2.2.2.2 _ (List.mem_of_getElem? (i := 2) rfl)) (fun _ h9 => h9) (v := .ref (ad 1)) rfl dX4_take_5 ?_
  refine VJ.alen C 2 0 (v := nI n) rfl rfl rfl dX4_take_8 ?_
  refine VJ.icmp_lt C 16 dX4_take_9 (by decide) (fun _ => VJ.fnone rfl) (fun _ => ?_)
  by_cases h9 : 0 < n ∧ n < 12288
  · rw [if_pos h9]
    refine VJ.aload_n C 0 dX4_take_12 rfl ?_
    refine VJ.callPV C [] (pf [rW cI cZ o ad n I R]) [] (c_X4_grow l G cI cZ cQ cU cJ o ad n I R h9.1 h9.2) (by rw [List.append_nil]) 0 rfl rfl (cwV 0 C.1.2.2.2.2 gX4_take_X4_grow rfl rfl rfl hyV_X4_grow ⟨(Nat.le_of_ble_eq_true rfl), (Nat.le_of_ble_eq_true rfl)⟩) rfl rfl (Nat.le_of_ble_eq_true rfl) dX4_take_13 ⟨(Nat.le_of_ble_eq_true rfl), (Nat.le_of_ble_eq_true rfl)⟩ (fun r M1 h8 => ?_)
    obtain ⟨rfl, ad', rfl⟩ := h8
    rw [List.append_nil]
    exact j16 ad' (gn n) I _ x1
  · rw [if_neg h9]
    exact VJ.fnone rfl
section KX6
variable {p : Program} {l : Launch} {e : Env} {R : Room} {s : State} {m : MethodId} {args : Array Value} {below : List Frame} {meth : Method} {c : Code} {cc : ByteArray} {nL : Nat} {Ts : List Cond} {own : String} {G : va_G} {cl : List vw_C} {ty : List (ClassId × FieldType)} {nw : List Cond} {ss : List (String × Nat × String)} {A : Nat → Prop} {O : Type} {Qf : O → State → Prop} {cells slots : Nat} {f fA fB : Option O} {M : va_W} {pc : Nat} {lv : List (Nat × Value)} {st : List Value}
theorem VJ.callPVN {P1 P2 : Type} {fc : Option (P1 × P2)} {K : P1 → P2 → Option O} {host : String} {y : MethodName} {bytes : ByteArray} {maxL n index : Nat} {ret : Option FieldType} {ws : List Cond} {rm : Room} {b : Nat} {st0 : List Value} (C : Cx p s m args meth c cc nL Ts own G cl ty nw A) (As : List Value) (wc wr : va_W) (P : P1 × P2 → Nat → Option Value → va_W → Prop) (hcon : ∀ w, fc = some w → ConP l y ws rm G cl ty nw (.ref b :: As) wc (P w)) (hM : M.Perm (wc ++ wr)) (q0 : Nat) {ci : Nat} {fs : List Value} {q : vw_C} (he : wc[q0]? = some (b, .inr (ci, fs))) (hc : cl[ci]? = some q)
    (cw : va_CN R s args own index y host bytes maxL ret ws rm rm.cells rm.slots n ∧ (Cond.instanceMethod y).before args s = true ∧ (Cond.selects q.1 y y).before args s = true) (hn : As.length = n) (hst : st0 = As.reverse ++ .ref b :: st) (hroom : (st.map fun v => v.category).sum ≤ 8) (hdg : decode cc pc = .ok (.invokevirtual index, 3)) (hR : cells + rm.cells ≤ R.cells ∧ slots + rm.slots ≤ R.slots)
    (k : ∀ w r M1, P w 0 r M1 → VJ p l e R s m args below meth c nL G cl A Qf (cells + rm.cells) (slots + rm.slots) (K w.1 w.2) (M1 ++ wr) (pc + 3) lv (r.toList ++ st)) : VJ p l e R s m args below meth c nL G cl A Qf cells slots (ob2 fc K) M pc lv st0 := by
  intro out ho H locs ls hP hD hS hl
  obtain ⟨w, h1, h2⟩ := ob_spec ho
  subst hst
  exact vjp_after C.2.2.1 hP hD hS hM (va_runVN (As := As) (rest := st) C.1 (hcon w h1 H.size) cw ⟨CPre.blind, vj_recv C.2.1 hM hP hc he, vj_pre C.2.1 hM hP hD⟩ rfl hn hl.1 rfl (lv_room hroom) hdg hR)
    (fun r M1 H1 locs1 hp hP1 hD1 hS1 => k w r M1 hp out h2 H1 locs1 ls hP1 hD1 hS1 hl)
end KX6
set_option maxHeartbeats 4000000 in
set_option maxRecDepth 100000 in
def f_X5_deliver_l11b (N : Nat) (nr : Nat) (or : Nat) (I : OI) (R : RI) (Ik : OI) (Rk : RI) (cmk : Option Nat) (rs : OO) (k11 : OI → RI → Int32 → Int32 → Option (Nat × Int32 × Nat × OI × RI)) (Ir : OI) (Rr : RI) (x3 : Int32) (x4 : Int32) : Option (Nat × Int32 × Nat × OI × RI) :=
  if (I 1) ≤ x4 then (some (0, x3, nr, Ir, Rr)) else (ob1 (f_X5_dueTo nr I R Ik Rk cmk Ir Rr x4) (fun r2 => if r2 = (-1) then (ol (x4 + Int32.ofInt 1) (fun v3 => k11 Ir Rr x3 v3)) else (ob2 (f_X4_take nr Ir Rr r2) (fun Ir4 Rr5 => ol (x3 + Int32.ofInt 1) (fun v6 => ol (x4 + Int32.ofInt 1) (fun v7 => k11 Ir4 Rr5 v6 v7))))))
set_option maxHeartbeats 4000000 in
set_option maxRecDepth 100000 in
def f_X5_deliver_l11 (N : Nat) (nr : Nat) (or : Nat) (I : OI) (R : RI) (Ik : OI) (Rk : RI) (cmk : Option Nat) (rs : OO) : Nat → OI → RI → Int32 → Int32 → Option (Nat × Int32 × Nat × OI × RI)
  | 0 => fun _ _ _ _ => none
  | n9 + 1 => f_X5_deliver_l11b N nr or I R Ik Rk cmk rs (f_X5_deliver_l11 N nr or I R Ik Rk cmk rs n9)
set_option maxHeartbeats 4000000 in
set_option maxRecDepth 100000 in
def f_X5_deliver_g11b (N : Nat) (nr : Nat) (or : Nat) (I : OI) (R : RI) (Ik : OI) (Rk : RI) (cmk : Option Nat) (rs : OO) (k11 : OI → RI → Int32 → Int32 → Option (Nat × Int32 × Nat × OI × RI)) (Ir : OI) (Rr : RI) (x3 : Int32) (x4 : Int32) : Option (Nat × Int32 × Nat × OI × RI) :=
  if (I 1) ≤ x4 then (some (0, x3, nr, Ir, Rr)) else (ob1 (f_X5_dueTo nr I R Ik Rk cmk Ir Rr x4) (fun r2 => if r2 = (-1) then (ol (x4 + Int32.ofInt 1) (fun v3 => k11 Ir Rr x3 v3)) else (if (Ir 2) < (nI nr) then (ob2 (f_X4_take nr Ir Rr r2) (fun Ir4 Rr5 => ol (x3 + Int32.ofInt 1) (fun v6 => ol (x4 + Int32.ofInt 1) (fun v7 => k11 Ir4 Rr5 v6 v7)))) else (ob2 (f_X4_takeB nr Ir Rr r2) (fun Ir4 Rr5 => ol (x3 + Int32.ofInt 1) (fun v6 => ol (x4 + Int32.ofInt 1) (fun v7 => f_X5_deliver_l11 N (gn nr) or I R Ik Rk cmk rs N Ir4 Rr5 v6 v7)))))))
set_option maxHeartbeats 4000000 in
set_option maxRecDepth 100000 in
def f_X5_deliver_g11 (N : Nat) (nr : Nat) (or : Nat) (I : OI) (R : RI) (Ik : OI) (Rk : RI) (cmk : Option Nat) (rs : OO) : Nat → OI → RI → Int32 → Int32 → Option (Nat × Int32 × Nat × OI × RI)
  | 0 => fun _ _ _ _ => none
  | n9 + 1 => f_X5_deliver_g11b N nr or I R Ik Rk cmk rs (f_X5_deliver_g11 N nr or I R Ik Rk cmk rs n9)
def f_X5_deliver (N : Nat) (nr : Nat) (or : Nat) (I : OI) (R : RI) (Ik : OI) (Rk : RI) (cmk : Option Nat) (rs : OO) (Ir : OI) (Rr : RI) (x1 : Int32) : Option (Nat × Int32 × Nat × OI × RI) :=
  obr (f_X5_requireRoll I R rs x1) (fun k9 => (k9, 0, nr, Ir, Rr)) (fun a1 => oe a1 or (f_X5_deliver_g11 N nr or I R Ik Rk cmk rs N Ir Rr 0 0))
abbrev rmX5_deliver : Room := { frames := 7, cells := 2, slots := 12294, locals := 112 }
theorem in_X5_deliver_X5 : ∀ w ∈ u_ws RX5 TX5 11, w ∈ wsX5_deliver := in_of 86 rfl
theorem hy_X5_deliver : yX5_deliver.cls ≠ "java/lang/invoke/MethodHandle" ∧ yX5_deliver.cls ≠ "java/lang/invoke/VarHandle" ∧ (parseMethodDescriptor yX5_deliver.desc).map (fun d => d.parameters.length) = some 1 := by decide +kernel
theorem hyV_X5_deliver : yX5_deliver.cls = RX5 ∧ yX5_deliver.cls ≠ "java/lang/invoke/MethodHandle" ∧ yX5_deliver.cls ≠ "java/lang/invoke/VarHandle" ∧ (parseMethodDescriptor yX5_deliver.desc).map (fun d => d.parameters.length) = some 1 := ⟨rfl, hy_X5_deliver⟩
set_option maxHeartbeats 8000000 in
set_option maxRecDepth 100000 in
theorem c_X5_deliver (l : Launch) (hl9 : l.stackTraces = false) (G : va_G) (cI cZ cQ cU cJ : ClassId) (N : Nat) (o : Nat) (ad : Nat → Nat) (rf : Nat → Nat) (I : OI) (R : RI) (adk : Nat → Nat) (Ik : OI) (Rk : RI) (cmk : Option Nat) (rs : OO) (or : Nat) (adr : Nat → Nat) (nr : Nat) (Ir : OI) (Rr : RI) (x1 : Int32) (out : Nat × Int32 × Nat × OI × RI) (hf : f_X5_deliver N nr or I R Ik Rk cmk rs Ir Rr x1 = some out) : ConX l yX5_deliver wsX5_deliver rmX5_deliver G vwCl (tys cI cZ cQ cU cJ) nws strs [.ref o, .int x1] (pf [xW cI cZ o ad I R rf, lW cI cZ (rf 1) adk Ik Rk cmk, qW cU (rf 5) rs, rW cI cZ or adr nr Ir Rr]) (fun k' r M' => k' = out.1 ∧ (k' = 0 → r = some (.int out.2.1)) ∧ ∃ adr', M' = pf [xW cI cZ o ad I R rf, lW cI cZ (rf 1) adk Ik Rk cmk, qW cU (rf 5) rs, rW cI cZ or adr' out.2.2.1 out.2.2.2.1 out.2.2.2.2]) := by
  refine conX_of (Qf := fun (o9 : Nat × Int32 × Nat × OI × RI) below A args s t9 => QP below G vwCl A args s rmX5_deliver.cells rmX5_deliver.slots ((fun (out : Nat × Int32 × Nat × OI × RI) (k' : Nat) (r : Option Value) (M' : va_W) => k' = out.1 ∧ (k' = 0 → r = some (.int out.2.1)) ∧ ∃ adr', M' = pf [xW cI cZ o ad I R rf, lW cI cZ (rf 1) adk Ik Rk cmk, qW cU (rf 5) rs, rW cI cZ or adr' out.2.2.1 out.2.2.2.1 out.2.2.2.2]) o9) t9) (maxL := 6) (own := RX5) hl9 rfl (by decide +kernel) rfl (Nat.le_of_ble_eq_true rfl) (fun _ _ _ _ _ h9 => h9) ?_ hf
  intro p e s m args below meth c A CX hret hE
  have C := CX.1
  have j11 : ∀ (adr : Nat → Nat) (nr : Nat) (n9 : Nat) (Ir : OI) (Rr : RI) (x3 : Int32) (x4 : Int32), VJ p l e rmX5_deliver s m args below meth c 6 G vwCl A (fun (o9 : Nat × Int32 × Nat × OI × RI) (t9 : State) => QP below G vwCl A args s rmX5_deliver.cells rmX5_deliver.slots ((fun (out : Nat × Int32 × Nat × OI × RI) (k' : Nat) (r : Option Value) (M' : va_W) => k' = out.1 ∧ (k' = 0 → r = some (.int out.2.1)) ∧ ∃ adr', M' = pf [xW cI cZ o ad I R rf, lW cI cZ (rf 1) adk Ik Rk cmk, qW cU (rf 5) rs, rW cI cZ or adr' out.2.2.1 out.2.2.2.1 out.2.2.2.2]) o9) t9) 2 12294 (f_X5_deliver_l11 N nr or I R Ik Rk cmk rs  n9 Ir Rr x3 x4) (pf [xW cI cZ o ad I R rf, lW cI cZ (rf 1) adk Ik Rk cmk, qW cU (rf 5) rs, rW cI cZ or adr nr Ir Rr]) 11 [(0, .ref o), (2, .ref or), (3, .int x3), (4, .int x4)] [] := by
    intro adr nr n9
    induction n9 with
    | zero => intro Ir Rr x3 x4; exact VJ.fnone rfl
    | succ n9 i11 =>
      intro Ir Rr x3 x4
      refine VJ.eqf (f' := f_X5_deliver_l11b N nr or I R Ik Rk cmk rs  (f_X5_deliver_l11 N nr or I R Ik Rk cmk rs  n9) Ir Rr x3 x4) rfl ?_
      generalize f_X5_deliver_l11 N nr or I R Ik Rk cmk rs  n9 = k11 at i11 ⊢
      unfold f_X5_deliver_l11b
      refine VJ.iload C 3 dX5_deliver_11 rfl ?_
      refine VJ.aload_n C 0 dX5_deliver_13 rfl ?_
      refine VJ.get (C0 := RX5) (T := TX5) (N := 11) (ci := 5) C in_X5_deliver_X5 0 rfl rfl 9 (Nat.le_of_ble_eq_true rfl) (C.1.2.2.2.2 _ (List.mem_of_getElem? (i := 1) rfl)) (fun _ h9 => h9) (v := .int (I 1)) rfl dX5_deliver_14 ?_
      refine VJ.icmp_ge C 50 dX5_deliver_17 (by decide) (fun _ => ?_) (fun _ => ?_)
      · refine VJ.iload_n C 2 dX5_deliver_50 rfl ?_
        exact VJ.iretP C rmX5_deliver.cells rmX5_deliver.slots (fun _ h9 => h9) ⟨rfl, fun _ => rfl, adr, rfl⟩ hret (Nat.le_of_ble_eq_true rfl) (Nat.le_of_ble_eq_true rfl) dX5_deliver_51
      · refine VJ.aload_n C 0 dX5_deliver_20 rfl ?_
        refine VJ.aload_n C 1 dX5_deliver_21 rfl ?_
        refine VJ.iload C 3 dX5_deliver_22 rfl ?_
        refine VJ.callV1 C [.ref or, .int x4] (pf [xW cI cZ o ad I R rf, lW cI cZ (rf 1) adk Ik Rk cmk, rW cI cZ or adr nr Ir Rr]) (pf [qW cU (rf 5) rs]) (fun r2 => some (.int r2)) (fun r2 => pf [xW cI cZ o ad I R rf, lW cI cZ (rf 1) adk Ik Rk cmk, rW cI cZ or adr nr Ir Rr]) (fun r2 => pf [xW cI cZ o ad I R rf, lW cI cZ (rf 1) adk Ik Rk cmk, qW cU (rf 5) rs, rW cI cZ or adr nr Ir Rr]) (fun r2 => [.int r2]) 2 12294 (fun _ h9 => c_X5_dueTo l G cI cZ cQ cU cJ o ad rf I R adk Ik Rk cmk or adr nr Ir Rr x4 _ h9) (vj_pf 4 [0, 1, 3, 2] rfl rfl dp_0_1_3_2) (fun _ => (vj_pf 4 [0, 1, 3, 2] rfl rfl dp_0_1_3_2).symm) 0 rfl rfl (cwV 2 C.1.2.2.2.2 gX5_deliver_X5_dueTo rfl rfl rfl hyV_X5_dueTo ⟨Nat.le_of_ble_eq_true rfl, Nat.le_of_ble_eq_true rfl⟩) rfl rfl (fun _ => rfl) (Nat.le_of_ble_eq_true rfl) dX5_deliver_24 ⟨Nat.le_of_ble_eq_true rfl, Nat.le_of_ble_eq_true rfl⟩ ⟨rfl, rfl⟩ (fun r2 => ?_)
        refine VJ.istore C [(5, .int r2), (0, .ref o), (2, .ref or), (3, .int x3), (4, .int x4)] dX5_deliver_27 (Nat.le_of_ble_eq_true rfl) rfl ?_
        refine VJ.iload C 0 dX5_deliver_29 rfl ?_
        refine VJ.iconst (v := (-1)) C dX5_deliver_31 (by decide) ?_
        refine VJ.icmp_eq C 44 dX5_deliver_32 (by decide) (fun _ => ?_) (fun _ => ?_)
        · refine VJ.iincN C 4 (fun v3 => [(4, .int v3), (5, .int r2), (0, .ref o), (2, .ref or), (3, .int x3)]) dX5_deliver_44 rfl (Nat.le_of_ble_eq_true rfl) (fun _ => rfl) (fun v3 => ?_)
          refine VJ.goto C 11 dX5_deliver_47 (by decide) ?_
          refine VJ.sub [2, 3, 4, 0] rfl ?_
          exact i11 Ir Rr x3 v3
        · refine VJ.aload_n C 2 dX5_deliver_35 rfl ?_
          refine VJ.iload C 0 dX5_deliver_36 rfl ?_
          refine VJ.callVN2 C [.int r2] (pf [rW cI cZ or adr nr Ir Rr]) (pf [xW cI cZ o ad I R rf, lW cI cZ (rf 1) adk Ik Rk cmk, qW cU (rf 5) rs]) (fun Ir4 Rr5 => none) (fun Ir4 Rr5 => pf [rW cI cZ or adr nr Ir4 Rr5]) (fun Ir4 Rr5 => pf [xW cI cZ o ad I R rf, lW cI cZ (rf 1) adk Ik Rk cmk, qW cU (rf 5) rs, rW cI cZ or adr nr Ir4 Rr5]) (fun Ir4 Rr5 => []) 2 12294 (fun _ h9 => c_X4_take l G cI cZ cQ cU cJ or adr nr Ir Rr r2 _ h9) (vj_pf 4 [3, 0, 1, 2] rfl rfl dp_3_0_1_2) (fun _ _ => (vj_pf 4 [3, 0, 1, 2] rfl rfl dp_3_0_1_2).symm) 0 rfl rfl (⟨va_cnB 1 C.1.2.2.2.2 gX5_deliver_X4_take_n206 rfl rfl rfl (C.nestM (List.mem_of_getElem? (i := 62) rfl)) (C.1.2.2.2.2 _ (List.mem_of_getElem? (i := 46) rfl)) hy_X4_take ⟨Nat.le_of_ble_eq_true rfl, Nat.le_of_ble_eq_true rfl⟩, (C.1.2.2.2.2 _ (List.mem_of_getElem? (i := 48) rfl)), (C.1.2.2.2.2 _ (List.mem_of_getElem? (i := 49) rfl))⟩) rfl rfl (fun _ _ => rfl) (Nat.le_of_ble_eq_true rfl) dX5_deliver_38 ⟨Nat.le_of_ble_eq_true rfl, Nat.le_of_ble_eq_true rfl⟩ ⟨rfl, rfl⟩ (fun Ir4 Rr5 => ?_)
          refine VJ.iincN C 3 (fun v6 => [(3, .int v6), (5, .int r2), (0, .ref o), (2, .ref or), (4, .int x4)]) dX5_deliver_41 rfl (Nat.le_of_ble_eq_true rfl) (fun _ => rfl) (fun v6 => ?_)
          refine VJ.iincN C 4 (fun v7 => [(4, .int v7), (3, .int v6), (5, .int r2), (0, .ref o), (2, .ref or)]) dX5_deliver_44 rfl (Nat.le_of_ble_eq_true rfl) (fun _ => rfl) (fun v7 => ?_)
          refine VJ.goto C 11 dX5_deliver_47 (by decide) ?_
          refine VJ.sub [3, 4, 1, 0] rfl ?_
          exact i11 Ir4 Rr5 v6 v7
  have j12 : ∀ (n9 : Nat) (Ir : OI) (Rr : RI) (x3 : Int32) (x4 : Int32), VJ p l e rmX5_deliver s m args below meth c 6 G vwCl A (fun (o9 : Nat × Int32 × Nat × OI × RI) (t9 : State) => QP below G vwCl A args s rmX5_deliver.cells rmX5_deliver.slots ((fun (out : Nat × Int32 × Nat × OI × RI) (k' : Nat) (r : Option Value) (M' : va_W) => k' = out.1 ∧ (k' = 0 → r = some (.int out.2.1)) ∧ ∃ adr', M' = pf [xW cI cZ o ad I R rf, lW cI cZ (rf 1) adk Ik Rk cmk, qW cU (rf 5) rs, rW cI cZ or adr' out.2.2.1 out.2.2.2.1 out.2.2.2.2]) o9) t9) 1 6 (f_X5_deliver_g11 N nr or I R Ik Rk cmk rs  n9 Ir Rr x3 x4) (pf [xW cI cZ o ad I R rf, lW cI cZ (rf 1) adk Ik Rk cmk, qW cU (rf 5) rs, rW cI cZ or adr nr Ir Rr]) 11 [(0, .ref o), (2, .ref or), (3, .int x3), (4, .int x4)] [] := by
    intro  n9
    induction n9 with
    | zero => intro Ir Rr x3 x4; exact VJ.fnone rfl
    | succ n9 i12 =>
      intro Ir Rr x3 x4
      refine VJ.eqf (f' := f_X5_deliver_g11b N nr or I R Ik Rk cmk rs  (f_X5_deliver_g11 N nr or I R Ik Rk cmk rs  n9) Ir Rr x3 x4) rfl ?_
      generalize f_X5_deliver_g11 N nr or I R Ik Rk cmk rs  n9 = k12 at i12 ⊢
      unfold f_X5_deliver_g11b
      refine VJ.iload C 3 dX5_deliver_11 rfl ?_
      refine VJ.aload_n C 0 dX5_deliver_13 rfl ?_
      refine VJ.get (C0 := RX5) (T := TX5) (N := 11) (ci := 5) C in_X5_deliver_X5 0 rfl rfl 9 (Nat.le_of_ble_eq_true rfl) (C.1.2.2.2.2 _ (List.mem_of_getElem? (i := 1) rfl)) (fun _ h9 => h9) (v := .int (I 1)) rfl dX5_deliver_14 ?_
      refine VJ.icmp_ge C 50 dX5_deliver_17 (by decide) (fun _ => ?_) (fun _ => ?_)
      · refine VJ.iload_n C 2 dX5_deliver_50 rfl ?_
        exact VJ.iretP C rmX5_deliver.cells rmX5_deliver.slots (fun _ h9 => h9) ⟨rfl, fun _ => rfl, adr, rfl⟩ hret (Nat.le_of_ble_eq_true rfl) (Nat.le_of_ble_eq_true rfl) dX5_deliver_51
      · refine VJ.aload_n C 0 dX5_deliver_20 rfl ?_
        refine VJ.aload_n C 1 dX5_deliver_21 rfl ?_
        refine VJ.iload C 3 dX5_deliver_22 rfl ?_
        refine VJ.callV1 C [.ref or, .int x4] (pf [xW cI cZ o ad I R rf, lW cI cZ (rf 1) adk Ik Rk cmk, rW cI cZ or adr nr Ir Rr]) (pf [qW cU (rf 5) rs]) (fun r2 => some (.int r2)) (fun r2 => pf [xW cI cZ o ad I R rf, lW cI cZ (rf 1) adk Ik Rk cmk, rW cI cZ or adr nr Ir Rr]) (fun r2 => pf [xW cI cZ o ad I R rf, lW cI cZ (rf 1) adk Ik Rk cmk, qW cU (rf 5) rs, rW cI cZ or adr nr Ir Rr]) (fun r2 => [.int r2]) 1 6 (fun _ h9 => c_X5_dueTo l G cI cZ cQ cU cJ o ad rf I R adk Ik Rk cmk or adr nr Ir Rr x4 _ h9) (vj_pf 4 [0, 1, 3, 2] rfl rfl dp_0_1_3_2) (fun _ => (vj_pf 4 [0, 1, 3, 2] rfl rfl dp_0_1_3_2).symm) 0 rfl rfl (cwV 2 C.1.2.2.2.2 gX5_deliver_X5_dueTo rfl rfl rfl hyV_X5_dueTo ⟨Nat.le_of_ble_eq_true rfl, Nat.le_of_ble_eq_true rfl⟩) rfl rfl (fun _ => rfl) (Nat.le_of_ble_eq_true rfl) dX5_deliver_24 ⟨Nat.le_of_ble_eq_true rfl, Nat.le_of_ble_eq_true rfl⟩ ⟨rfl, rfl⟩ (fun r2 => ?_)
        refine VJ.istore C [(5, .int r2), (0, .ref o), (2, .ref or), (3, .int x3), (4, .int x4)] dX5_deliver_27 (Nat.le_of_ble_eq_true rfl) rfl ?_
        refine VJ.iload C 0 dX5_deliver_29 rfl ?_
        refine VJ.iconst (v := (-1)) C dX5_deliver_31 (by decide) ?_
        refine VJ.icmp_eq C 44 dX5_deliver_32 (by decide) (fun _ => ?_) (fun _ => ?_)
        · refine VJ.iincN C 4 (fun v3 => [(4, .int v3), (5, .int r2), (0, .ref o), (2, .ref or), (3, .int x3)]) dX5_deliver_44 rfl (Nat.le_of_ble_eq_true rfl) (fun _ => rfl) (fun v3 => ?_)
          refine VJ.goto C 11 dX5_deliver_47 (by decide) ?_
          refine VJ.sub [2, 3, 4, 0] rfl ?_
          exact i12 Ir Rr x3 v3
        · by_cases h7 : (Ir 2) < (nI nr)
          · rw [if_pos h7]
            refine VJ.aload_n C 2 dX5_deliver_35 rfl ?_
            refine VJ.iload C 0 dX5_deliver_36 rfl ?_
            refine VJ.callVN2 C [.int r2] (pf [rW cI cZ or adr nr Ir Rr]) (pf [xW cI cZ o ad I R rf, lW cI cZ (rf 1) adk Ik Rk cmk, qW cU (rf 5) rs]) (fun Ir4 Rr5 => none) (fun Ir4 Rr5 => pf [rW cI cZ or adr nr Ir4 Rr5]) (fun Ir4 Rr5 => pf [xW cI cZ o ad I R rf, lW cI cZ (rf 1) adk Ik Rk cmk, qW cU (rf 5) rs, rW cI cZ or adr nr Ir4 Rr5]) (fun Ir4 Rr5 => []) 1 6 (fun _ h9 => c_X4_take l G cI cZ cQ cU cJ or adr nr Ir Rr r2 _ h9) (vj_pf 4 [3, 0, 1, 2] rfl rfl dp_3_0_1_2) (fun _ _ => (vj_pf 4 [3, 0, 1, 2] rfl rfl dp_3_0_1_2).symm) 0 rfl rfl (⟨va_cnB 1 C.1.2.2.2.2 gX5_deliver_X4_take_n206 rfl rfl rfl (C.nestM (List.mem_of_getElem? (i := 62) rfl)) (C.1.2.2.2.2 _ (List.mem_of_getElem? (i := 46) rfl)) hy_X4_take ⟨Nat.le_of_ble_eq_true rfl, Nat.le_of_ble_eq_true rfl⟩, (C.1.2.2.2.2 _ (List.mem_of_getElem? (i := 48) rfl)), (C.1.2.2.2.2 _ (List.mem_of_getElem? (i := 49) rfl))⟩) rfl rfl (fun _ _ => rfl) (Nat.le_of_ble_eq_true rfl) dX5_deliver_38 ⟨Nat.le_of_ble_eq_true rfl, Nat.le_of_ble_eq_true rfl⟩ ⟨rfl, rfl⟩ (fun Ir4 Rr5 => ?_)
            refine VJ.iincN C 3 (fun v6 => [(3, .int v6), (5, .int r2), (0, .ref o), (2, .ref or), (4, .int x4)]) dX5_deliver_41 rfl (Nat.le_of_ble_eq_true rfl) (fun _ => rfl) (fun v6 => ?_)
            refine VJ.iincN C 4 (fun v7 => [(4, .int v7), (3, .int v6), (5, .int r2), (0, .ref o), (2, .ref or)]) dX5_deliver_44 rfl (Nat.le_of_ble_eq_true rfl) (fun _ => rfl) (fun v7 => ?_)
            refine VJ.goto C 11 dX5_deliver_47 (by decide) ?_
            refine VJ.sub [3, 4, 1, 0] rfl ?_
            exact i12 Ir4 Rr5 v6 v7
          · rw [if_neg h7]
            refine VJ.aload_n C 2 dX5_deliver_35 rfl ?_
            refine VJ.iload C 0 dX5_deliver_36 rfl ?_
            refine VJ.callPVN C [.int r2] (pf [rW cI cZ or adr nr Ir Rr]) (pf [xW cI cZ o ad I R rf, lW cI cZ (rf 1) adk Ik Rk cmk, qW cU (rf 5) rs]) (fun (w9 : OI × RI) _ r M' => r = none ∧ ∃ ad', M' = pf [rW cI cZ or ad' (gn nr) w9.1 w9.2]) (fun w9 h9 => c_X4_takeB l G cI cZ cQ cU cJ or adr nr Ir Rr r2 w9 h9) (vj_pf 4 [3, 0, 1, 2] rfl rfl dp_3_0_1_2) 0 rfl rfl (⟨va_cnB 1 C.1.2.2.2.2 gX5_deliver_X4_take_n206 rfl rfl rfl (C.nestM (List.mem_of_getElem? (i := 62) rfl)) (C.1.2.2.2.2 _ (List.mem_of_getElem? (i := 46) rfl)) hy_X4_take ⟨Nat.le_of_ble_eq_true rfl, Nat.le_of_ble_eq_true rfl⟩, (C.1.2.2.2.2 _ (List.mem_of_getElem? (i := 48) rfl)), (C.1.2.2.2.2 _ (List.mem_of_getElem? (i := 49) rfl))⟩) rfl rfl (Nat.le_of_ble_eq_true rfl) dX5_deliver_38 ⟨(Nat.le_of_ble_eq_true rfl), (Nat.le_of_ble_eq_true rfl)⟩ (fun w9 r M1 h9 => ?_)
            obtain ⟨Ir4, Rr5⟩ := w9
            obtain ⟨rfl, adr', rfl⟩ := h9
            refine VJ.perm (M' := pf [xW cI cZ o ad I R rf, lW cI cZ (rf 1) adk Ik Rk cmk, qW cU (rf 5) rs, rW cI cZ or adr' (gn nr) Ir4 Rr5]) (vj_pf 4 [3, 0, 1, 2] rfl rfl dp_3_0_1_2).symm ?_
            refine VJ.iincN C 3 (fun v6 => [(3, .int v6), (5, .int r2), (0, .ref o), (2, .ref or), (4, .int x4)]) dX5_deliver_41 rfl (Nat.le_of_ble_eq_true rfl) (fun _ => rfl) (fun v6 => ?_)
            refine VJ.iincN C 4 (fun v7 => [(4, .int v7), (3, .int v6), (5, .int r2), (0, .ref o), (2, .ref or)]) dX5_deliver_44 rfl (Nat.le_of_ble_eq_true rfl) (fun _ => rfl) (fun v7 => ?_)
            refine VJ.goto C 11 dX5_deliver_47 (by decide) ?_
            refine VJ.sub [3, 4, 1, 0] rfl ?_
            exact j11 adr' (gn nr) N Ir4 Rr5 v6 v7
  unfold f_X5_deliver
  refine VJ.aload_n C 0 dX5_deliver_0 rfl ?_
  refine VJ.iload_n C 1 dX5_deliver_1 rfl ?_
  refine VJ.reqR (T := (fun k9 => (k9, 0, nr, Ir, Rr))) (P := fun k9 => (fun (out : Nat × Int32 × Nat × OI × RI) (k' : Nat) (r : Option Value) (M' : va_W) => k' = out.1 ∧ (k' = 0 → r = some (.int out.2.1)) ∧ ∃ adr', M' = pf [xW cI cZ o ad I R rf, lW cI cZ (rf 1) adk Ik Rk cmk, qW cU (rf 5) rs, rW cI cZ or adr' out.2.2.1 out.2.2.2.1 out.2.2.2.2]) (k9, 0, nr, Ir, Rr)) CX [.int x1] (pf [xW cI cZ o ad I R rf, qW cU (rf 5) rs]) (pf [lW cI cZ (rf 1) adk Ik Rk cmk, rW cI cZ or adr nr Ir Rr]) 1 6 rmX5_deliver.cells rmX5_deliver.slots hE (fun _ h9 => c_X5_requireRoll l hl9 G cI cZ cQ cU cJ o ad rf I R rs x1 _ h9) (vj_pf 4 [0, 2, 1, 3] rfl rfl dp_0_2_1_3) 0 rfl rfl (cwV 1 C.1.2.2.2.2 gX5_deliver_X5_requireRoll rfl rfl rfl hyV_X5_requireRoll ⟨Nat.le_of_ble_eq_true rfl, Nat.le_of_ble_eq_true rfl⟩) rfl rfl (Nat.le_of_ble_eq_true rfl) dX5_deliver_2 ⟨Nat.le_of_ble_eq_true rfl, Nat.le_of_ble_eq_true rfl⟩ ⟨rfl, rfl⟩ ⟨Nat.le_of_ble_eq_true rfl, Nat.le_of_ble_eq_true rfl⟩ (fun _ _ h9 => h9) (fun _ => ⟨rfl, fun h9 => absurd h9 (Nat.succ_ne_zero _), adr, rfl⟩) (fun a1 => ?_)
  refine VJ.roe (b := or) (fun e9 => ?_)
  subst e9
  refine VJ.astore_n C [(2, .ref or), (0, .ref o), (1, .int x1)] dX5_deliver_5 (Nat.le_of_ble_eq_true rfl) rfl ?_
  refine VJ.iconst (v := 0) C dX5_deliver_6 (by decide) ?_
  refine VJ.istore_n C [(3, .int 0), (2, .ref or), (0, .ref o), (1, .int x1)] dX5_deliver_7 (Nat.le_of_ble_eq_true rfl) rfl ?_
  refine VJ.iconst (v := 0) C dX5_deliver_8 (by decide) ?_
  refine VJ.istore C [(4, .int 0), (3, .int 0), (2, .ref or), (0, .ref o), (1, .int x1)] dX5_deliver_9 (Nat.le_of_ble_eq_true rfl) rfl ?_
  refine VJ.sub [3, 2, 1, 0] rfl ?_
  exact j12 N Ir Rr 0 0

