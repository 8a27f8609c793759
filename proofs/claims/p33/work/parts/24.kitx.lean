/-! ===== methods that throw or make objects: contracts over a relation P of (0 or the exception's number, answer, world behind) ===== -/
section KX
def exn (k : Nat) : String := if k = 1 then "java/lang/IndexOutOfBoundsException" else if k = 2 then "java/lang/IllegalArgumentException" else "java/lang/IllegalStateException"
def EX (ss : List (String × Nat × String)) (A : Nat → Prop) (U : State) (H : Heap) : Prop := vx_Zq Bundle.tN "UNASSIGNED_STACK" Bundle.steD A U H ∧ vx_Zq Bundle.tN "SUPPRESSED_SENTINEL" Bundle.listD A U H ∧ ∀ q ∈ ss, ∃ sa, vk_R q.1 q.2.1 q.2.2 sa U
theorem EX.to {ss : List (String × Nat × String)} {A B : Nat → Prop} {s U : State} {H0 H : Heap} (hW : s.WarmedH U.vm) (hq : ∀ a : Nat, a < H0.size → ¬ A a → H[a]? = H0[a]?) (hAB : ∀ q, B q → A q) (h : EX ss A s H0) : EX ss B U H :=
  ⟨((h.1.moved hW.alike).kept hq).narrow hAB, ((h.2.1.moved hW.alike).kept hq).narrow hAB, fun q hq9 => by obtain ⟨sa, h9⟩ := h.2.2 q hq9; exact ⟨sa, h9.warm hW⟩⟩
theorem EX.same {ss : List (String × Nat × String)} {A : Nat → Prop} {U : State} {H : Heap} {g : JFrame} {mk : MethodId} {a : Array Value} (h : EX ss A U H) : EX ss A (U.calling g mk a) H :=
  ⟨h.1.moved (u := U) (U := U.calling g mk a) (Vm.Alike.refl U.vm), h.2.1.moved (u := U) (U := U.calling g mk a) (Vm.Alike.refl U.vm), fun q hq9 => by obtain ⟨sa, h9⟩ := h.2.2 q hq9; exact ⟨sa, h9.same rfl⟩⟩
def CPreX (G : va_G) (cl : List vw_C) (ty : List (ClassId × FieldType)) (nw : List Cond) (ss : List (String × Nat × String)) (as : List Value) (M : va_W) (sz : Nat) : Array Value → State → Prop :=
  va_Pc as (fun U => U.heap.size = sz ∧ va_P G cl M U.heap ∧ EK G cl ty nw U ∧ va_D (fun _ => True) M ∧ EX ss (va_A M sz) U U.heap)
theorem CPreX.blind {G : va_G} {cl : List vw_C} {ty : List (ClassId × FieldType)} {nw : List Cond} {ss : List (String × Nat × String)} {as : List Value} {M : va_W} {sz : Nat} : FrameBlind (CPreX G cl ty nw ss as M sz) := by
  intro a U g mk q
  obtain ⟨q0, q1, qP, qK, qD, qE⟩ := q
  exact ⟨q0, q1, qP, qK.same, qD, qE.same⟩
def CPostX (G : va_G) (cl : List vw_C) (A : Nat → Prop) (P : Nat → Option Value → va_W → Prop) : Array Value → State → Outcome → State → Prop := fun _ st oc t => (∃ r M', P 0 r M' ∧ oc = .returned r ∧ va_P G cl M' t.heap ∧ va_D A M') ∧ va_F A st t
def CThr (G : va_G) (cl : List vw_C) (A : Nat → Prop) (P : Nat → Option Value → va_W → Prop) : String → State → State → Prop := fun E st t => (∃ k r M', P (k + 1) r M' ∧ E = exn (k + 1) ∧ va_P G cl M' t.heap ∧ va_D A M') ∧ va_F A st t
/-- the contract of a method that throws, or makes: P 0 r M': it returns r in the world M'; P (k+1) r M': it throws the exception of number k+1 there -/
def ConX (l : Launch) (y : MethodName) (ws : List Cond) (rm : Room) (G : va_G) (cl : List vw_C) (ty : List (ClassId × FieldType)) (nw : List Cond) (ss : List (String × Nat × String)) (as : List Value) (M : va_W) (P : Nat → Option Value → va_W → Prop) : Prop :=
  ∀ sz : Nat, vx_Met l y ws rm (CPreX G cl ty nw ss as M sz) (CPostX G cl (va_A M sz) P) (CThr G cl (va_A M sz) P) rm.cells rm.slots (va_A M sz)
/-- .. of one that never throws -/
def ConP (l : Launch) (y : MethodName) (ws : List Cond) (rm : Room) (G : va_G) (cl : List vw_C) (ty : List (ClassId × FieldType)) (nw : List Cond) (as : List Value) (M : va_W) (P : Nat → Option Value → va_W → Prop) : Prop :=
  ∀ sz : Nat, Met l y ws rm (CPre G cl ty nw as M sz) (CPostX G cl (va_A M sz) P) rm.cells rm.slots (va_A M sz)
def QP (below : List Frame) (G : va_G) (cl : List vw_C) (A : Nat → Prop) (args : Array Value) (s : State) (mc ms : Nat) (P : Nat → Option Value → va_W → Prop) : State → Prop := vx_MQ below (CPostX G cl A P) (CThr G cl A P) args s mc ms A
def QN (below : List Frame) (G : va_G) (cl : List vw_C) (A : Nat → Prop) (args : Array Value) (s : State) (mc ms : Nat) (P : Nat → Option Value → va_W → Prop) : State → Prop := MQ below (CPostX G cl A P) args s mc ms A
def CxX (p : Program) (l : Launch) (s : State) (m : MethodId) (args : Array Value) (meth : Method) (c : Code) (cc : ByteArray) (nL : Nat) (Ts : List Cond) (own : String) (G : va_G) (cl : List vw_C) (ty : List (ClassId × FieldType)) (nw : List Cond) (ss : List (String × Nat × String)) (A : Nat → Prop) : Prop :=
  Cx p s m args meth c cc nL Ts own G cl ty nw A ∧ EX ss A s s.heap ∧ l.stackTraces = false
section KXrows
variable {p : Program} {l : Launch} {e : Env} {R : Room} {s : State} {m : MethodId} {args : Array Value} {below : List Frame} {meth : Method} {c : Code} {cc : ByteArray} {nL : Nat} {Ts : List Cond} {own : String} {G : va_G} {cl : List vw_C} {ty : List (ClassId × FieldType)} {nw : List Cond} {ss : List (String × Nat × String)} {A : Nat → Prop} {O : Type} {Qf : O → State → Prop} {cells slots : Nat} {f fA fB : Option O} {M : va_W} {pc : Nat} {lv : List (Nat × Value)} {st : List Value}
theorem vj_mono {H : Heap} {locs : List Loc} {Q Q' : State → Prop} {g : JFrame} (h : ∀ t, Q t → Q' t) (k : W p l e R s m args below meth c H locs cells slots Q g) : W p l e R s m args below meth c H locs cells slots Q' g := fun T hT X => by
  obtain ⟨t, a1, b1⟩ := k T hT X
  exact ⟨t, a1, h t b1⟩
theorem VJ.mono {Qf' : O → State → Prop} (h : ∀ o t, Qf' o t → Qf o t) (k : VJ p l e R s m args below meth c nL G cl A Qf' cells slots f M pc lv st) : VJ p l e R s m args below meth c nL G cl A Qf cells slots f M pc lv st :=
  fun out ho H locs ls hP hD hS hl => vj_mono (h out) (k out ho H locs ls hP hD hS hl)
theorem VJ.iretP (C : Cx p s m args meth c cc nL Ts own G cl ty nw A) {P : Nat → Option Value → va_W → Prop} {o : O} {v : Int32} (mc ms : Nat) (hQ : ∀ t, QP below G cl A args s mc ms P t → Qf o t) (hP0 : P 0 (some (.int v)) M) (hr : meth.sig.returnType = some .int) (hc : cells ≤ mc) (hs : slots ≤ ms) (hdg : decode cc pc = .ok (.ireturn, 1)) : VJ p l e R s m args below meth c nL G cl A Qf cells slots (some o) M pc lv [.int v] := by
  intro out ho H locs ls hP hD hS hl
  cases ho
  refine vj_mono hQ (vx_ret (W.widen hc hs ?_))
  exact W.iret C.1.1 C.1.2.1 hr (fun t ht hW9 => ⟨⟨_, M, hP0, rfl, by rw [ht]; exact hP, hD⟩, hS.F ht⟩) hS.2.2 hdg C.2.2.2
theorem VJ.zretP (C : Cx p s m args meth c cc nL Ts own G cl ty nw A) {P : Nat → Option Value → va_W → Prop} {o : O} {v : Int32} {rty : FieldType} (mc ms : Nat) (hn : narrow rty (.int v) = .int v) (hQ : ∀ t, QP below G cl A args s mc ms P t → Qf o t) (hP0 : P 0 (some (.int v)) M) (hr : meth.sig.returnType = some rty) (hc : cells ≤ mc) (hs : slots ≤ ms) (hdg : decode cc pc = .ok (.ireturn, 1)) : VJ p l e R s m args below meth c nL G cl A Qf cells slots (some o) M pc lv [.int v] := by
  intro out ho H locs ls hP hD hS hl
  cases ho
  refine vj_mono hQ (vx_ret (W.widen hc hs ?_))
  exact W.zret C.1.1 C.1.2.1 hr hn (fun t ht hW9 => ⟨⟨_, M, hP0, rfl, by rw [ht]; exact hP, hD⟩, hS.F ht⟩) hS.2.2 hdg C.2.2.2
theorem VJ.vretP (C : Cx p s m args meth c cc nL Ts own G cl ty nw A) {P : Nat → Option Value → va_W → Prop} {o : O} (mc ms : Nat) (hQ : ∀ t, QP below G cl A args s mc ms P t → Qf o t) (hP0 : P 0 none M) (hr : meth.sig.returnType = none) (hc : cells ≤ mc) (hs : slots ≤ ms) (hdg : decode cc pc = .ok (.return_, 1)) : VJ p l e R s m args below meth c nL G cl A Qf cells slots (some o) M pc lv [] := by
  intro out ho H locs ls hP hD hS hl
  cases ho
  refine vj_mono hQ (vx_ret (W.widen hc hs ?_))
  exact W.vret C.1.1 C.1.2.1 hr (fun t ht hW9 => ⟨⟨_, M, hP0, rfl, by rw [ht]; exact hP, hD⟩, hS.F ht⟩) hS.2.2 hdg C.2.2.2
theorem VJ.vretN (C : Cx p s m args meth c cc nL Ts own G cl ty nw A) {P : Nat → Option Value → va_W → Prop} {o : O} (mc ms : Nat) (hQ : ∀ t, QN below G cl A args s mc ms P t → Qf o t) (hP0 : P 0 none M) (hr : meth.sig.returnType = none) (hc : cells ≤ mc) (hs : slots ≤ ms) (hdg : decode cc pc = .ok (.return_, 1)) : VJ p l e R s m args below meth c nL G cl A Qf cells slots (some o) M pc lv [] := by
  intro out ho H locs ls hP hD hS hl
  cases ho
  refine vj_mono hQ (W.widen hc hs ?_)
  exact W.vret C.1.1 C.1.2.1 hr (fun t ht hW9 => ⟨⟨_, M, hP0, rfl, by rw [ht]; exact hP, hD⟩, hS.F ht⟩) hS.2.2 hdg C.2.2.2
theorem VJ.aretP (C : Cx p s m args meth c cc nL Ts own G cl ty nw A) {P : Nat → Option Value → va_W → Prop} {o : O} {a : Nat} {rn : String} (mc ms : Nat) (hQ : ∀ t, QP below G cl A args s mc ms P t → Qf o t) (hP0 : P 0 (some (.ref a)) M) (hr : meth.sig.returnType = some (.object rn)) (hc : cells ≤ mc) (hs : slots ≤ ms) (hdg : decode cc pc = .ok (.areturn, 1)) : VJ p l e R s m args below meth c nL G cl A Qf cells slots (some o) M pc lv [.ref a] := by
  intro out ho H locs ls hP hD hS hl
  cases ho
  refine vj_mono hQ (vx_ret (W.widen hc hs ?_))
  exact W.aret C.1.1 C.1.2.1 hr (Or.inl ⟨rn, rfl⟩) (Or.inr ⟨a, rfl⟩) (fun t ht hW9 => ⟨⟨_, M, hP0, rfl, by rw [ht]; exact hP, hD⟩, hS.F ht⟩) hS.2.2 hdg C.2.2.2
theorem vj_thr {H : Heap} {locs : List Loc} {k : Nat} {P : Nat → Option Value → va_W → Prop} {r : Option Value} {t : State} (hP0 : P (k + 1) r M) (hP : va_P G cl M H) (hD : va_D A M) (hS : va_S A s.heap H locs) (h1 : H.size ≤ t.heap.size) (h2 : ∀ q : Nat, q < H.size → t.heap[q]? = H[q]?) : CThr G cl A P (exn (k + 1)) s t :=
  ⟨⟨k, r, M, hP0, rfl, hP.kept (fun k q hk => h2 q.1 (hP k q hk).lt), hD⟩, Nat.le_trans hS.1 h1, fun q h3 h4 => by rw [h2 q (Nat.lt_of_lt_of_le h3 hS.1)]; exact hS.2.1 q h3 h4⟩
theorem VJ.throwS (C : CxX p l s m args meth c cc nL Ts own G cl ty nw ss A) {P : Nat → Option Value → va_W → Prop} {o : O} {r : Option Value} (k mc ms : Nat) {text : String} {ik is ic : Nat} (hE : ∀ x ∈ c.exceptionTable.toList, False) (hQ : ∀ t, QP below G cl A args s mc ms P t → Qf o t) (hP0 : P (k + 1) r M)
    (hfit : Bundle.fit (exn (k + 1)) = true) (hk : (Cond.classLink own ik (exn (k + 1))).before args s = true) (hini : (Cond.initialized (exn (k + 1))).before args s = true) (hstr : (own, is, text) ∈ ss)
    (hat : ∀ w ∈ vx_atS own ic (exn (k + 1)) ["java/lang/RuntimeException", "java/lang/Exception"], w.before args s = true)
    (hgood : ∀ w ∈ Cond.classLink own ik (exn (k + 1)) :: Cond.initialized (exn (k + 1)) :: vx_atS own ic (exn (k + 1)) ["java/lang/RuntimeException", "java/lang/Exception"], vx_ot w = true)
    (d0 : decode cc pc = .ok (.new ik, 3)) (d3 : decode cc (pc + 3) = .ok (.dup, 1)) (d4 : decode cc (pc + 4) = .ok (.ldc is, 2)) (d6 : decode cc (pc + 6) = .ok (.invokespecial ic, 3)) (d9 : decode cc (pc + 9) = .ok (.athrow, 1))
    (hRf : 2 + 3 < R.frames) (hRl : (st.map fun v => v.category).sum + (13 * (2 + 1) + 43) ≤ R.locals) (hRc : cells + 1 ≤ R.cells) (hRs : slots + 6 ≤ R.slots) (hc : cells + 1 ≤ mc) (hs : slots + 6 ≤ ms) : VJ p l e R s m args below meth c nL G cl A Qf cells slots (some o) M pc lv st := by
  intro out ho H locs ls hP hD hS hl
  cases ho
  obtain ⟨C, ⟨e1, e2, e3⟩, htr⟩ := C
  obtain ⟨sa, hsa⟩ := e3 _ hstr
  refine vj_mono hQ ?_
  exact vx_throwS (names := ["java/lang/RuntimeException", "java/lang/Exception"]) C.1.1 C.1.2.1 htr C.1.2.2.2.1 hfit (by decide +kernel) hk hini hsa hat hgood e1 e2 hS (hl.1.trans C.1.2.2.1.symm) d0 d3 d4 d6 d9 (fun x hx => (hE x hx).elim) hRf hRl hRc hRs C.2.2.2 (fun t _ h1 h2 => vj_thr hP0 hP hD hS h1 h2) hS.2.2 hc hs
theorem VJ.throwSW (C : CxX p l s m args meth c cc nL Ts own G cl ty nw ss A) {P : Nat → Option Value → va_W → Prop} {o : O} {r : Option Value} (k mc ms : Nat) {text : String} {ik is ic : Nat} (hE : ∀ x ∈ c.exceptionTable.toList, False) (hQ : ∀ t, QP below G cl A args s mc ms P t → Qf o t) (hP0 : P (k + 1) r M)
    (hfit : Bundle.fit (exn (k + 1)) = true) (hk : (Cond.classLink own ik (exn (k + 1))).before args s = true) (hini : (Cond.initialized (exn (k + 1))).before args s = true) (hstr : (own, is, text) ∈ ss)
    (hat : ∀ w ∈ vx_atS own ic (exn (k + 1)) ["java/lang/RuntimeException", "java/lang/Exception"], w.before args s = true)
    (hgood : ∀ w ∈ Cond.classLink own ik (exn (k + 1)) :: Cond.initialized (exn (k + 1)) :: vx_atS own ic (exn (k + 1)) ["java/lang/RuntimeException", "java/lang/Exception"], vx_ot w = true)
    (d0 : decode cc pc = .ok (.new ik, 3)) (d3 : decode cc (pc + 3) = .ok (.dup, 1)) (d4 : decode cc (pc + 4) = .ok (.ldc_w is, 3)) (d7 : decode cc (pc + 7) = .ok (.invokespecial ic, 3)) (d10 : decode cc (pc + 10) = .ok (.athrow, 1))
    (hRf : 2 + 3 < R.frames) (hRl : (st.map fun v => v.category).sum + (13 * (2 + 1) + 43) ≤ R.locals) (hRc : cells + 1 ≤ R.cells) (hRs : slots + 6 ≤ R.slots) (hc : cells + 1 ≤ mc) (hs : slots + 6 ≤ ms) : VJ p l e R s m args below meth c nL G cl A Qf cells slots (some o) M pc lv st := by
  intro out ho H locs ls hP hD hS hl
  cases ho
  obtain ⟨C, ⟨e1, e2, e3⟩, htr⟩ := C
  obtain ⟨sa, hsa⟩ := e3 _ hstr
  refine vj_mono hQ ?_
  exact vx_throwSW (names := ["java/lang/RuntimeException", "java/lang/Exception"]) C.1.1 C.1.2.1 htr C.1.2.2.2.1 hfit (by decide +kernel) hk hini hsa hat hgood e1 e2 hS (hl.1.trans C.1.2.2.1.symm) d0 d3 d4 d7 d10 (fun x hx => (hE x hx).elim) hRf hRl hRc hRs C.2.2.2 (fun t _ h1 h2 => vj_thr hP0 hP hD hS h1 h2) hS.2.2 hc hs
/-- the words of a throw, in two: those of the method's list, and that the class can be cast to itself -/
theorem vj_hat {k ic : Nat} (C : Cx p s m args meth c cc nL Ts own G cl ty nw A) (h1 : ∀ w ∈ (vx_atS own ic (exn (k + 1)) ["java/lang/RuntimeException", "java/lang/Exception"]).filter goodWord, w ∈ Ts) (h2 : ∀ w ∈ (vx_atS own ic (exn (k + 1)) ["java/lang/RuntimeException", "java/lang/Exception"]).filter (fun w => !goodWord w), w ∈ [Cond.castable (exn (k + 1)) (exn (k + 1)), .declares (Bundle.initS "java/lang/RuntimeException"), .declares (Bundle.initS "java/lang/Exception"), .declares (Bundle.initS "java/lang/Throwable")]) (h3 : ∀ w ∈ [Cond.castable (exn (k + 1)) (exn (k + 1)), .declares (Bundle.initS "java/lang/RuntimeException"), .declares (Bundle.initS "java/lang/Exception"), .declares (Bundle.initS "java/lang/Throwable")], w ∈ nw ∧ w.onTables = true) : ∀ w ∈ vx_atS own ic (exn (k + 1)) ["java/lang/RuntimeException", "java/lang/Exception"], w.before args s = true :=
  vx_hat (fun w hw => C.1.2.2.2.2 w (h1 w hw)) h2 (fun w hw => by
    exact va_Nw.use (h3 w hw).2 (C.2.1.2 _ (h3 w hw).1).2)
end KXrows
theorem conX_of {l : Launch} {y : MethodName} {ws ws' : List Cond} {rm : Room} {G : va_G} {cl : List vw_C} {ty : List (ClassId × FieldType)} {nw : List Cond} {ss : List (String × Nat × String)} {as : List Value} {M : va_W} {P : Nat → Option Value → va_W → Prop} {cc : ByteArray} {maxL : Nat} {ret : Option FieldType} {own : String} {O : Type} {f : Option O} {out : O} {Qf : O → (List Frame → (Nat → Prop) → Array Value → State → State → Prop)} (hl9 : l.stackTraces = false) (hown : y.cls = own) (hy : plainName y.cls = true) (hw : ws = Cond.code y cc maxL ret :: ws') (hlen : (lg_sl as).length ≤ maxL)
    (hQ : ∀ below A args s t, Qf out below A args s t → QP below G cl A args s rm.cells rm.slots P t)
    (body : ∀ (p : Program) (e : Env) (s : State) (m : MethodId) (args : Array Value) (below : List Frame) (meth : Method) (c : Code) (A : Nat → Prop), CxX p l s m args meth c cc maxL ws own G cl ty nw ss A → meth.sig.returnType = ret → (∀ x ∈ c.exceptionTable.toList, False) →
      VJ p l e rm s m args below meth c maxL G cl A (fun o t => Qf o below A args s t) 0 0 f M 0 (lv_args 0 as) []) (hf : f = some out) : ConX l y ws rm G cl ty nw ss as M P := by
  subst hown
  intro sz
  refine vx_ofW (cc := cc) (maxL := maxL) (ret := ret) hy hw ?_
  intro p e s m args below meth c s₁ B hml hE hv
  obtain ⟨rfl, hsz, hP, hK, hD0, hX⟩ := hv
  subst hsz
  have hD := hD0.self (sz := s.heap.size)
  rw [lg_entry_eq]
  exact vj_mono (hQ _ _ _ _) (body p e s m _ below meth c _ ⟨⟨⟨B.exec, B.bytes, hml, findClass_of_methodNamed B.named, atoms_spec (ws := ws) B.pre⟩, hK, fun q h => Or.inr h, B.notSynchronized⟩, hX, hl9⟩ B.returns hE out hf s.heap [] _ hP hD va_S.rf (lv_entry as hlen))
end KX
