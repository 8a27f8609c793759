/-! ===== the law's wrappers: they call and catch ===== -/
section KW
def NC (U : State) : Prop := va_Nc "java/lang/IllegalArgumentException" "java/lang/IndexOutOfBoundsException" U ∧ va_Nc "java/lang/IllegalStateException" "java/lang/IndexOutOfBoundsException" U ∧ va_Nc "java/lang/IllegalStateException" "java/lang/IllegalArgumentException" U
theorem NC.moved {u U : State} (h : u.vm.Alike U.vm) (n : NC u) : NC U := ⟨va_Nc.moved h n.1, va_Nc.moved h n.2.1, va_Nc.moved h n.2.2⟩
def CPreL (G : va_G) (cl : List vw_C) (ty : List (ClassId × FieldType)) (nw : List Cond) (ss : List (String × Nat × String)) (as : List Value) (M : va_W) (sz : Nat) : Array Value → State → Prop := fun a U => CPreX G cl ty nw ss as M sz a U ∧ NC U
theorem CPreL.blind {G : va_G} {cl : List vw_C} {ty : List (ClassId × FieldType)} {nw : List Cond} {ss : List (String × Nat × String)} {as : List Value} {M : va_W} {sz : Nat} : FrameBlind (CPreL G cl ty nw ss as M sz) := fun a U g mk q => ⟨CPreX.blind a U g mk q.1, q.2.moved (u := U) (U := U.calling g mk a) (Vm.Alike.refl U.vm)⟩
def ConW (l : Launch) (y : MethodName) (ws : List Cond) (rm : Room) (G : va_G) (cl : List vw_C) (ty : List (ClassId × FieldType)) (nw : List Cond) (ss : List (String × Nat × String)) (as : List Value) (M : va_W) (P : Nat → Option Value → va_W → Prop) : Prop :=
  ∀ sz : Nat, Met l y ws rm (CPreL G cl ty nw ss as M sz) (CPostX G cl (va_A M sz) P) rm.cells rm.slots (va_A M sz)
def jW (cJ : ClassId) (a : Nat) (g : Nat → Int64) : va_W := [(a, .inl (cJ, 1, .inr (.inl g)))]
section KWrows
variable {p : Program} {l : Launch} {e : Env} {R : Room} {s : State} {m : MethodId} {args : Array Value} {below : List Frame} {meth : Method} {c : Code} {cc : ByteArray} {nL : Nat} {Ts : List Cond} {own : String} {G : va_G} {cl : List vw_C} {ty : List (ClassId × FieldType)} {nw : List Cond} {ss : List (String × Nat × String)} {A : Nat → Prop} {O : Type} {Qf : O → State → Prop} {cells slots : Nat} {f fA fB : Option O} {M : va_W} {pc : Nat} {lv : List (Nat × Value)} {st : List Value}
theorem conW_of {y : MethodName} {ws ws' : List Cond} {rm : Room} {as : List Value} {maxL : Nat} {ret : Option FieldType} {hh : List (Nat × Nat × Nat × Nat)} {P : Nat → Option Value → va_W → Prop} (hl9 : l.stackTraces = false) (hown : y.cls = own) (hy : plainFor y = true) (hw : ws = Cond.codeWith y cc maxL ret hh :: ws') (hlen : (lg_sl as).length ≤ maxL)
    (body : ∀ (p : Program) (e : Env) (s : State) (m : MethodId) (args : Array Value) (below : List Frame) (meth : Method) (c : Code) (A : Nat → Prop), CxX p l s m args meth c cc maxL ws own G cl ty nw ss A → NC s → meth.sig.returnType = ret → c.exceptionTable.toList = tableOf hh →
      VJ p l e rm s m args below meth c maxL G cl A (fun (_ : Unit) t => QN below G cl A args s rm.cells rm.slots P t) 0 0 (some ()) M 0 (lv_args 0 as) []) : ConW l y ws rm G cl ty nw ss as M P := by
  subst hown
  intro sz
  refine MetFree.of_bodySF (code := cc) (maxLocals := maxL) (ret := ret) hy ?_ ?_
  · intro args s m h hn
    obtain ⟨m9, meth, c, hn9, h1, h2, h3, h4, -, h5, h6, -⟩ := Cond.codeWith_spec (atoms_spec (ws := ws) h _ (by rw [hw]; exact List.mem_cons_self))
    cases hn.symm.trans hn9
    exact ⟨meth, c, h1, h2, h3, h4, h5, h6⟩
  · intro p e s m args below meth c s₁ B hml hP9 _
    obtain ⟨⟨rfl, hsz, hP, hK, hD0, hX⟩, hN⟩ := hP9
    subst hsz
    have hh0 : s₁.heap = s.heap := by rw [B.state]; rfl
    have hD := hD0.self (sz := s.heap.size)
    have hts := atoms_spec (ws := ws) B.pre
    have ht : c.exceptionTable.toList = tableOf hh := vx_table (x := y) B (hts _ (by rw [hw]; exact List.mem_cons_self))
    have hb := body p e s m _ below meth c _ ⟨⟨⟨B.exec, B.bytes, hml, findClass_of_methodNamed B.named, hts⟩, hK, fun q h => Or.inr h, B.notSynchronized⟩, hX, hl9⟩ hN B.returns ht () rfl s.heap [] _ hP hD va_S.rf (lv_entry as hlen)
    rw [← lg_entry_eq] at hb
    obtain ⟨t, a1, o, b1, b2, b3⟩ := hb s₁ hh0 (Stand.of_body B)
    exact ⟨t, o, a1, b1, b2, ⟨b3.1, b3.2⟩⟩
theorem VJ.iretN (C : Cx p s m args meth c cc nL Ts own G cl ty nw A) {P : Nat → Option Value → va_W → Prop} {o : O} {v : Int32} (mc ms : Nat) (hQ : ∀ t, QN below G cl A args s mc ms P t → Qf o t) (hP0 : P 0 (some (.int v)) M) (hr : meth.sig.returnType = some .int) (hc : cells ≤ mc) (hs : slots ≤ ms) (hdg : decode cc pc = .ok (.ireturn, 1)) : VJ p l e R s m args below meth c nL G cl A Qf cells slots (some o) M pc lv [.int v] := by
  intro out ho H locs ls hP hD hS hl
  cases ho
  refine vj_mono hQ (W.widen hc hs ?_)
  exact W.iret C.1.1 C.1.2.1 hr (fun t ht hW9 => ⟨⟨_, M, hP0, rfl, by rw [ht]; exact hP, hD⟩, hS.F ht⟩) hS.2.2 hdg C.2.2.2
theorem VJ.lastJ {M1 : va_W} {cJ : ClassId} {a : Nat} {g : Nat → Int64} {x : Int64} {i : Int32} (C : Cx p s m args meth c cc nL Ts own G cl ty nw A) (t0 : Nat) (ht : ty[t0]? = some (cJ, .long)) (hi : i = 0) (hdg : decode cc pc = .ok (.lastore, 1)) (k : VJ p l e R s m args below meth c nL G cl A Qf cells slots f (M1 ++ jW cJ a (vp_updL g 0 x)) (pc + 1) lv st) : VJ p l e R s m args below meth c nL G cl A Qf cells slots f (M1 ++ jW cJ a g) pc lv (.long x :: .int i :: .ref a :: st) := by
  intro out ho H locs ls hP hD hS hl
  subst hi
  have hq : (M1 ++ jW cJ a g)[M1.length]? = some (a, .inl (cJ, 1, .inr (.inl g))) := by simp [jW]
  refine va_last C.1.1 C.1.2.1 C.2.1.1 hP hD hS M1.length t0 hq ht (show ¬ ((0 : Int32) < 0 ∨ 1 ≤ (0 : Int32).toNatClampNeg) from by decide) hdg (fun H1 locs1 hP1 hD1 hS1 => ?_)
  have e9 : (M1 ++ jW cJ a g).set M1.length (a, .inl (cJ, 1, .inr (.inl (vp_updL g (0 : Int32).toNatClampNeg x)))) = M1 ++ jW cJ a (vp_updL g 0 x) := by simp [jW]
  rw [e9] at hP1 hD1
  exact k out ho H1 locs1 ls hP1 hD1 hS1 hl
/-- caught by the row behind pre -/
theorem vj_catch {H : Heap} {locs : List Loc} {ls : Array Slot} {Q : State → Prop} {E : String} {ce : Cell} {q : Addr} {hh pre suf : List (Nat × Nat × Nat × Nat)} {x : Nat × Nat × Nat × Nat} (hown : s.vm.findClass own = some m.cls) (ht : c.exceptionTable.toList = tableOf hh) (hs : hh = pre ++ x :: suf) (hpass : ∀ z ∈ pre, z.2.2.2 ≠ 0 ∧ ∃ nm : String, (Cond.classLink own z.2.2.2 nm).before args s = true ∧ va_Nc E nm s) (hx : covers ⟨x.1, x.2.1, x.2.2.1, x.2.2.2⟩ pc = true) (h0 : x.2.2.2 ≠ 0)
    (hlink : (Cond.classLink own x.2.2.2 E).before args s = true) (hcast : (Cond.castable E E).before args s = true) (hcell : H[q]? = some ce) (hv : ce.vm = .none) (hcl : s.vm.findClass E = some ce.cls)
    (kk : W p l e R s m args below meth c H locs cells slots Q (F0 m x.2.2.1 ls [.ref q])) : vx_W p l e R s m args below meth c H locs cells slots Q (F0 m pc ls st) q := by
  refine vx_catch hown (tableOf pre) ⟨x.1, x.2.1, x.2.2.1, x.2.2.2⟩ (tableOf suf) (by rw [ht, hs]; simp [tableOf]) ?_ hx h0 hlink hcast hcell hv hcl kk
  intro z hz
  obtain ⟨w, hw, rfl⟩ := List.mem_map.mp hz
  exact Or.inr (hpass w hw)
theorem vj_all {α : Type} {P : α → Prop} {x : α} {l : List α} (h : P x) (t : ∀ z ∈ l, P z) : ∀ z ∈ x :: l, P z := fun z hz => (List.mem_cons.mp hz).elim (fun e => by rw [e]; exact h) (t z)
theorem VJ.tryV {y : MethodName} {bytes : ByteArray} {maxL n index : Nat} {ret : Option FieldType} {ws : List Cond} {rm : Room} {b : Nat} {st0 : List Value} {Pc : Nat → Option Value → va_W → Prop} (C : CxX p l s m args meth c cc nL Ts own G cl ty nw ss A) (As : List Value) (wc wr : va_W) (hcon : ConX l y ws rm G cl ty nw ss (.ref b :: As) wc Pc) (hM : M.Perm (wc ++ wr)) (q0 : Nat) {ci : Nat} {fs : List Value} {q : vw_C} (he : wc[q0]? = some (b, .inr (ci, fs))) (hc : cl[ci]? = some q)
    (cw : CallW R s args own q.1 index y bytes maxL ret ws rm rm.cells rm.slots n) (hn : As.length = n) (hst : st0 = As.reverse ++ .ref b :: st) (hroom : (st.map fun v => v.category).sum ≤ 8) (hdg : decode cc pc = .ok (.invokevirtual index, 3)) (hR : cells + rm.cells ≤ R.cells ∧ slots + rm.slots ≤ R.slots)
    (k0 : ∀ r M1, Pc 0 r M1 → VJ p l e R s m args below meth c nL G cl A Qf (cells + rm.cells) (slots + rm.slots) f (M1 ++ wr) (pc + 3) lv (r.toList ++ st))
    (kx : ∀ k r M1, Pc (k + 1) r M1 → ∃ tgt, (∀ (H : Heap) (locs : List Loc) (ls : Array Slot) (Q : State → Prop) (ce : Cell) (q : Addr), H[q]? = some ce → ce.vm = .none → s.vm.findClass (exn (k + 1)) = some ce.cls → W p l e R s m args below meth c H locs (cells + rm.cells) (slots + rm.slots) Q (F0 m tgt ls [.ref q]) → vx_W p l e R s m args below meth c H locs (cells + rm.cells) (slots + rm.slots) Q (F0 m pc ls st) q) ∧
      ∀ q : Nat, VJ p l e R s m args below meth c nL G cl A Qf (cells + rm.cells) (slots + rm.slots) f (M1 ++ wr) tgt lv [.ref q]) : VJ p l e R s m args below meth c nL G cl A Qf cells slots f M pc lv st0 := by
  intro out ho H locs ls hP hD hS hl
  subst hst
  refine vjx_after C.1.2.2.1 hP hD hS hM (vx_runV (As := As) (rest := st) C.1.1 (hcon H.size) cw ⟨CPreX.blind, vj_recv C.1.2.1 hM hP hc he, vj_preX C hM hP hD hS⟩ rfl hn hl.1 rfl (lv_room hroom) hdg hR) ?_ ?_
  · intro r wd H1 locs1 h1 hP1 hD1 hS1
    exact k0 r wd h1 out ho H1 locs1 ls hP1 hD1 hS1 hl
  · intro k1 r wd E ce q9 H1 locs1 h1 hE9 hP1 hD1 hS1 hce hcv hcl
    subst hE9
    obtain ⟨tgt, h2, h3⟩ := kx k1 r wd h1
    exact h2 H1 locs1 ls _ ce q9 hce hcv hcl (h3 q9 out ho H1 locs1 ls hP1 hD1 hS1 hl)
end KWrows
end KW
