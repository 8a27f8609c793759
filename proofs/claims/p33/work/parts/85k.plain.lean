/-! ===== methods of the law that catch nothing ===== -/
section KP
variable {p : Program} {l : Launch} {e : Env} {R : Room} {s : State} {m : MethodId} {args : Array Value} {below : List Frame} {meth : Method} {c : Code} {cc : ByteArray} {nL : Nat} {Ts : List Cond} {own : String} {G : va_G} {cl : List vw_C} {ty : List (ClassId × FieldType)} {nw : List Cond} {ss : List (String × Nat × String)} {A : Nat → Prop} {O : Type} {Qf : O → State → Prop} {cells slots : Nat} {f fA fB : Option O} {M : va_W} {pc : Nat} {lv : List (Nat × Value)} {st : List Value}
theorem conV_of {y : MethodName} {ws ws' : List Cond} {rm : Room} {as : List Value} {maxL : Nat} {ret : Option FieldType} {P : Nat → Option Value → va_W → Prop} (hl9 : l.stackTraces = false) (hown : y.cls = own) (hy : plainFor y = true) (hw : ws = Cond.code y cc maxL ret :: ws') (hlen : (lg_sl as).length ≤ maxL)
    (body : ∀ (p : Program) (e : Env) (s : State) (m : MethodId) (args : Array Value) (below : List Frame) (meth : Method) (c : Code) (A : Nat → Prop), CxX p l s m args meth c cc maxL ws own G cl ty nw ss A → NC s → meth.sig.returnType = ret →
      VJ p l e rm s m args below meth c maxL G cl A (fun (_ : Unit) t => QN below G cl A args s rm.cells rm.slots P t) 0 0 (some ()) M 0 (lv_args 0 as) []) : ConW l y ws rm G cl ty nw ss as M P := by
  subst hown
  intro sz
  refine Met.ofWF (cc := cc) (maxL := maxL) (ret := ret) hy hw ?_
  intro p e s m args below meth c s₁ B hml hv
  obtain ⟨⟨rfl, hsz, hP, hK, hD0, hX⟩, hN⟩ := hv
  subst hsz
  have hD := hD0.self (sz := s.heap.size)
  rw [lg_entry_eq]
  exact body p e s m _ below meth c _ ⟨⟨⟨B.exec, B.bytes, hml, findClass_of_methodNamed B.named, atoms_spec (ws := ws) B.pre⟩, hK, fun q h => Or.inr h, B.notSynchronized⟩, hX, hl9⟩ hN B.returns () rfl s.heap [] _ hP hD va_S.rf (lv_entry as hlen)
theorem VJ.callP {y : MethodName} {bytes : ByteArray} {maxL n index : Nat} {ret : Option FieldType} {ws : List Cond} {rm : Room} {st0 : List Value} {P : Nat → Option Value → va_W → Prop} (C : CxX p l s m args meth c cc nL Ts own G cl ty nw ss A) (hN : NC s) (As : List Value) (hcon : ConW l y ws rm G cl ty nw ss As M P) (cw : CallB R s args own index y bytes maxL ret ws rm rm.cells rm.slots n ∧ (Cond.static y).before args s = true) (hn : As.length = n) (hst : st0 = As.reverse ++ st) (hroom : (st.map fun v => v.category).sum ≤ 8) (hdg : decode cc pc = .ok (.invokestatic index, 3)) (hR : cells + rm.cells ≤ R.cells ∧ slots + rm.slots ≤ R.slots)
    (k : ∀ r M1, P 0 r M1 → VJ p l e R s m args below meth c nL G cl A Qf (cells + rm.cells) (slots + rm.slots) f M1 (pc + 3) lv (r.toList ++ st)) : VJ p l e R s m args below meth c nL G cl A Qf cells slots f M pc lv st0 := by
  intro out ho H locs ls hP hD hS hl
  subst hst
  have hM : M.Perm (M ++ []) := vj_p0 M
  refine vjp_after C.1.2.2.1 hP hD hS hM (va_runS (As := As) (rest := st) C.1.1 (hcon H.size) cw ⟨CPreL.blind, fun U hU hW => ⟨vj_preX C hM hP hD hS U hU hW, hN.moved hW.alike⟩⟩ rfl hn hl.1 rfl (lv_room hroom) hdg hR) (fun r M1 H1 locs1 hp hP1 hD1 hS1 => ?_)
  rw [List.append_nil] at hP1 hD1
  exact k r M1 hp out ho H1 locs1 ls hP1 hD1 hS1 hl
end KP
