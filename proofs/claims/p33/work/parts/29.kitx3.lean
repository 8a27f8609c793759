section KX3
variable {p : Program} {l : Launch} {e : Env} {R : Room} {s : State} {m : MethodId} {args : Array Value} {below : List Frame} {meth : Method} {c : Code} {cc : ByteArray} {nL : Nat} {Ts : List Cond} {own : String} {G : va_G} {cl : List vw_C} {ty : List (ClassId × FieldType)} {nw : List Cond} {ss : List (String × Nat × String)} {A : Nat → Prop} {O : Type} {Qf : O → State → Prop} {cells slots : Nat} {f fA fB : Option O} {M : va_W} {pc : Nat} {lv : List (Nat × Value)} {st : List Value}
theorem QP.mono {mc ms : Nat} {P P' : Nat → Option Value → va_W → Prop} (h : ∀ k r M', P k r M' → P' k r M') {t : State} (q : QP below G cl A args s mc ms P t) : QP below G cl A args s mc ms P' t := by
  obtain ⟨o, h1, h2, h3⟩ := q
  refine ⟨o, h1, h2, ?_⟩
  rcases h3 with ⟨⟨⟨r, M', p1, p2⟩, p3⟩, L, p4⟩ | ⟨q9, e9, E, ce, L, ⟨⟨k, r, M', p1, p2⟩, p3⟩, p4⟩
  · exact Or.inl ⟨⟨⟨r, M', h _ _ _ p1, p2⟩, p3⟩, L, p4⟩
  · exact Or.inr ⟨q9, e9, E, ce, L, ⟨⟨k, r, M', h _ _ _ p1, p2⟩, p3⟩, p4⟩
noncomputable def onw {O' : Type} (AL : List Nat) (K : Nat → Option O') : Option (Nat → Option O') := @ite _ (∀ q, q ∉ AL → ∃ o, K q = some o) (Classical.propDecidable _) (some K) none
theorem onw_spec {O' : Type} {AL : List Nat} {K : Nat → Option O'} {out : Nat → Option O'} (h : onw AL K = some out) : out = K ∧ ∀ q, q ∉ AL → ∃ o, K q = some o := by
  unfold onw at h
  split at h
  · rename_i h9
    cases h
    exact ⟨rfl, h9⟩
  · cases h
theorem onw_of {O' : Type} {AL : List Nat} {K : Nat → Option O'} (h : ∀ q, q ∉ AL → ∃ o, K q = some o) : onw AL K = some K := by
  unfold onw
  rw [if_pos h]
theorem pool_new {X : List va_W} {AL : List Nat} {AI : Nat → Nat → Int32} {AR : Nat → Nat → Option Nat} {q : Nat} (hq : q ∉ AL) : pf (X ++ [pW AL AI AR]) ++ [(q, .inr (0, [Value.int 0, .int 0, .int 0, .int 0, .int 0, .int 0, .int 0, .int 0, .null, .null]))] = pf (X ++ [pW (AL ++ [q]) (va_up AI q (fun _ => 0)) (va_up AR q (fun _ => none))]) := by
  have h1 : ∀ w : va_W, pf (X ++ [w]) = pf X ++ w := fun w => by simp [pf]
  rw [h1, h1, List.append_assoc]
  congr 1
  unfold pW
  rw [va_pl_push hq]
  apply va_pl_congr
  intro b
  by_cases hb : b = q
  · subst hb
    simp [va_up, pE, va_rf]
  · simp [va_up, pE, hb]
theorem VJ.newA {O' : Type} {Qf : (Nat → Option O') → State → Prop} {Qf' : Nat → O' → State → Prop} {K : Nat → Option O'} {index : Nat} (C : Cx p s m args meth c cc nL Ts own G cl ty nw A) (X : List va_W) (AL : List Nat) (AI : Nat → Nat → Int32) (AR : Nat → Nat → Option Nat) (hQ : ∀ (out : Nat → Option O') (t : State) (q : Nat) (o : O'), q ∉ AL → out q = some o → Qf' q o t → Qf out t) (hM : M = pf (X ++ [pW AL AI AR]))
    (hin : ∀ w ∈ u_ws RX0 TX0 10, w ∈ Ts) (hcl : (Cond.classLink own index RX0).before args s = true) (hinst : (Cond.instantiable RX0 10).before args s = true) (hini : (Cond.initialized RX0).before args s = true) (hc0 : cl[0]? = some (RX0, TX0, 10)) (hcells : cells + 1 ≤ R.cells) (hslots : slots + 10 ≤ R.slots) (hdg : decode cc pc = .ok (.new index, 3))
    (k : ∀ q, q ∉ AL → VJ p l e R s m args below meth c nL G cl A (Qf' q) (cells + 1) (slots + 10) (K q) (pf (X ++ [pW (AL ++ [q]) (va_up AI q (fun _ => 0)) (va_up AR q (fun _ => none))])) (pc + 3) lv (.ref q :: st)) : VJ p l e R s m args below meth c nL G cl A Qf cells slots (onw AL K) M pc lv st := by
  intro out ho H locs ls hP hD hS hl
  subst hM
  obtain ⟨rfl, hK⟩ := onw_spec ho
  refine va_new (ci := 0) (fs := [.int 0, .int 0, .int 0, .int 0, .int 0, .int 0, .int 0, .int 0, .null, .null]) (C := RX0) (T := TX0) (N := 10) C.1.1 C.1.2.1 C.1.2.2.2.2 hin tyX0 tyX0_ok C.1.2.2.2.1 hcl hinst hini C.2.1.1 hP hD hS C.2.2.1 hc0 ?_ hcells hslots hdg (fun q H1 hP1 hD1 hS1 => ?_)
  · intro j hj
    match j, hj with
    | 0, _ => rfl
    | 1, _ => rfl
    | 2, _ => rfl
    | 3, _ => rfl
    | 4, _ => rfl
    | 5, _ => rfl
    | 6, _ => rfl
    | 7, _ => rfl
    | 8, _ => rfl
    | 9, _ => rfl
  · have hq : q ∉ AL := by
      intro hm
      have h1 : (q, pE AI AR q) ∈ pf (X ++ [pW AL AI AR]) := by
        have h2 : pf (X ++ [pW AL AI AR]) = pf X ++ pW AL AI AR := by simp [pf]
        rw [h2]
        exact List.mem_append_right _ (List.mem_map.mpr ⟨q, hm, rfl⟩)
      have h3 := (List.pairwise_append.mp (vj_Dm.mp hD1).1).2.2 _ h1 _ (List.mem_singleton.mpr rfl)
      exact h3 rfl
    obtain ⟨o, ho9⟩ := hK q hq
    rw [pool_new hq] at hP1 hD1
    exact vj_mono (fun t ht => hQ _ t q o hq ho9 ht) (k q hq o ho9 H1 locs ls hP1 hD1 hS1 hl)
theorem VJ.objInit {idx : Nat} {a : Nat} (C : Cx p s m args meth c cc nL Ts own G cl ty nw A) (hlink : (Cond.methodLink own idx Lib.objectInit).before args s = true) (hinst : (Cond.instanceMethod Lib.objectInit).before args s = true) (hcode : (Cond.code Lib.objectInit ⟨#[0xb1]⟩ 1 none).before args s = true) (hd : decode cc pc = .ok (.invokespecial idx, 3)) (hframes : 1 ≤ R.frames) (hlocals : (st.map fun v => v.category).sum + 12 ≤ R.locals)
    (k : VJ p l e R s m args below meth c nL G cl A Qf cells slots f M (pc + 3) lv st) : VJ p l e R s m args below meth c nL G cl A Qf cells slots f M pc lv (.ref a :: st) :=
  fun out ho H locs ls hP hD hS hl => W.objInit C.1.1 C.1.2.1 C.1.2.2.2.1 hlink hinst hcode rfl (hl.1.trans C.1.2.2.1.symm) rfl hd hframes (by
    have h0 : 2 * (F0 m pc ls (.ref a :: st)).monitorRoom = 0 := rfl
    omega) (k out ho H locs ls hP hD hS hl)
theorem VJ.putFF {C0 : String} {T : u_T} {N ci index : Nat} {ref : String} {a : Nat} {fs : List Value} (C : Cx p s m args meth c cc nL Ts own G cl ty nw A) (hin : ∀ w ∈ u_ws C0 T N, w ∈ Ts) (q0 : Nat) (he : M[q0]? = some (a, .inr (ci, fs))) (hc : cl[ci]? = some (C0, T, N)) (j : Nat) (hj : j < N) (hlink : (Cond.fieldLink own index ref (T j).2.1 (T j).2.2.1).before args s = true) (hsame : ∀ x, s.fieldFound? (T j).1 (T j).2.1 (T j).2.2.1 = some x → s.fieldFound? ref (T j).2.1 (T j).2.2.1 = some x) (M' : va_W) (ty0 : Nat → FieldType) (hty : ∀ k, k < N → parseFieldDescriptor (T k).2.2.1 = some (ty0 k)) (hnm : ∀ a, a < N → ∀ b, b < N → a ≠ b → (T a).2.1 ≠ (T b).2.1) (hfin : (T j).2.2.2 = true) (hin2 : meth.name = "<init>") (hdecl : (T j).1 = own) {fty : FieldType} {v : Value} (hd : parseFieldDescriptor (T j).2.2.1 = some fty) (hn : narrow fty v = v) (hfit : fits fty v = true) (hlen : j < fs.length) (hM : va_D A M → M.set q0 (a, .inr (ci, fs.set j v)) = M') (hdg : decode cc pc = .ok (.putfield index, 3))
    (k : VJ p l e R s m args below meth c nL G cl A Qf cells slots f M' (pc + 3) lv st) : VJ p l e R s m args below meth c nL G cl A Qf cells slots f M pc lv (v :: .ref a :: st) :=
  fun out ho H locs ls hP hD hS hl => va_putF (D := G) (cl := cl) C.1.1 C.1.2.1 C.1.2.2.2.2 hin ty0 hty hnm C.1.2.2.2.1 C.2.1.1 hP hD hS q0 he hc j hj hlink hsame hfin hin2 hdecl hd hn hfit hlen hdg (fun H1 locs1 hP1 hD1 hS1 => by rw [hM hD] at hP1 hD1; exact k out ho H1 locs1 ls hP1 hD1 hS1 hl)
end KX3
section KX4
variable {p : Program} {l : Launch} {e : Env} {R : Room} {s : State} {m : MethodId} {args : Array Value} {below : List Frame} {meth : Method} {c : Code} {cc : ByteArray} {nL : Nat} {Ts : List Cond} {own : String} {G : va_G} {cl : List vw_C} {ty : List (ClassId × FieldType)} {nw : List Cond} {ss : List (String × Nat × String)} {A : Nat → Prop} {O : Type} {Qf : O → State → Prop} {cells slots : Nat} {f fA fB : Option O} {M : va_W} {pc : Nat} {lv : List (Nat × Value)} {st : List Value}
def adl (L : List Nat) : Nat → Nat := fun k => L.getD k 0
theorem VJ.cM {M' : va_W} (h : M = M') (k : VJ p l e R s m args below meth c nL G cl A Qf cells slots f M' pc lv st) : VJ p l e R s m args below meth c nL G cl A Qf cells slots f M pc lv st := by rw [h]; exact k
theorem VJ.perm {M' : va_W} (h : M.Perm M') (k : VJ p l e R s m args below meth c nL G cl A Qf cells slots f M' pc lv st) : VJ p l e R s m args below meth c nL G cl A Qf cells slots f M pc lv st :=
  fun out ho H locs ls hP hD hS hl => k out ho H locs ls (vj_Pp h hP) (vj_Dp h hD) hS hl
/-- new int[n], new boolean[n], new long[n]: the array's class is the one that is known -/
theorem VJ.newarr {atype : ArrayType} {cA0 : ClassId} {ty1 : FieldType} {n : Int32} {N' : Nat} (C : Cx p s m args meth c cc nL Ts own G cl ty nw A) (t0 : Nat) (a0 : vp_A) (M' : Nat → va_W) (hM : ∀ q, M ++ [(q, .inl (cA0, a0))] = M' q) (ht : ty[t0]? = some (cA0, ty1)) (hty : newarray.typeOf atype = ty1) (hra : ∀ (U : State) (cA : ClassId), va_RA U cA ty1 → U.vm.findClass ("[" ++ ty1.toString) = some cA) (harr : (Cond.arrayClass (newarray.typeOf atype)).before args s = true) (ha : ∀ cA : ClassId, vp_cell cA a0 = arrV cA N' (fun _ => defaultValue ty1)) (hn : ¬ n < 0) (hN : n.toNatClampNeg = N') (hbytes : N' * componentBytes ty1 ≤ 536870912) (hcells : cells + 1 ≤ R.cells) (hslots : slots + N' ≤ R.slots) (hdg : decode cc pc = .ok (.newarray atype, 2))
    (k : ∀ q, VJ p l e R s m args below meth c nL G cl A Qf (cells + 1) (slots + N') f (M' q) (pc + 2) lv (.ref q :: st)) : VJ p l e R s m args below meth c nL G cl A Qf cells slots f M pc lv (.int n :: st) := by
  intro out ho H locs ls hP hD hS hl
  refine va_newa (a0 := a0) C.1.1 C.1.2.1 harr hty C.2.1.1 hP hD hS C.2.2.1 ha hn hN hbytes hcells hslots hdg (fun q cA H1 hK1 hP1 hD1 hS1 => ?_)
  have h1 := hra s cA (hK1.2 ty.length (cA, ty1) (by simp)).2
  have h2 := hra s cA0 (C.2.1.1.2 t0 _ ht).2
  have e1 : cA = cA0 := Option.some.inj (h1.symm.trans h2)
  subst e1
  rw [hM] at hP1 hD1
  exact k q out ho H1 locs ls hP1 hD1 hS1 hl
/-- new C0[n] -/
theorem VJ.newarq {cA0 : ClassId} {C0 : String} {index : Nat} {n : Int32} {N' : Nat} (C : Cx p s m args meth c cc nL Ts own G cl ty nw A) (t0 : Nat) (M' : Nat → va_W) (hM : ∀ q, M ++ [(q, .inl (cA0, N', .inr (.inr (.inr (.inr (fun _ => none))))))] = M' q) (ht : ty[t0]? = some (cA0, .object C0)) (hclink : (Cond.classLink own index C0).before args s = true) (hover : va_AO C0 s) (hn : ¬ n < 0) (hN : n.toNatClampNeg = N') (hbytes : N' * 4 ≤ 536870912) (hcells : cells + 1 ≤ R.cells) (hslots : slots + N' ≤ R.slots) (hdg : decode cc pc = .ok (.anewarray index, 3))
    (k : ∀ q, VJ p l e R s m args below meth c nL G cl A Qf (cells + 1) (slots + N') f (M' q) (pc + 3) lv (.ref q :: st)) : VJ p l e R s m args below meth c nL G cl A Qf cells slots f M pc lv (.int n :: st) := by
  intro out ho H locs ls hP hD hS hl
  refine va_newq C.1.1 C.1.2.1 C.1.2.2.2.1 hclink hover C.2.1.1 hP hD hS C.2.2.1 hn hN hbytes hcells hslots hdg (fun q cA H1 hK1 hP1 hD1 hS1 => ?_)
  obtain ⟨-, -, -, -, -, h1⟩ := (hK1.2 ty.length (cA, .object C0) (by simp)).2
  obtain ⟨-, -, -, -, -, h2⟩ := (C.2.1.1.2 t0 _ ht).2
  have e1 : cA = cA0 := Option.some.inj (h1.symm.trans h2)
  subst e1
  rw [hM] at hP1 hD1
  exact k q out ho H1 locs ls hP1 hD1 hS1 hl
/-- new C0, the fields at their first values -/
theorem VJ.newO {C0 : String} {T : u_T} {N ci index : Nat} {fs : List Value} (C : Cx p s m args meth c cc nL Ts own G cl ty nw A) (M' : Nat → va_W) (hM : ∀ q, M ++ [(q, .inr (ci, fs))] = M' q) (hin : ∀ w ∈ u_ws C0 T N, w ∈ Ts) (ty0 : Nat → FieldType) (hty : ∀ k, k < N → parseFieldDescriptor (T k).2.2.1 = some (ty0 k)) (hcl : (Cond.classLink own index C0).before args s = true) (hinst : (Cond.instantiable C0 N).before args s = true) (hini : (Cond.initialized C0).before args s = true) (hc0 : cl[ci]? = some (C0, T, N)) (hfs : ∀ j, j < N → defaultValue (ty0 j) = vp_V fs j) (hcells : cells + 1 ≤ R.cells) (hslots : slots + N ≤ R.slots) (hdg : decode cc pc = .ok (.new index, 3))
    (k : ∀ q, VJ p l e R s m args below meth c nL G cl A Qf (cells + 1) (slots + N) f (M' q) (pc + 3) lv (.ref q :: st)) : VJ p l e R s m args below meth c nL G cl A Qf cells slots f M pc lv st := by
  intro out ho H locs ls hP hD hS hl
  refine va_new (ci := ci) (fs := fs) (C := C0) (T := T) (N := N) C.1.1 C.1.2.1 C.1.2.2.2.2 hin ty0 hty C.1.2.2.2.1 hcl hinst hini C.2.1.1 hP hD hS C.2.2.1 hc0 hfs hcells hslots hdg (fun q H1 hP1 hD1 hS1 => ?_)
  rw [hM] at hP1 hD1
  exact k q out ho H1 locs ls hP1 hD1 hS1 hl
theorem vjp_after {mc ms : Nat} {a : Array Value} {st0 : List Value} {wc wr : va_W} {H : Heap} {locs : List Loc} {ls : Array Slot} {Q : State → Prop} {Pc : Nat → Option Value → va_W → Prop} (hA : ∀ q, s.heap.size ≤ q → A q) (hP : va_P G cl M H) (hD : va_D A M) (hS : va_S A s.heap H locs) (hM : M.Perm (wc ++ wr))
    (hr : va_Run p l e R s m args below meth c H locs cells slots mc ms (F0 m pc ls st0) st (CPostX G cl (va_A wc H.size) Pc a) (va_A wc H.size))
    (kk : ∀ (r : Option Value) (wd : va_W) (H1 : Heap) (locs1 : List Loc), Pc 0 r wd → va_P G cl (wd ++ wr) H1 → va_D A (wd ++ wr) → va_S A s.heap H1 locs1 → W p l e R s m args below meth c H1 locs1 (cells + mc) (slots + ms) Q (F0 m (pc + 3) ls (r.toList ++ st))) :
    W p l e R s m args below meth c H locs cells slots Q (F0 m pc ls st0) := by
  have hP2 := vj_Pp hM hP
  have hD2 := vj_Dp hM hD
  have hF := vj_free hA hD2 hS
  intro T hT X
  obtain ⟨v, st₀, t, T', L, h0, X', hL, e1, e2, ⟨⟨r, M', hp0, hv, hp, hb⟩, hz, hk⟩, stp⟩ := hr T hT X
  cases hv
  rw [h0] at hz hk
  obtain ⟨j1, j2⟩ := vj_join hP2 hD2 hF hk hp hb
  obtain ⟨t2, a1, b1⟩ := kk v M' T'.heap (locs ++ L) hp0 (by rw [e1]; exact j1) j2
    ⟨Nat.le_trans hS.1 (by rw [e1]; exact hz), fun q h1 h2 => by rw [e1, hk q (Nat.lt_of_lt_of_le h1 hS.1) (fun z => h2 (hF q z))]; exact hS.2.1 q h1 h2, fun q hq => by
      rcases List.mem_append.mp hq with h | h
      · exact hS.2.2 q h
      · exact hF _ (hL q h)⟩ T' rfl X'
  exact ⟨t2, stp t2 a1, b1⟩
/-- a constructor's call: what comes out is said by a relation -/
theorem VJ.initN {host : String} {y : MethodName} {bytes : ByteArray} {maxL n index : Nat} {ws : List Cond} {rm : Room} {b : Nat} {st0 : List Value} {P : Nat → Option Value → va_W → Prop} (C : Cx p s m args meth c cc nL Ts own G cl ty nw A) (As : List Value) (wc wr : va_W) (hcon : ConP l y ws rm G cl ty nw (.ref b :: As) wc P) (hPn : ∀ r M', P 0 r M' → r = none) (hM : M.Perm (wc ++ wr))
    (cw : va_CN R s args own index y host bytes maxL none ws rm rm.cells rm.slots n ∧ y.name = "<init>" ∧ (Cond.instanceMethod y).before args s = true) (hn : As.length = n) (hst : st0 = As.reverse ++ .ref b :: st) (hroom : (st.map fun v => v.category).sum ≤ 8) (hdg : decode cc pc = .ok (.invokespecial index, 3)) (hR : cells + rm.cells ≤ R.cells ∧ slots + rm.slots ≤ R.slots)
    (k : ∀ r M1, P 0 r M1 → VJ p l e R s m args below meth c nL G cl A Qf (cells + rm.cells) (slots + rm.slots) f (M1 ++ wr) (pc + 3) lv st) : VJ p l e R s m args below meth c nL G cl A Qf cells slots f M pc lv st0 := by
  intro out ho H locs ls hP hD hS hl
  subst hst
  exact vjp_after C.2.2.1 hP hD hS hM (va_runIN (As := As) (rest := st) C.1 (hcon H.size) cw ⟨CPre.blind, vj_pre C.2.1 hM hP hD⟩ rfl hn hl.1 rfl (lv_room hroom) hdg hR)
    (fun r M1 H1 locs1 hp hP1 hD1 hS1 => by
      have e1 := hPn r M1 hp
      subst e1
      exact k none M1 hp out ho H1 locs1 ls hP1 hD1 hS1 hl)
theorem VJ.initS {y : MethodName} {bytes : ByteArray} {maxL n index : Nat} {ws : List Cond} {rm : Room} {b : Nat} {st0 : List Value} {P : Nat → Option Value → va_W → Prop} (C : Cx p s m args meth c cc nL Ts own G cl ty nw A) (As : List Value) (wc wr : va_W) (hcon : ConP l y ws rm G cl ty nw (.ref b :: As) wc P) (hPn : ∀ r M', P 0 r M' → r = none) (hM : M.Perm (wc ++ wr))
    (cw : CallB R s args own index y bytes maxL none ws rm rm.cells rm.slots n ∧ y.name = "<init>" ∧ (Cond.instanceMethod y).before args s = true) (hn : As.length = n) (hst : st0 = As.reverse ++ .ref b :: st) (hroom : (st.map fun v => v.category).sum ≤ 8) (hdg : decode cc pc = .ok (.invokespecial index, 3)) (hR : cells + rm.cells ≤ R.cells ∧ slots + rm.slots ≤ R.slots)
    (k : ∀ r M1, P 0 r M1 → VJ p l e R s m args below meth c nL G cl A Qf (cells + rm.cells) (slots + rm.slots) f (M1 ++ wr) (pc + 3) lv st) : VJ p l e R s m args below meth c nL G cl A Qf cells slots f M pc lv st0 := by
  intro out ho H locs ls hP hD hS hl
  subst hst
  exact vjp_after C.2.2.1 hP hD hS hM (va_runI (As := As) (rest := st) C.1 (hcon H.size) cw ⟨CPre.blind, vj_pre C.2.1 hM hP hD⟩ rfl hn hl.1 rfl (lv_room hroom) hdg hR)
    (fun r M1 H1 locs1 hp hP1 hD1 hS1 => by
      have e1 := hPn r M1 hp
      subst e1
      exact k none M1 hp out ho H1 locs1 ls hP1 hD1 hS1 hl)
theorem conP_of {y : MethodName} {ws ws' : List Cond} {rm : Room} {as : List Value} {maxL : Nat} {ret : Option FieldType} {P : Nat → Option Value → va_W → Prop} (hown : y.cls = own) (hy : plainFor y = true) (hw : ws = Cond.code y cc maxL ret :: ws') (hlen : (lg_sl as).length ≤ maxL)
    (body : ∀ (p : Program) (e : Env) (s : State) (m : MethodId) (args : Array Value) (below : List Frame) (meth : Method) (c : Code) (A : Nat → Prop), Cx p s m args meth c cc maxL ws own G cl ty nw A → meth.sig.returnType = ret → meth.name = y.name →
      VJ p l e rm s m args below meth c maxL G cl A (fun (o : O) t => QN below G cl A args s rm.cells rm.slots P t) 0 0 f M 0 (lv_args 0 as) []) {out : O} (hf : f = some out) : ConP l y ws rm G cl ty nw as M P := by
  subst hown
  intro sz
  refine Met.ofWF (cc := cc) (maxL := maxL) (ret := ret) hy hw ?_
  intro p e s m args below meth c s₁ B hml hv
  obtain ⟨rfl, hsz, hP, hK, hD0⟩ := hv
  subst hsz
  have hD := hD0.self (sz := s.heap.size)
  rw [lg_entry_eq]
  exact body p e s m _ below meth c _ ⟨⟨B.exec, B.bytes, hml, findClass_of_methodNamed B.named, atoms_spec (ws := ws) B.pre⟩, hK, fun q h => Or.inr h, B.notSynchronized⟩ B.returns (name_of_methodNamed B.named B.method).1 out hf s.heap [] _ hP hD va_S.rf (lv_entry as hlen)
theorem conP_of2 {y : MethodName} {ws ws' : List Cond} {rm : Room} {as : List Value} {maxL : Nat} {ret : Option FieldType} {Pf : O → Nat → Option Value → va_W → Prop} (hown : y.cls = own) (hy : plainFor y = true) (hw : ws = Cond.code y cc maxL ret :: ws') (hlen : (lg_sl as).length ≤ maxL)
    (body : ∀ (p : Program) (e : Env) (s : State) (m : MethodId) (args : Array Value) (below : List Frame) (meth : Method) (c : Code) (A : Nat → Prop), Cx p s m args meth c cc maxL ws own G cl ty nw A → meth.sig.returnType = ret → meth.name = y.name →
      VJ p l e rm s m args below meth c maxL G cl A (fun (o : O) t => QN below G cl A args s rm.cells rm.slots (Pf o) t) 0 0 f M 0 (lv_args 0 as) []) {out : O} (hf : f = some out) : ConP l y ws rm G cl ty nw as M (Pf out) := by
  subst hown
  intro sz
  refine Met.ofWF (cc := cc) (maxL := maxL) (ret := ret) hy hw ?_
  intro p e s m args below meth c s₁ B hml hv
  obtain ⟨rfl, hsz, hP, hK, hD0⟩ := hv
  subst hsz
  have hD := hD0.self (sz := s.heap.size)
  rw [lg_entry_eq]
  exact body p e s m _ below meth c _ ⟨⟨B.exec, B.bytes, hml, findClass_of_methodNamed B.named, atoms_spec (ws := ws) B.pre⟩, hK, fun q h => Or.inr h, B.notSynchronized⟩ B.returns (name_of_methodNamed B.named B.method).1 out hf s.heap [] _ hP hD va_S.rf (lv_entry as hlen)
def oe {O : Type} (a b : Nat) (k : Option O) : Option O := if a = b then k else none
theorem VJ.roe {a b : Nat} (k : b = a → VJ p l e R s m args below meth c nL G cl A Qf cells slots f M pc lv st) : VJ p l e R s m args below meth c nL G cl A Qf cells slots (oe a b f) M pc lv st := by
  intro out ho
  change (if a = b then f else none) = some out at ho
  split at ho
  · rename_i h
    exact k h.symm out ho
  · cases ho
theorem VJ.newR {O' : Type} {Qf : (Nat → Option O') → State → Prop} {Qf' : Nat → O' → State → Prop} {K : Nat → Option O'} {index : Nat} (C : Cx p s m args meth c cc nL Ts own G cl ty nw A) (X : List va_W) (hQ : ∀ (out : Nat → Option O') (t : State) (q : Nat) (o : O'), out q = some o → Qf' q o t → Qf out t) (hM : M = pf X)
    (hin : ∀ w ∈ u_ws RX4 TX4 5, w ∈ Ts) (hcl : (Cond.classLink own index RX4).before args s = true) (hinst : (Cond.instantiable RX4 5).before args s = true) (hini : (Cond.initialized RX4).before args s = true) (hc0 : cl[4]? = some (RX4, TX4, 5)) (hcells : cells + 1 ≤ R.cells) (hslots : slots + 5 ≤ R.slots) (hdg : decode cc pc = .ok (.new index, 3))
    (k : ∀ q, VJ p l e R s m args below meth c nL G cl A (Qf' q) (cells + 1) (slots + 5) (K q) (pf (X ++ [[(q, .inr (4, [.int 0, .int 0, .null, .null, .int 0]))]])) (pc + 3) lv (.ref q :: st)) : VJ p l e R s m args below meth c nL G cl A Qf cells slots (onw [] K) M pc lv st := by
  intro out ho H locs ls hP hD hS hl
  subst hM
  obtain ⟨rfl, hK⟩ := onw_spec ho
  refine va_new (ci := 4) (fs := [.int 0, .int 0, .null, .null, .int 0]) (C := RX4) (T := TX4) (N := 5) C.1.1 C.1.2.1 C.1.2.2.2.2 hin tyX4 tyX4_ok C.1.2.2.2.1 hcl hinst hini C.2.1.1 hP hD hS C.2.2.1 hc0 ?_ hcells hslots hdg (fun q H1 hP1 hD1 hS1 => ?_)
  · intro j hj
    match j, hj with
    | 0, _ => rfl
    | 1, _ => rfl
    | 2, _ => rfl
    | 3, _ => rfl
    | 4, _ => rfl
  · obtain ⟨o, ho9⟩ := hK q (by simp)
    have e9 : pf X ++ [(q, .inr (4, [Value.int 0, .int 0, .null, .null, .int 0]))] = pf (X ++ [[(q, .inr (4, [.int 0, .int 0, .null, .null, .int 0]))]]) := by simp [pf]
    rw [e9] at hP1 hD1
    exact vj_mono (fun t ht => hQ _ t q o ho9 ht) (k q o ho9 H1 locs ls hP1 hD1 hS1 hl)
end KX4
