section KX3
variable {p : Program} {l : Launch} {e : Env} {R : Room} {s : State} {m : MethodId} {args : Array Value} {below : List Frame} {meth : Method} {c : Code} {cc : ByteArray} {nL : Nat} {Ts : List Cond} {own : String} {G : va_G} {cl : List vw_C} {ty : List (ClassId × FieldType)} {nw : List Cond} {ss : List (String × Nat × String)} {A : Nat → Prop} {O : Type} {Qf : O → State → Prop} {cells slots : Nat} {f fA fB : Option O} {M : va_W} {pc : Nat} {lv : List (Nat × Value)} {st : List Value}
theorem QP.mono {mc ms : Nat} {P P' : Nat → Option Value → va_W → Prop} (h : ∀ k r M', P k r M' → P' k r M') {t : State} (q : QP below G cl A args s mc ms P t) : QP below G cl A args s mc ms P' t := by
  obtain ⟨o, h1, h2, h3⟩ := q
  refine ⟨o, h1, h2, ?_⟩
  rcases h3 with ⟨⟨⟨r, M', p1, p2⟩, p3⟩, L, p4⟩ | ⟨q9, e9, E, ce, L, ⟨⟨k, r, M', p1, p2⟩, p3⟩, p4⟩
  · exact Or.inl ⟨⟨⟨r, M', h _ _ _ p1, p2⟩, p3⟩, L, p4⟩
  · exact Or.inr ⟨q9, e9, E, ce, L, ⟨⟨k, r, M', h _ _ _ p1, p2⟩, p3⟩, p4⟩
noncomputable def onw {O' : Type} (AL : List Nat) (K : Nat → Option O') : Option (Nat → Option O') := @ite _ (∀ q, q ∉ AL → ∃ o, K q = some o) (Classical.propDecidable _) (some K) none
theorem onw_spec {O' : Type} {AL : List Nat} {K : Nat → Option O'} {out : Nat → Option O'} (h : onw AL K = some out) : out = K ∧ ∀ q, q ∉ AL → ∃ o, K q = some o := by
  unfold onw at h
  split at h
  · rename_i h9
    cases h
    exact ⟨rfl, h9⟩
  · cases h
theorem onw_of {O' : Type} {AL : List Nat} {K : Nat → Option O'} (h : ∀ q, q ∉ AL → ∃ o, K q = some o) : onw AL K = some K := by
  unfold onw
  rw [if_pos h]
theorem pool_new {X : List va_W} {AL : List Nat} {AI : Nat → Nat → Int32} {AR : Nat → Nat → Option Nat} {q : Nat} (hq : q ∉ AL) : pf (X ++ [pW AL AI AR]) ++ [(q, .inr (0, [Value.int 0, .int 0, .int 0, .int 0, .int 0, .int 0, .int 0, .int 0, .null, .null]))] = pf (X ++ [pW (AL ++ [q]) (va_up AI q (fun _ => 0)) (va_up AR q (fun _ => none))]) := by
  have h1 : ∀ w : va_W, pf (X ++ [w]) = pf X ++ w := fun w => by simp [pf]
  rw [h1, h1, List.append_assoc]
  congr 1
  unfold pW
  rw [va_pl_push hq]
  apply va_pl_congr
  intro b
  by_cases hb : b = q
  · subst hb
    simp [va_up, pE, va_rf]
  · simp [va_up, pE, hb]
theorem VJ.newA {O' : Type} {Qf : (Nat → Option O') → State → Prop} {Qf' : Nat → O' → State → Prop} {K : Nat → Option O'} {index : Nat} (C : Cx p s m args meth c cc nL Ts own G cl ty nw A) (X : List va_W) (AL : List Nat) (AI : Nat → Nat → Int32) (AR : Nat → Nat → Option Nat) (hQ : ∀ (out : Nat → Option O') (t : State) (q : Nat) (o : O'), q ∉ AL → out q = some o → Qf' q o t → Qf out t) (hM : M = pf (X ++ [pW AL AI AR]))
    (hin : ∀ w ∈ u_ws RX0 TX0 10, w ∈ Ts) (hcl : (Cond.classLink own index RX0).before args s = true) (hinst : (Cond.instantiable RX0 10).before args s = true) (hini : (Cond.initialized RX0).before args s = true) (hc0 : cl[0]? = some (RX0, TX0, 10)) (hcells : cells + 1 ≤ R.cells) (hslots : slots + 10 ≤ R.slots) (hdg : decode cc pc = .ok (.new index, 3))
    (k : ∀ q, q ∉ AL → VJ p l e R s m args below meth c nL G cl A (Qf' q) (cells + 1) (slots + 10) (K q) (pf (X ++ [pW (AL ++ [q]) (va_up AI q (fun _ => 0)) (va_up AR q (fun _ => none))])) (pc + 3) lv (.ref q :: st)) : VJ p l e R s m args below meth c nL G cl A Qf cells slots (onw AL K) M pc lv st := by
  intro out ho H locs ls hP hD hS hl
  subst hM
  obtain ⟨rfl, hK⟩ := onw_spec ho
  refine va_new (ci := 0) (fs := [.int 0, .int 0, .int 0, .int 0, .int 0, .int 0, .int 0, .int 0, .null, .null]) (C := RX0) (T := TX0) (N := 10) C.1.1 C.1.2.1 C.1.2.2.2.2 hin tyX0 tyX0_ok C.1.2.2.2.1 hcl hinst hini C.2.1.1 hP hD hS C.2.2.1 hc0 ?_ hcells hslots hdg (fun q H1 hP1 hD1 hS1 => ?_)
  · intro j hj
    match j, hj with
    | 0, _ => rfl
    | 1, _ => rfl
    | 2, _ => rfl
    | 3, _ => rfl
    | 4, _ => rfl
    | 5, _ => rfl
    | 6, _ => rfl
    | 7, _ => rfl
    | 8, _ => rfl
    | 9, _ => rfl
  · have hq : q ∉ AL := by
      intro hm
      have h1 : (q, pE AI AR q) ∈ pf (X ++ [pW AL AI AR]) := by
        have h2 : pf (X ++ [pW AL AI AR]) = pf X ++ pW AL AI AR := by simp [pf]
        rw [h2]
        exact List.mem_append_right _ (List.mem_map.mpr ⟨q, hm, rfl⟩)
      have h3 := (List.pairwise_append.mp (vj_Dm.mp hD1).1).2.2 _ h1 _ (List.mem_singleton.mpr rfl)
      exact h3 rfl
    obtain ⟨o, ho9⟩ := hK q hq
    rw [pool_new hq] at hP1 hD1
    exact vj_mono (fun t ht => hQ _ t q o hq ho9 ht) (k q hq o ho9 H1 locs ls hP1 hD1 hS1 hl)
theorem VJ.objInit {idx : Nat} {a : Nat} (C : Cx p s m args meth c cc nL Ts own G cl ty nw A) (hlink : (Cond.methodLink own idx Lib.objectInit).before args s = true) (hinst : (Cond.instanceMethod Lib.objectInit).before args s = true) (hcode : (Cond.code Lib.objectInit ⟨#[0xb1]⟩ 1 none).before args s = true) (hd : decode cc pc = .ok (.invokespecial idx, 3)) (hframes : 1 ≤ R.frames) (hlocals : (st.map fun v => v.category).sum + 12 ≤ R.locals)
    (k : VJ p l e R s m args below meth c nL G cl A Qf cells slots f M (pc + 3) lv st) : VJ p l e R s m args below meth c nL G cl A Qf cells slots f M pc lv (.ref a :: st) :=
  fun out ho H locs ls hP hD hS hl => W.objInit C.1.1 C.1.2.1 C.1.2.2.2.1 hlink hinst hcode rfl (hl.1.trans C.1.2.2.1.symm) rfl hd hframes (by
    have h0 : 2 * (F0 m pc ls (.ref a :: st)).monitorRoom = 0 := rfl
    omega) (k out ho H locs ls hP hD hS hl)
theorem VJ.putFF {C0 : String} {T : u_T} {N ci index : Nat} {ref : String} {a : Nat} {fs : List Value} (C : Cx p s m args meth c cc nL Ts own G cl ty nw A) (hin : ∀ w ∈ u_ws C0 T N, w ∈ Ts) (q0 : Nat) (he : M[q0]? = some (a, .inr (ci, fs))) (hc : cl[ci]? = some (C0, T, N)) (j : Nat) (hj : j < N) (hlink : (Cond.fieldLink own index ref (T j).2.1 (T j).2.2.1).before args s = true) (hsame : ∀ x, s.fieldFound? (T j).1 (T j).2.1 (T j).2.2.1 = some x → s.fieldFound? ref (T j).2.1 (T j).2.2.1 = some x) (M' : va_W) (ty0 : Nat → FieldType) (hty : ∀ k, k < N → parseFieldDescriptor (T k).2.2.1 = some (ty0 k)) (hnm : ∀ a, a < N → ∀ b, b < N → a ≠ b → (T a).2.1 ≠ (T b).2.1) (hfin : (T j).2.2.2 = true) (hin2 : meth.name = "<init>") (hdecl : (T j).1 = own) {fty : FieldType} {v : Value} (hd : parseFieldDescriptor (T j).2.2.1 = some fty) (hn : narrow fty v = v) (hfit : fits fty v = true) (hlen : j < fs.length) (hM : va_D A M → M.set q0 (a, .inr (ci, fs.set j v)) = M') (hdg : decode cc pc = .ok (.putfield index, 3))
    (k : VJ p l e R s m args below meth c nL G cl A Qf cells slots f M' (pc + 3) lv st) : VJ p l e R s m args below meth c nL G cl A Qf cells slots f M pc lv (v :: .ref a :: st) :=
  fun out ho H locs ls hP hD hS hl => va_putF (D := G) (cl := cl) C.1.1 C.1.2.1 C.1.2.2.2.2 hin ty0 hty hnm C.1.2.2.2.1 C.2.1.1 hP hD hS q0 he hc j hj hlink hsame hfin hin2 hdecl hd hn hfit hlen hdg (fun H1 locs1 hP1 hD1 hS1 => by rw [hM hD] at hP1 hD1; exact k out ho H1 locs1 ls hP1 hD1 hS1 hl)
end KX3
