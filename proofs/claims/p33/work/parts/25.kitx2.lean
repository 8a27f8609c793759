section KX2
variable {p : Program} {l : Launch} {e : Env} {R : Room} {s : State} {m : MethodId} {args : Array Value} {below : List Frame} {meth : Method} {c : Code} {cc : ByteArray} {nL : Nat} {Ts : List Cond} {own : String} {G : va_G} {cl : List vw_C} {ty : List (ClassId × FieldType)} {nw : List Cond} {ss : List (String × Nat × String)} {A : Nat → Prop} {O : Type} {Qf : O → State → Prop} {cells slots : Nat} {f fA fB : Option O} {M : va_W} {pc : Nat} {lv : List (Nat × Value)} {st : List Value}
theorem vjx_after {mc ms : Nat} {a : Array Value} {st0 : List Value} {wc wr : va_W} {H : Heap} {locs : List Loc} {ls : Array Slot} {Q : State → Prop} {Pc : Nat → Option Value → va_W → Prop} (hA : ∀ q, s.heap.size ≤ q → A q) (hP : va_P G cl M H) (hD : va_D A M) (hS : va_S A s.heap H locs) (hM : M.Perm (wc ++ wr))
    (hr : vx_Run p l e R s m args below meth c H locs cells slots mc ms (F0 m pc ls st0) st (CPostX G cl (va_A wc H.size) Pc a) (CThr G cl (va_A wc H.size) Pc) (va_A wc H.size))
    (kk : ∀ (r : Option Value) (wd : va_W) (H1 : Heap) (locs1 : List Loc), Pc 0 r wd → va_P G cl (wd ++ wr) H1 → va_D A (wd ++ wr) → va_S A s.heap H1 locs1 → W p l e R s m args below meth c H1 locs1 (cells + mc) (slots + ms) Q (F0 m (pc + 3) ls (r.toList ++ st)))
    (kx : ∀ (k : Nat) (r : Option Value) (wd : va_W) (E : String) (ce : Cell) (q : Addr) (H1 : Heap) (locs1 : List Loc), Pc (k + 1) r wd → E = exn (k + 1) → va_P G cl (wd ++ wr) H1 → va_D A (wd ++ wr) → va_S A s.heap H1 locs1 → H1[q]? = some ce → ce.vm = .none → s.vm.findClass E = some ce.cls → vx_W p l e R s m args below meth c H1 locs1 (cells + mc) (slots + ms) Q (F0 m pc ls st) q) :
    W p l e R s m args below meth c H locs cells slots Q (F0 m pc ls st0) := by
  have hP2 := vj_Pp hM hP
  have hD2 := vj_Dp hM hD
  have hF := vj_free hA hD2 hS
  have keep : ∀ (T' t : State) (L : List Loc), T'.heap = t.heap → H.size ≤ t.heap.size → (∀ q : Nat, q < H.size → ¬ va_A wc H.size q → t.heap[q]? = H[q]?) → (∀ q ∈ L, va_A wc H.size q.base) → va_S A s.heap T'.heap (locs ++ L) := by
    intro T' t L e1 hz hk hL
    refine ⟨Nat.le_trans hS.1 (by rw [e1]; exact hz), fun q h1 h2 => by rw [e1, hk q (Nat.lt_of_lt_of_le h1 hS.1) (fun z => h2 (hF q z))]; exact hS.2.1 q h1 h2, fun q hq => ?_⟩
    rcases List.mem_append.mp hq with h | h
    · exact hS.2.2 q h
    · exact hF _ (hL q h)
  intro T hT X
  rcases hr T hT X with ⟨v, st₀, t, T', L, h0, X', hL, e1, e2, ⟨⟨r, M', hp0, hv, hp, hb⟩, hz, hk⟩, stp⟩ | ⟨q, st₀, t, T', L, E, ce, h0, X', hL, e1, e2, ⟨⟨k, r, M', hp0, hE, hp, hb⟩, hz, hk⟩, hce, hcv, hcl, stp⟩
  · cases hv
    rw [h0] at hz hk
    obtain ⟨j1, j2⟩ := vj_join hP2 hD2 hF hk hp hb
    obtain ⟨t2, a1, b1⟩ := kk v M' T'.heap (locs ++ L) hp0 (by rw [e1]; exact j1) j2 (keep T' t L e1 hz hk hL) T' rfl X'
    exact ⟨t2, stp t2 a1, b1⟩
  · rw [h0] at hz hk
    obtain ⟨j1, j2⟩ := vj_join hP2 hD2 hF hk hp hb
    obtain ⟨t2, a1, b1⟩ := kx k r M' E ce q T'.heap (locs ++ L) hp0 hE (by rw [e1]; exact j1) j2 (keep T' t L e1 hz hk hL) (by rw [e1]; exact hce) hcv hcl T' rfl X'
    exact ⟨t2, stp.trans a1, b1⟩
theorem vj_preX {b : List Value} {wc wr : va_W} {H : Heap} {locs : List Loc} (C : CxX p l s m args meth c cc nL Ts own G cl ty nw ss A) (hM : M.Perm (wc ++ wr)) (hP : va_P G cl M H) (hD : va_D A M) (hS : va_S A s.heap H locs) : ∀ U : State, U.heap = H → s.WarmedH U.vm → CPreX G cl ty nw ss b wc H.size b.toArray U := by
  intro U hU hW
  have hP2 := vj_Pm.mp (vj_Pp hM hP)
  have hD2 := vj_Dp hM hD
  obtain ⟨d1, d2⟩ := vj_Dm.mp hD2
  refine ⟨rfl, by rw [hU], by rw [hU]; exact vj_Pm.mpr fun q hq => hP2 q (List.mem_append_left _ hq), C.1.2.1.warm hW, vj_Dm.mpr ⟨(List.pairwise_append.mp d1).1, fun _ _ => trivial⟩, ?_⟩
  rw [hU]
  exact C.2.1.to hW hS.2.1 (vj_free C.1.2.2.1 hD2 hS)
/-- an exception that the callee throws goes on to the caller -/
theorem vjx_out {H : Heap} {locs : List Loc} {ls : Array Slot} {P : Nat → Option Value → va_W → Prop} {mc ms k : Nat} {r : Option Value} {E : String} {ce : Cell} {q : Addr} {Q : State → Prop} (hE : ∀ x ∈ c.exceptionTable.toList, False) (hlocks : meth.locks = false) (hQ : ∀ t, QP below G cl A args s mc ms P t → Q t) (hP0 : P (k + 1) r M) (hex : E = exn (k + 1)) (hP : va_P G cl M H) (hD : va_D A M) (hS : va_S A s.heap H locs) (hcell : H[q]? = some ce) (hv : ce.vm = .none) (hcl : s.vm.findClass E = some ce.cls) (hc : cells ≤ mc) (hs : slots ≤ ms) :
    vx_W p l e R s m args below meth c H locs cells slots Q (F0 m pc ls st) q := by
  intro T hT X
  obtain ⟨t, a1, b1⟩ := vx_out (p := p) (l := l) (e := e) (R := R) (pc := pc) (rest := st) (ls := ls) (XC := CThr G cl A P) (Qc := CPostX G cl A P) (free := A) (args := args) (fun x hx => (hE x hx).elim) hlocks hcell hv hcl
    (fun t ht _ => by rw [hex]; exact ⟨⟨k, r, M, hP0, rfl, by rw [ht]; exact hP, hD⟩, hS.F ht⟩) hS.2.2 hc hs T hT X
  exact ⟨t, a1, hQ t b1⟩
def obc {O : Type} (fc : Option Nat) (T : Nat → O) (K : Option O) : Option O := match fc with
  | none => none
  | some 0 => K
  | some (k + 1) => some (T (k + 1))
def obr {O : Type} (fc : Option (Nat × Nat)) (T : Nat → O) (K : Nat → Option O) : Option O := match fc with
  | none => none
  | some (0, a) => K a
  | some (k + 1, _) => some (T (k + 1))
section KindsX
variable {y : MethodName} {bytes : ByteArray} {maxL n index : Nat} {ret : Option FieldType} {ws : List Cond} {rm : Room} {b : Nat} {st0 : List Value} {T : Nat → O}
theorem VJ.reqV {K : Option O} {fc : Option Nat} {P : Nat → Nat → Option Value → va_W → Prop} (C : CxX p l s m args meth c cc nL Ts own G cl ty nw ss A) (As : List Value) (wc wr : va_W) (c' s' mc ms : Nat) (hE : ∀ x ∈ c.exceptionTable.toList, False) (hcon : ∀ k, fc = some k → ConX l y ws rm G cl ty nw ss (.ref b :: As) wc (fun k' r M' => k' = k ∧ r = none ∧ M' = wc)) (hM : M.Perm (wc ++ wr)) (q0 : Nat) {ci : Nat} {fs : List Value} {q : vw_C} (he : wc[q0]? = some (b, .inr (ci, fs))) (hc : cl[ci]? = some q)
    (cw : CallW R s args own q.1 index y bytes maxL ret ws rm rm.cells rm.slots n) (hn : As.length = n) (hst : st0 = As.reverse ++ .ref b :: st) (hroom : (st.map fun v => v.category).sum ≤ 8) (hdg : decode cc pc = .ok (.invokevirtual index, 3)) (hR : cells + rm.cells ≤ R.cells ∧ slots + rm.slots ≤ R.slots) (hcs : cells + rm.cells = c' ∧ slots + rm.slots = s') (hm : c' ≤ mc ∧ s' ≤ ms)
    (hQ : ∀ k t, QP below G cl A args s mc ms (P (k + 1)) t → Qf (T (k + 1)) t) (hP0 : ∀ k, P (k + 1) (k + 1) none M)
    (k : VJ p l e R s m args below meth c nL G cl A Qf c' s' K M (pc + 3) lv st) : VJ p l e R s m args below meth c nL G cl A Qf cells slots (obc fc T K) M pc lv st0 := by
  intro out ho H locs ls hP hD hS hl
  subst hst
  obtain ⟨rfl, rfl⟩ := hcs
  cases hfc : fc with
  | none => rw [hfc] at ho; cases ho
  | some k9 =>
    rw [hfc] at ho
    refine vjx_after C.1.2.2.1 hP hD hS hM (vx_runV (As := As) (rest := st) C.1.1 (hcon k9 hfc H.size) cw ⟨CPreX.blind, vj_recv C.1.2.1 hM hP hc he, vj_preX C hM hP hD hS⟩ rfl hn hl.1 rfl (lv_room hroom) hdg hR) ?_ ?_
    · rintro r wd H1 locs1 ⟨hk, rfl, rfl⟩ hP1 hD1 hS1
      subst hk
      exact k out ho H1 locs1 ls (vj_Pp hM.symm hP1) (vj_Dp hM.symm hD1) hS1 hl
    · rintro k1 r wd E ce q9 H1 locs1 ⟨hk, rfl, rfl⟩ hE9 hP1 hD1 hS1 hce hcv hcl
      subst hk
      cases ho
      exact vjx_out hE C.1.2.2.2 (hQ k1) (hP0 k1) hE9 (vj_Pp hM.symm hP1) (vj_Dp hM.symm hD1) hS1 hce hcv hcl hm.1 hm.2
theorem VJ.reqS {K : Option O} {fc : Option Nat} {P : Nat → Nat → Option Value → va_W → Prop} (C : CxX p l s m args meth c cc nL Ts own G cl ty nw ss A) (As : List Value) (wc wr : va_W) (c' s' mc ms : Nat) (hE : ∀ x ∈ c.exceptionTable.toList, False) (hcon : ∀ k, fc = some k → ConX l y ws rm G cl ty nw ss As wc (fun k' r M' => k' = k ∧ r = none ∧ M' = wc)) (hM : M.Perm (wc ++ wr))
    (cw : CallB R s args own index y bytes maxL ret ws rm rm.cells rm.slots n ∧ (Cond.static y).before args s = true) (hn : As.length = n) (hst : st0 = As.reverse ++ st) (hroom : (st.map fun v => v.category).sum ≤ 8) (hdg : decode cc pc = .ok (.invokestatic index, 3)) (hR : cells + rm.cells ≤ R.cells ∧ slots + rm.slots ≤ R.slots) (hcs : cells + rm.cells = c' ∧ slots + rm.slots = s') (hm : c' ≤ mc ∧ s' ≤ ms)
    (hQ : ∀ k t, QP below G cl A args s mc ms (P (k + 1)) t → Qf (T (k + 1)) t) (hP0 : ∀ k, P (k + 1) (k + 1) none M)
    (k : VJ p l e R s m args below meth c nL G cl A Qf c' s' K M (pc + 3) lv st) : VJ p l e R s m args below meth c nL G cl A Qf cells slots (obc fc T K) M pc lv st0 := by
  intro out ho H locs ls hP hD hS hl
  subst hst
  obtain ⟨rfl, rfl⟩ := hcs
  cases hfc : fc with
  | none => rw [hfc] at ho; cases ho
  | some k9 =>
    rw [hfc] at ho
    refine vjx_after C.1.2.2.1 hP hD hS hM (vx_runS (As := As) (rest := st) C.1.1 (hcon k9 hfc H.size) cw ⟨CPreX.blind, vj_preX C hM hP hD hS⟩ rfl hn hl.1 rfl (lv_room hroom) hdg hR) ?_ ?_
    · rintro r wd H1 locs1 ⟨hk, rfl, rfl⟩ hP1 hD1 hS1
      subst hk
      exact k out ho H1 locs1 ls (vj_Pp hM.symm hP1) (vj_Dp hM.symm hD1) hS1 hl
    · rintro k1 r wd E ce q9 H1 locs1 ⟨hk, rfl, rfl⟩ hE9 hP1 hD1 hS1 hce hcv hcl
      subst hk
      cases ho
      exact vjx_out hE C.1.2.2.2 (hQ k1) (hP0 k1) hE9 (vj_Pp hM.symm hP1) (vj_Dp hM.symm hD1) hS1 hce hcv hcl hm.1 hm.2
theorem VJ.reqR {K : Nat → Option O} {fc : Option (Nat × Nat)} {P : Nat → Nat → Option Value → va_W → Prop} (C : CxX p l s m args meth c cc nL Ts own G cl ty nw ss A) (As : List Value) (wc wr : va_W) (c' s' mc ms : Nat) (hE : ∀ x ∈ c.exceptionTable.toList, False) (hcon : ∀ k, fc = some k → ConX l y ws rm G cl ty nw ss (.ref b :: As) wc (fun k' r M' => k' = k.1 ∧ r = some (.ref k.2) ∧ M' = wc)) (hM : M.Perm (wc ++ wr)) (q0 : Nat) {ci : Nat} {fs : List Value} {q : vw_C} (he : wc[q0]? = some (b, .inr (ci, fs))) (hc : cl[ci]? = some q)
    (cw : CallW R s args own q.1 index y bytes maxL ret ws rm rm.cells rm.slots n) (hn : As.length = n) (hst : st0 = As.reverse ++ .ref b :: st) (hroom : (st.map fun v => v.category).sum ≤ 8) (hdg : decode cc pc = .ok (.invokevirtual index, 3)) (hR : cells + rm.cells ≤ R.cells ∧ slots + rm.slots ≤ R.slots) (hcs : cells + rm.cells = c' ∧ slots + rm.slots = s') (hm : c' ≤ mc ∧ s' ≤ ms)
    (hQ : ∀ k t, QP below G cl A args s mc ms (P (k + 1)) t → Qf (T (k + 1)) t) (hP0 : ∀ k, P (k + 1) (k + 1) none M)
    (k : ∀ a, VJ p l e R s m args below meth c nL G cl A Qf c' s' (K a) M (pc + 3) lv (.ref a :: st)) : VJ p l e R s m args below meth c nL G cl A Qf cells slots (obr fc T K) M pc lv st0 := by
  intro out ho H locs ls hP hD hS hl
  subst hst
  obtain ⟨rfl, rfl⟩ := hcs
  cases hfc : fc with
  | none => rw [hfc] at ho; cases ho
  | some k9 =>
    rw [hfc] at ho
    obtain ⟨k9, a9⟩ := k9
    refine vjx_after C.1.2.2.1 hP hD hS hM (vx_runV (As := As) (rest := st) C.1.1 (hcon _ hfc H.size) cw ⟨CPreX.blind, vj_recv C.1.2.1 hM hP hc he, vj_preX C hM hP hD hS⟩ rfl hn hl.1 rfl (lv_room hroom) hdg hR) ?_ ?_
    · rintro r wd H1 locs1 ⟨hk, rfl, rfl⟩ hP1 hD1 hS1
      dsimp only at hk
      subst hk
      exact k a9 out ho H1 locs1 ls (vj_Pp hM.symm hP1) (vj_Dp hM.symm hD1) hS1 hl
    · rintro k1 r wd E ce q9 H1 locs1 ⟨hk, rfl, rfl⟩ hE9 hP1 hD1 hS1 hce hcv hcl
      dsimp only at hk
      subst hk
      cases ho
      exact vjx_out hE C.1.2.2.2 (hQ k1) (hP0 k1) hE9 (vj_Pp hM.symm hP1) (vj_Dp hM.symm hD1) hS1 hce hcv hcl hm.1 hm.2
end KindsX
end KX2
