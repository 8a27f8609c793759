/-! ===== the law's kit ===== -/
section KL
abbrev RW (cI cZ : ClassId) (RL : List RLT) : va_W := pf (RL.map (fun e => rW cI cZ e.1 e.2.1 e.2.2.1 e.2.2.2.1 e.2.2.2.2))
/-- the world of the law between two of its steps -/
def LI (cI cZ cQ cU cJ : ClassId) (N t : Nat) (ox om oj : Nat) (M : va_W) : Prop :=
  ∃ (ad : Nat → Nat) (Ix : OI) (Rx : RI) (rf : Nat → Nat) (ra : Nat) (ta : Int32) (ea : Option Nat) (wa : OO) (adk : Nat → Nat) (Ik : OI) (Rk : RI) (cmk : Option Nat) (adq : Nat → Nat) (Iq : OI) (Rq : RI) (cmq : Option Nat) (adc : Nat → Nat) (Ic : OI) (Rc : RI) (cmc : Option Nat) (adn : Nat → Nat) (In : OI) (Rn : RI) (AL : List Nat) (AI : Nat → OI) (AR : Nat → OO) (rs : OO) (RL : List RLT) (adm : Nat → Nat) (I : OI) (R : RI) (g : Nat → Int64),
    IV N t Ix Rx ta ea wa Ik Rk cmk In Rn AL AI AR rs RL I R ∧ M.Perm (pf [jW cJ oj g, mW cI cZ om adm I R, xW cI cZ ox ad Ix Rx rf, aW cQ (rf 0) ra ta ea wa, lW cI cZ (rf 1) adk Ik Rk cmk, lW cI cZ (rf 2) adq Iq Rq cmq, lW cI cZ (rf 3) adc Ic Rc cmc, nW cI cZ (rf 4) adn In Rn, qW cU (rf 5) rs, pW AL AI AR, RW cI cZ RL])
theorem vj_pfe {ps cs : List va_W} (n : Nat) (is : List Nat) (hl : ps.length = n) (h : is.map (fun i => ps[i]?) = cs.map some) (hn : is.Perm (List.range n)) : (pf ps).Perm (pf cs) := by
  have h1 := vj_pf (ps := ps) (cs := cs) (rs := []) n is hl (by rw [List.append_nil]; exact h) hn
  have h2 : pf cs ++ pf [] = pf cs := by simp [pf]
  rw [h2] at h1
  exact h1
theorem vj_pfj {ps cs rs : List va_W} {j : va_W} (n : Nat) (is : List Nat) (hl : ps.length = n) (h : is.map (fun i => ps[i]?) = (cs ++ j :: rs).map some) (hn : is.Perm (List.range n)) : (pf ps).Perm ((pf cs ++ j) ++ pf rs) := by
  have h1 := vj_pfe (ps := ps) (cs := cs ++ j :: rs) n is hl h hn
  have h2 : pf (cs ++ j :: rs) = (pf cs ++ j) ++ pf rs := by simp [pf]
  rw [h2] at h1
  exact h1
theorem pf_nest (a b : va_W) (cs rs : List va_W) : pf (a :: b :: pf cs :: rs) = pf (a :: b :: (cs ++ rs)) := by simp [pf]
/-- behind a wrapper: what it gave back, beside the model and the rest -/
theorem pf_back (W1 j w : va_W) (rs : List va_W) : ((W1 ++ j) ++ pf (w :: rs)).Perm (pf (j :: w :: W1 :: rs)) := by
  have h1 : (W1 ++ j) ++ pf (w :: rs) = pf (W1 :: j :: w :: rs) := by simp [pf]
  rw [h1]
  have h2 : (W1 :: j :: w :: rs).Perm (j :: w :: W1 :: rs) := (List.Perm.swap j W1 (w :: rs)).trans ((List.Perm.swap w W1 rs).cons j)
  exact h2.flatten
theorem pf_m1 (j w : va_W) (rs : List va_W) : (pf (j :: w :: rs)).Perm (pf [w] ++ pf (j :: rs)) := by
  have h1 : pf [w] ++ pf (j :: rs) = pf (w :: j :: rs) := by simp [pf]
  rw [h1]
  exact (List.Perm.swap w j rs).flatten
theorem pf_m2 (j w' : va_W) (rs : List va_W) : (pf [w'] ++ pf (j :: rs)).Perm (pf (j :: w' :: rs)) := by
  have h1 : pf [w'] ++ pf (j :: rs) = pf (w' :: j :: rs) := by simp [pf]
  rw [h1]
  exact (List.Perm.swap j w' rs).flatten
theorem set_perm {α : Type} : ∀ (l : List α) (r : Nat) (e : α), l[r]? = some e → ∃ rest, l.Perm (e :: rest) ∧ ∀ e', (l.set r e').Perm (e' :: rest)
  | [], r, e, h => by simp at h
  | a :: l, 0, e, h => by
    have h1 : a = e := by simpa using h
    subst h1
    exact ⟨l, List.Perm.refl _, fun e' => List.Perm.refl _⟩
  | a :: l, r + 1, e, h => by
    obtain ⟨rest, h1, h2⟩ := set_perm l r e (by simpa using h)
    exact ⟨a :: rest, (h1.cons a).trans (List.Perm.swap e a rest), fun e' => ((h2 e').cons a).trans (List.Perm.swap e' a rest)⟩
theorem rw_split {cI cZ : ClassId} {RL : List RLT} {r : Nat} {e : RLT} (h : RL[r]? = some e) : ∃ W' : va_W, (RW cI cZ RL).Perm (rW cI cZ e.1 e.2.1 e.2.2.1 e.2.2.2.1 e.2.2.2.2 ++ W') ∧ ∀ e' : RLT, (RW cI cZ (RL.set r e')).Perm (rW cI cZ e'.1 e'.2.1 e'.2.2.1 e'.2.2.2.1 e'.2.2.2.2 ++ W') := by
  obtain ⟨rest, h1, h2⟩ := set_perm RL r e h
  refine ⟨RW cI cZ rest, ?_, fun e' => ?_⟩
  · exact (h1.map _).flatten
  · exact ((h2 e').map _).flatten
theorem rw_app {cI cZ : ClassId} {RL : List RLT} {e : RLT} : RW cI cZ (RL ++ [e]) = RW cI cZ RL ++ rW cI cZ e.1 e.2.1 e.2.2.1 e.2.2.2.1 e.2.2.2.2 := by
  simp [RW, pf]
theorem pf_last {ps : List va_W} {a b c : va_W} (h : a.Perm (b ++ c)) : (pf (ps ++ [a])).Perm (pf (ps ++ [b, c])) := by
  have h1 : pf (ps ++ [a]) = pf ps ++ a := by simp [pf]
  have h2 : pf (ps ++ [b, c]) = pf ps ++ (b ++ c) := by simp [pf]
  rw [h1, h2]
  exact h.append_left _
/-- the wrapper's answer and the model's refusal -/
theorem lm_s {cJ : ClassId} {ao : Nat} {g : Nat → Int64} {k0 : Nat} {v0 mv y : Int32} {W0 M' : va_W} {r : Option Value} {e : List (Nat × Nat)} {code : Nat → Int32} {fv : Int32 → Int64}
    (h : (∃ (v : Int32) (M1 : va_W), (0 = k0 ∧ ((0 : Nat) = 0 → some (Value.int v) = some (.int v0)) ∧ M1 = W0) ∧ r = some (.int 0) ∧ M' = M1 ++ jW cJ ao (vp_updL g 0 (fv v))) ∨ (∃ (k : Nat) (rr : Option Value) (M1 : va_W), (k + 1 = k0 ∧ (k + 1 = 0 → rr = some (.int v0)) ∧ M1 = W0) ∧ r = some (.int (code k)) ∧ M' = M1 ++ jW cJ ao g))
    (hC : CRel e k0 y) (he : ∀ q ∈ e, q.1 ≠ 0 ∧ code (q.1 - 1) = nI q.2 ∧ nI q.2 ≠ 0) (hv : k0 = 0 → v0 = mv) : ∃ g', r = some (.int y) ∧ M' = W0 ++ jW cJ ao g' ∧ (y = 0 → g' 0 = fv mv) := by
  rcases h with ⟨v, M1, ⟨hk, hr, rfl⟩, rfl, rfl⟩ | ⟨k, rr, M1, ⟨hk, -, rfl⟩, rfl, rfl⟩
  · have e1 := hr rfl
    injection e1 with e1
    injection e1 with e1
    have hy : y = 0 := by
      rcases hC with ⟨-, h⟩ | ⟨a, b, hm, ha, hb⟩
      · exact h
      · exact absurd (ha.symm.trans hk.symm) (he _ hm).1
    refine ⟨_, by rw [hy], rfl, fun _ => ?_⟩
    rw [← hv hk.symm, ← e1]
    simp [vp_updL]
  · rcases hC with ⟨h0, -⟩ | ⟨a, b, hm, ha, hb⟩
    · omega
    · obtain ⟨-, h2, h3⟩ := he _ hm
      dsimp only at h2 h3
      have h4 : a - 1 = k := by omega
      rw [h4] at h2
      exact ⟨g, by rw [hb, ← h2], rfl, fun hy => absurd (hb.symm.trans hy) h3⟩
/-- the same where acts are made -/
theorem lm_t {β : Type} {cJ : ClassId} {ao : Nat} {g : Nat → Int64} {AL : List Nat} {outf : Nat → Option (Nat × Int32 × β)} {mv y : Int32} {W0 M' : va_W} {WS : Nat → Nat × Int32 × β → va_W} {r : Option Value} {e : List (Nat × Nat)} {code : Nat → Int32} {fv : Int32 → Int64} {G1 : Nat → Nat × Int32 × β → Prop} {G0 : Prop}
    (h : (∃ (v : Int32) (M1 : va_W), (∃ (q9 : Nat) (o8 : Nat × Int32 × β), outf q9 = some o8 ∧ (0 = o8.1 ∧ ((0 : Nat) = 0 → q9 ∉ AL ∧ some (Value.int v) = some (.int o8.2.1) ∧ M1 = WS q9 o8) ∧ ((0 : Nat) ≠ 0 → M1 = W0))) ∧ r = some (.int 0) ∧ M' = M1 ++ jW cJ ao (vp_updL g 0 (fv v))) ∨ (∃ (k : Nat) (rr : Option Value) (M1 : va_W), (∃ (q9 : Nat) (o8 : Nat × Int32 × β), outf q9 = some o8 ∧ (k + 1 = o8.1 ∧ (k + 1 = 0 → q9 ∉ AL ∧ rr = some (.int o8.2.1) ∧ M1 = WS q9 o8) ∧ (k + 1 ≠ 0 → M1 = W0))) ∧ r = some (.int (code k)) ∧ M' = M1 ++ jW cJ ao g))
    (hT : ∀ q o8, outf q = some o8 → (o8.1 = 0 → q ∉ AL) → CRel e o8.1 y ∧ (o8.1 = 0 → o8.2.1 = mv ∧ G1 q o8) ∧ (o8.1 ≠ 0 → G0)) (he : ∀ q ∈ e, q.1 ≠ 0 ∧ code (q.1 - 1) = nI q.2 ∧ nI q.2 ≠ 0) : ∃ g' Wn, r = some (.int y) ∧ M' = Wn ++ jW cJ ao g' ∧ (y = 0 → g' 0 = fv mv) ∧ ((∃ q o8, Wn = WS q o8 ∧ G1 q o8) ∨ (Wn = W0 ∧ G0)) := by
  rcases h with ⟨v, M1, ⟨q9, o8, ho, hk, h1, -⟩, rfl, rfl⟩ | ⟨k, rr, M1, ⟨q9, o8, ho, hk, -, h2⟩, rfl, rfl⟩
  · obtain ⟨hq, e1, rfl⟩ := h1 rfl
    injection e1 with e1
    injection e1 with e1
    obtain ⟨hC, t1, -⟩ := hT q9 o8 ho (fun _ => hq)
    obtain ⟨t2, t3⟩ := t1 hk.symm
    have hy : y = 0 := by
      rcases hC with ⟨-, h⟩ | ⟨a, b, hm, ha, hb⟩
      · exact h
      · exact absurd (ha.symm.trans hk.symm) (he _ hm).1
    refine ⟨_, _, by rw [hy], rfl, fun _ => ?_, Or.inl ⟨q9, o8, rfl, t3⟩⟩
    rw [← t2, ← e1]
    simp [vp_updL]
  · have hM := h2 (Nat.succ_ne_zero k)
    subst hM
    obtain ⟨hC, -, t1⟩ := hT q9 o8 ho (fun h => by omega)
    have hG := t1 (by omega)
    rcases hC with ⟨h0, -⟩ | ⟨a, b, hm, ha, hb⟩
    · omega
    · obtain ⟨-, h2, h3⟩ := he _ hm
      dsimp only at h2 h3
      have h4 : a - 1 = k := by omega
      rw [h4] at h2
      exact ⟨g, _, by rw [hb, ← h2], rfl, fun hy => absurd (hb.symm.trans hy) h3, Or.inr ⟨rfl, hG⟩⟩
theorem hn_1 {k : Nat} {y : Int32} (h : CRel e1 (k + 1) y) : k = 0 := by
  rcases h with ⟨h0, -⟩ | ⟨a, b, hm, ha, -⟩
  · omega
  · simp only [List.mem_cons, Prod.mk.injEq, List.not_mem_nil, or_false] at hm
    omega
theorem hn_2 {k : Nat} {y : Int32} (h : CRel e2 (k + 1) y) : k = 1 := by
  rcases h with ⟨h0, -⟩ | ⟨a, b, hm, ha, -⟩
  · omega
  · simp only [List.mem_cons, Prod.mk.injEq, List.not_mem_nil, or_false] at hm
    omega
theorem hn_12 {k : Nat} {y : Int32} (h : CRel e12 (k + 1) y) : k = 0 ∨ k = 1 := by
  rcases h with ⟨h0, -⟩ | ⟨a, b, hm, ha, -⟩
  · omega
  · simp only [List.mem_cons, Prod.mk.injEq, List.not_mem_nil, or_false] at hm
    omega
theorem hn_13 {k : Nat} {y : Int32} (h : CRel e13 (k + 1) y) : k = 0 ∨ k = 2 := by
  rcases h with ⟨h0, -⟩ | ⟨a, b, hm, ha, -⟩
  · omega
  · simp only [List.mem_cons, Prod.mk.injEq, List.not_mem_nil, or_false] at hm
    omega
theorem hn_23 {k : Nat} {y : Int32} (h : CRel e23 (k + 1) y) : k = 1 ∨ k = 2 := by
  rcases h with ⟨h0, -⟩ | ⟨a, b, hm, ha, -⟩
  · omega
  · simp only [List.mem_cons, Prod.mk.injEq, List.not_mem_nil, or_false] at hm
    omega
theorem hn_123 {k : Nat} {y : Int32} (h : CRel e123 (k + 1) y) : k = 0 ∨ k = 1 ∨ k = 2 := by
  rcases h with ⟨h0, -⟩ | ⟨a, b, hm, ha, -⟩
  · omega
  · simp only [List.mem_cons, Prod.mk.injEq, List.not_mem_nil, or_false] at hm
    omega
section KLrows
variable {p : Program} {l : Launch} {e : Env} {R : Room} {s : State} {m : MethodId} {args : Array Value} {below : List Frame} {meth : Method} {c : Code} {cc : ByteArray} {nL : Nat} {Ts : List Cond} {own : String} {G : va_G} {cl : List vw_C} {ty : List (ClassId × FieldType)} {nw : List Cond} {ss : List (String × Nat × String)} {A : Nat → Prop} {O : Type} {Qf : O → State → Prop} {cells slots : Nat} {f fA fB : Option O} {M : va_W} {pc : Nat} {lv : List (Nat × Value)} {st : List Value}
/-- a wrapper's call -/
theorem VJ.callW {y : MethodName} {bytes : ByteArray} {maxL n index : Nat} {ret : Option FieldType} {hh : List (Nat × Nat × Nat × Nat)} {ws : List Cond} {rm : Room} {st0 : List Value} {P : Nat → Option Value → va_W → Prop} (C : CxX p l s m args meth c cc nL Ts own G cl ty nw ss A) (hN : NC s) (As : List Value) (wc wr : va_W) (c' s' : Nat) (hcon : ConW l y ws rm G cl ty nw ss As wc P) (hM : M.Perm (wc ++ wr)) (cw : vx_CSW R s args own index y bytes maxL ret hh ws rm rm.cells rm.slots n) (hn : As.length = n) (hst : st0 = As.reverse ++ st) (hroom : (st.map fun v => v.category).sum ≤ 8) (hdg : decode cc pc = .ok (.invokestatic index, 3)) (hrm : rm.cells ≤ c' ∧ rm.slots ≤ s') (hR : cells + c' ≤ R.cells ∧ slots + s' ≤ R.slots)
    (k : ∀ r M1, P 0 r M1 → VJ p l e R s m args below meth c nL G cl A Qf (cells + c') (slots + s') f (M1 ++ wr) (pc + 3) lv (r.toList ++ st)) : VJ p l e R s m args below meth c nL G cl A Qf cells slots f M pc lv st0 := by
  intro out ho H locs ls hP hD hS hl
  subst hst
  have r1 := hrm.1
  have r2 := hrm.2
  have r3 := hR.1
  have r4 := hR.2
  exact vjp_after C.1.2.2.1 hP hD hS hM (vx_runSW (As := As) (rest := st) C.1.1 (hcon H.size) cw ⟨CPreL.blind, fun U hU hW => ⟨vj_preX C hM hP hD hS U hU hW, hN.moved hW.alike⟩⟩ rfl hn hl.1 rfl (lv_room hroom) hdg ⟨by omega, by omega⟩)
    (fun r M1 H1 locs1 hp hP1 hD1 hS1 => W.widen (by omega) (by omega) (k r M1 hp out ho H1 locs1 ls hP1 hD1 hS1 hl))
/-- the call of a method that makes nothing -/
theorem VJ.callC {y : MethodName} {bytes : ByteArray} {maxL n index : Nat} {ret : Option FieldType} {ws : List Cond} {rm : Room} {b : Nat} {st0 : List Value} {rv : Option Value} {Wd : va_W} (C : Cx p s m args meth c cc nL Ts own G cl ty nw A) (As : List Value) (wc wr M' : va_W) (hcon : Con l y ws rm G cl ty nw (.ref b :: As) wc rv Wd) (hM : M.Perm (wc ++ wr)) (hM' : (Wd ++ wr).Perm M') (q0 : Nat) {ci : Nat} {fs : List Value} {q : vw_C} (he : wc[q0]? = some (b, .inr (ci, fs))) (hc : cl[ci]? = some q)
    (cw : CallW R s args own q.1 index y bytes maxL ret ws rm rm.cells rm.slots n) (hn : As.length = n) (hst : st0 = As.reverse ++ .ref b :: st) (hroom : (st.map fun v => v.category).sum ≤ 8) (hdg : decode cc pc = .ok (.invokevirtual index, 3)) (hz : rm.cells = 0 ∧ rm.slots = 0) (hR : cells ≤ R.cells ∧ slots ≤ R.slots)
    (k : VJ p l e R s m args below meth c nL G cl A Qf cells slots f M' (pc + 3) lv (rv.toList ++ st)) : VJ p l e R s m args below meth c nL G cl A Qf cells slots f M pc lv st0 := by
  intro out ho H locs ls hP hD hS hl
  subst hst
  have r1 := hz.1
  have r2 := hz.2
  have r3 := hR.1
  have r4 := hR.2
  exact vj_after C.2.2.1 hP hD hS hM hM' (va_runV (As := As) (rest := st) C.1 (hcon H.size) cw ⟨CPre.blind, vj_recv C.2.1 hM hP hc he, vj_pre C.2.1 hM hP hD⟩ rfl hn hl.1 rfl (lv_room hroom) hdg ⟨by omega, by omega⟩)
    (fun H1 locs1 hP1 hD1 hS1 => W.widen (by omega) (by omega) (k out ho H1 locs1 ls hP1 hD1 hS1 hl))
/-- a read of the script at i + j -/
theorem VJ.sarg {b L : Nat} {xs : Nat → Int32} {i j x : Int32} {jn : Int} (C : Cx p s m args meth c cc nL Ts own G cl ty nw A) (hX : va_X b L xs s s.heap) (hbl : b < s.heap.size) (hbA : ¬ A b) (jb ji : Nat) (hb : lv[jb]? = some (0, .ref b)) (hi : lv[ji]? = some (4, .int i)) (hx : vp_in (i + j) L ∧ xs (i + j).toNatClampNeg = x) (hj : Int32.ofInt jn = j) (d0 : decode cc pc = .ok (.aload_n 0, 1)) (d1 : decode cc (pc + 1) = .ok (.iload 4, 2)) (d3 : decode cc (pc + 3) = .ok (.iconst jn, 1)) (d4 : decode cc (pc + 4) = .ok (.iadd, 1)) (d5 : decode cc (pc + 5) = .ok (.iaload, 1)) (k : VJ p l e R s m args below meth c nL G cl A Qf cells slots f M (pc + 6) lv (.int x :: st)) : VJ p l e R s m args below meth c nL G cl A Qf cells slots f M pc lv st := by
  refine VJ.aload_n C jb d0 hb ?_
  refine VJ.iload C ji d1 hi ?_
  refine VJ.iconst (v := j) C d3 hj ?_
  refine VJ.iadd C d4 ?_
  intro out ho H locs ls hP hD hS hl
  refine va_sld C.1.1 C.1.2.1 hX hbl hbA hS hx.1 d5 ?_
  rw [hx.2]
  exact k out ho H locs ls hP hD hS hl
theorem VJ.sread {b L : Nat} {xs : Nat → Int32} {i x : Int32} (C : Cx p s m args meth c cc nL Ts own G cl ty nw A) (hX : va_X b L xs s s.heap) (hbl : b < s.heap.size) (hbA : ¬ A b) (hx : vp_in i L ∧ xs i.toNatClampNeg = x) (d5 : decode cc pc = .ok (.iaload, 1)) (k : VJ p l e R s m args below meth c nL G cl A Qf cells slots f M (pc + 1) lv (.int x :: st)) : VJ p l e R s m args below meth c nL G cl A Qf cells slots f M pc lv (.int i :: .ref b :: st) := by
  intro out ho H locs ls hP hD hS hl
  refine va_sld C.1.1 C.1.2.1 hX hbl hbA hS hx.1 d5 ?_
  rw [hx.2]
  exact k out ho H locs ls hP hD hS hl
theorem VJ.slen {b L : Nat} {xs : Nat → Int32} (C : Cx p s m args meth c cc nL Ts own G cl ty nw A) (hX : va_X b L xs s s.heap) (hbl : b < s.heap.size) (hbA : ¬ A b) (d5 : decode cc pc = .ok (.arraylength, 1)) (k : VJ p l e R s m args below meth c nL G cl A Qf cells slots f M (pc + 1) lv (.int (Int32.ofNat L) :: st)) : VJ p l e R s m args below meth c nL G cl A Qf cells slots f M pc lv (.ref b :: st) := by
  intro out ho H locs ls hP hD hS hl
  exact va_slen C.1.1 C.1.2.1 hX hbl hbA hS d5 (k out ho H locs ls hP hD hS hl)
theorem VJ.lald {a : Nat} {cJ : ClassId} {n : Nat} {g : Nat → Int64} {i : Int32} (C : Cx p s m args meth c cc nL Ts own G cl ty nw A) (q0 t0 : Nat) (he : M[q0]? = some (a, .inl (cJ, n, .inr (.inl g)))) (ht : ty[t0]? = some (cJ, .long)) (hin : vp_in i n) (hdg : decode cc pc = .ok (.laload, 1)) (k : VJ p l e R s m args below meth c nL G cl A Qf cells slots f M (pc + 1) lv (.long (g i.toNatClampNeg) :: st)) : VJ p l e R s m args below meth c nL G cl A Qf cells slots f M pc lv (.int i :: .ref a :: st) := by
  intro out ho H locs ls hP hD hS hl
  exact va_lald C.1.1 C.1.2.1 C.2.1.1 hP q0 t0 he ht hin hdg (k out ho H locs ls hP hD hS hl)
theorem VJ.two {P : Prop} [Decidable P] (k : VJ p l e R s m args below meth c nL G cl A Qf cells slots (if P then f else f) M pc lv st) : VJ p l e R s m args below meth c nL G cl A Qf cells slots f M pc lv st := by
  have h1 : (if P then f else f) = f := by split <;> rfl
  rw [h1] at k
  exact k
end KLrows
end KL
