/-! ===== the law's kit ===== -/
section KL
abbrev RW (cI cZ : ClassId) (RL : List RLT) : va_W := pf (RL.map (fun e => rW cI cZ e.1 e.2.1 e.2.2.1 e.2.2.2.1 e.2.2.2.2))
theorem vj_pfe {ps cs : List va_W} (n : Nat) (is : List Nat) (hl : ps.length = n) (h : is.map (fun i => ps[i]?) = cs.map some) (hn : is.Perm (List.range n)) : (pf ps).Perm (pf cs) := by
  have h1 := vj_pf (ps := ps) (cs := cs) (rs := []) n is hl (by rw [List.append_nil]; exact h) hn
  have h2 : pf cs ++ pf [] = pf cs := by simp [pf]
  rw [h2] at h1
  exact h1
theorem vj_pfj {ps cs rs : List va_W} {j : va_W} (n : Nat) (is : List Nat) (hl : ps.length = n) (h : is.map (fun i => ps[i]?) = (cs ++ j :: rs).map some) (hn : is.Perm (List.range n)) : (pf ps).Perm ((pf cs ++ j) ++ pf rs) := by
  have h1 := vj_pfe (ps := ps) (cs := cs ++ j :: rs) n is hl h hn
  have h2 : pf (cs ++ j :: rs) = (pf cs ++ j) ++ pf rs := by simp [pf]
  rw [h2] at h1
  exact h1
theorem pf_nest (a b : va_W) (cs rs : List va_W) : pf (a :: b :: pf cs :: rs) = pf (a :: b :: (cs ++ rs)) := by simp [pf]
/-- behind a wrapper: what it gave back, beside the model and the rest -/
theorem pf_back (W1 j w : va_W) (rs : List va_W) : ((W1 ++ j) ++ pf (w :: rs)).Perm (pf (j :: w :: W1 :: rs)) := by
  have h1 : (W1 ++ j) ++ pf (w :: rs) = pf (W1 :: j :: w :: rs) := by simp [pf]
  rw [h1]
  have h2 : (W1 :: j :: w :: rs).Perm (j :: w :: W1 :: rs) := (List.Perm.swap j W1 (w :: rs)).trans ((List.Perm.swap w W1 rs).cons j)
  exact h2.flatten
theorem pf_m1 (j w : va_W) (rs : List va_W) : (pf (j :: w :: rs)).Perm (pf [w] ++ pf (j :: rs)) := by
  have h1 : pf [w] ++ pf (j :: rs) = pf (w :: j :: rs) := by simp [pf]
  rw [h1]
  exact (List.Perm.swap w j rs).flatten
theorem pf_m2 (j w' : va_W) (rs : List va_W) : (pf [w'] ++ pf (j :: rs)).Perm (pf (j :: w' :: rs)) := by
  have h1 : pf [w'] ++ pf (j :: rs) = pf (w' :: j :: rs) := by simp [pf]
  rw [h1]
  exact (List.Perm.swap j w' rs).flatten
theorem set_perm {α : Type} : ∀ (l : List α) (r : Nat) (e : α), l[r]? = some e → ∃ rest, l.Perm (e :: rest) ∧ ∀ e', (l.set r e').Perm (e' :: rest)
  | [], r, e, h => by simp at h
  | a :: l, 0, e, h => by
    have h1 : a = e := by simpa using h
    subst h1
    exact ⟨l, List.Perm.refl _, fun e' => List.Perm.refl _⟩
  | a :: l, r + 1, e, h => by
    obtain ⟨rest, h1, h2⟩ := set_perm l r e (by simpa using h)
    exact ⟨a :: rest, (h1.cons a).trans (List.Perm.swap e a rest), fun e' => ((h2 e').cons a).trans (List.Perm.swap e' a rest)⟩
theorem rw_split {cI cZ : ClassId} {RL : List RLT} {r : Nat} {e : RLT} (h : RL[r]? = some e) : ∃ W' : va_W, (RW cI cZ RL).Perm (rW cI cZ e.1 e.2.1 e.2.2.1 e.2.2.2.1 e.2.2.2.2 ++ W') ∧ ∀ e' : RLT, (RW cI cZ (RL.set r e')).Perm (rW cI cZ e'.1 e'.2.1 e'.2.2.1 e'.2.2.2.1 e'.2.2.2.2 ++ W') := by
  obtain ⟨rest, h1, h2⟩ := set_perm RL r e h
  refine ⟨RW cI cZ rest, ?_, fun e' => ?_⟩
  · exact (h1.map _).flatten
  · exact ((h2 e').map _).flatten
theorem rw_app {cI cZ : ClassId} {RL : List RLT} {e : RLT} : RW cI cZ (RL ++ [e]) = RW cI cZ RL ++ rW cI cZ e.1 e.2.1 e.2.2.1 e.2.2.2.1 e.2.2.2.2 := by
  simp [RW, pf]
theorem pf_last {ps : List va_W} {a b c : va_W} (h : a.Perm (b ++ c)) : (pf (ps ++ [a])).Perm (pf (ps ++ [b, c])) := by
  have h1 : pf (ps ++ [a]) = pf ps ++ a := by simp [pf]
  have h2 : pf (ps ++ [b, c]) = pf ps ++ (b ++ c) := by simp [pf]
  rw [h1, h2]
  exact h.append_left _
theorem hn_1 {k : Nat} {y : Int32} (h : CRel e1 (k + 1) y) : k = 0 := by
  rcases h with ⟨h0, -⟩ | ⟨a, b, hm, ha, -⟩
  · omega
  · simp only [List.mem_cons, Prod.mk.injEq, List.not_mem_nil, or_false] at hm
    omega
theorem hn_2 {k : Nat} {y : Int32} (h : CRel e2 (k + 1) y) : k = 1 := by
  rcases h with ⟨h0, -⟩ | ⟨a, b, hm, ha, -⟩
  · omega
  · simp only [List.mem_cons, Prod.mk.injEq, List.not_mem_nil, or_false] at hm
    omega
theorem hn_12 {k : Nat} {y : Int32} (h : CRel e12 (k + 1) y) : k = 0 ∨ k = 1 := by
  rcases h with ⟨h0, -⟩ | ⟨a, b, hm, ha, -⟩
  · omega
  · simp only [List.mem_cons, Prod.mk.injEq, List.not_mem_nil, or_false] at hm
    omega
theorem hn_13 {k : Nat} {y : Int32} (h : CRel e13 (k + 1) y) : k = 0 ∨ k = 2 := by
  rcases h with ⟨h0, -⟩ | ⟨a, b, hm, ha, -⟩
  · omega
  · simp only [List.mem_cons, Prod.mk.injEq, List.not_mem_nil, or_false] at hm
    omega
theorem hn_23 {k : Nat} {y : Int32} (h : CRel e23 (k + 1) y) : k = 1 ∨ k = 2 := by
  rcases h with ⟨h0, -⟩ | ⟨a, b, hm, ha, -⟩
  · omega
  · simp only [List.mem_cons, Prod.mk.injEq, List.not_mem_nil, or_false] at hm
    omega
theorem hn_123 {k : Nat} {y : Int32} (h : CRel e123 (k + 1) y) : k = 0 ∨ k = 1 ∨ k = 2 := by
  rcases h with ⟨h0, -⟩ | ⟨a, b, hm, ha, -⟩
  · omega
  · simp only [List.mem_cons, Prod.mk.injEq, List.not_mem_nil, or_false] at hm
    omega
section KLrows
variable {p : Program} {l : Launch} {e : Env} {R : Room} {s : State} {m : MethodId} {args : Array Value} {below : List Frame} {meth : Method} {c : Code} {cc : ByteArray} {nL : Nat} {Ts : List Cond} {own : String} {G : va_G} {cl : List vw_C} {ty : List (ClassId × FieldType)} {nw : List Cond} {ss : List (String × Nat × String)} {A : Nat → Prop} {O : Type} {Qf : O → State → Prop} {cells slots : Nat} {f fA fB : Option O} {M : va_W} {pc : Nat} {lv : List (Nat × Value)} {st : List Value}
/-- a wrapper's call -/
theorem VJ.callW {y : MethodName} {bytes : ByteArray} {maxL n index : Nat} {ret : Option FieldType} {hh : List (Nat × Nat × Nat × Nat)} {ws : List Cond} {rm : Room} {st0 : List Value} {P : Nat → Option Value → va_W → Prop} (C : CxX p l s m args meth c cc nL Ts own G cl ty nw ss A) (hN : NC s) (As : List Value) (wc wr : va_W) (c' s' : Nat) (hcon : ConW l y ws rm G cl ty nw ss As wc P) (hM : M.Perm (wc ++ wr)) (cw : vx_CSW R s args own index y bytes maxL ret hh ws rm rm.cells rm.slots n) (hn : As.length = n) (hst : st0 = As.reverse ++ st) (hroom : (st.map fun v => v.category).sum ≤ 8) (hdg : decode cc pc = .ok (.invokestatic index, 3)) (hrm : rm.cells ≤ c' ∧ rm.slots ≤ s') (hR : cells + c' ≤ R.cells ∧ slots + s' ≤ R.slots)
    (k : ∀ r M1, P 0 r M1 → VJ p l e R s m args below meth c nL G cl A Qf (cells + c') (slots + s') f (M1 ++ wr) (pc + 3) lv (r.toList ++ st)) : VJ p l e R s m args below meth c nL G cl A Qf cells slots f M pc lv st0 := by
  intro out ho H locs ls hP hD hS hl
  subst hst
  have r1 := hrm.1
  have r2 := hrm.2
  have r3 := hR.1
  have r4 := hR.2
  exact vjp_after C.1.2.2.1 hP hD hS hM (vx_runSW (As := As) (rest := st) C.1.1 (hcon H.size) cw ⟨CPreL.blind, fun U hU hW => ⟨vj_preX C hM hP hD hS U hU hW, hN.moved hW.alike⟩⟩ rfl hn hl.1 rfl (lv_room hroom) hdg ⟨by omega, by omega⟩)
    (fun r M1 H1 locs1 hp hP1 hD1 hS1 => W.widen (by omega) (by omega) (k r M1 hp out ho H1 locs1 ls hP1 hD1 hS1 hl))
/-- the call of a method that makes nothing -/
theorem VJ.callC {y : MethodName} {bytes : ByteArray} {maxL n index : Nat} {ret : Option FieldType} {ws : List Cond} {rm : Room} {b : Nat} {st0 : List Value} {rv : Option Value} {Wd : va_W} (C : Cx p s m args meth c cc nL Ts own G cl ty nw A) (As : List Value) (wc wr M' : va_W) (hcon : Con l y ws rm G cl ty nw (.ref b :: As) wc rv Wd) (hM : M.Perm (wc ++ wr)) (hM' : (Wd ++ wr).Perm M') (q0 : Nat) {ci : Nat} {fs : List Value} {q : vw_C} (he : wc[q0]? = some (b, .inr (ci, fs))) (hc : cl[ci]? = some q)
    (cw : CallW R s args own q.1 index y bytes maxL ret ws rm rm.cells rm.slots n) (hn : As.length = n) (hst : st0 = As.reverse ++ .ref b :: st) (hroom : (st.map fun v => v.category).sum ≤ 8) (hdg : decode cc pc = .ok (.invokevirtual index, 3)) (hz : rm.cells = 0 ∧ rm.slots = 0) (hR : cells ≤ R.cells ∧ slots ≤ R.slots)
    (k : VJ p l e R s m args below meth c nL G cl A Qf cells slots f M' (pc + 3) lv (rv.toList ++ st)) : VJ p l e R s m args below meth c nL G cl A Qf cells slots f M pc lv st0 := by
  intro out ho H locs ls hP hD hS hl
  subst hst
  have r1 := hz.1
  have r2 := hz.2
  have r3 := hR.1
  have r4 := hR.2
  exact vj_after C.2.2.1 hP hD hS hM hM' (va_runV (As := As) (rest := st) C.1 (hcon H.size) cw ⟨CPre.blind, vj_recv C.2.1 hM hP hc he, vj_pre C.2.1 hM hP hD⟩ rfl hn hl.1 rfl (lv_room hroom) hdg ⟨by omega, by omega⟩)
    (fun H1 locs1 hP1 hD1 hS1 => W.widen (by omega) (by omega) (k out ho H1 locs1 ls hP1 hD1 hS1 hl))
theorem VJ.sread {b L : Nat} {xs : Nat → Int32} {i x : Int32} (C : Cx p s m args meth c cc nL Ts own G cl ty nw A) (hX : va_X b L xs s s.heap) (hbl : b < s.heap.size) (hbA : ¬ A b) (hx : vp_in i L ∧ xs i.toNatClampNeg = x) (d5 : decode cc pc = .ok (.iaload, 1)) (k : VJ p l e R s m args below meth c nL G cl A Qf cells slots f M (pc + 1) lv (.int x :: st)) : VJ p l e R s m args below meth c nL G cl A Qf cells slots f M pc lv (.int i :: .ref b :: st) := by
  intro out ho H locs ls hP hD hS hl
  refine va_sld C.1.1 C.1.2.1 hX hbl hbA hS hx.1 d5 ?_
  rw [hx.2]
  exact k out ho H locs ls hP hD hS hl
theorem VJ.slen {b L : Nat} {xs : Nat → Int32} (C : Cx p s m args meth c cc nL Ts own G cl ty nw A) (hX : va_X b L xs s s.heap) (hbl : b < s.heap.size) (hbA : ¬ A b) (d5 : decode cc pc = .ok (.arraylength, 1)) (k : VJ p l e R s m args below meth c nL G cl A Qf cells slots f M (pc + 1) lv (.int (Int32.ofNat L) :: st)) : VJ p l e R s m args below meth c nL G cl A Qf cells slots f M pc lv (.ref b :: st) := by
  intro out ho H locs ls hP hD hS hl
  exact va_slen C.1.1 C.1.2.1 hX hbl hbA hS d5 (k out ho H locs ls hP hD hS hl)
end KLrows
theorem pf_last2 {ps : List va_W} {a b c : va_W} (h : (b ++ c).Perm a) : (pf (ps ++ [b, c])).Perm (pf (ps ++ [a])) := (pf_last h.symm).symm
section KL2
variable {N t n m P d g : Nat} {od ad : Nat → Nat} {Ix : OI} {Rx : RI} {ta : Int32} {ea : Option Nat} {wa : OO} {Ik : OI} {Rk : RI} {cmk : Option Nat} {In : OI} {Rn : RI} {AL : List Nat} {AI : Nat → OI} {AR : Nat → OO} {rs : OO} {RL : List RLT} {I : OI} {R : RI}
theorem sim_now2 (hN : 700 ≤ N) (h : IVc N t n m P d g od ad Ix Rx ta ea wa Ik Rk cmk In Rn AL AI AR rs RL I R) (x1 x2 : Int32) :
    ∃ out outM, f_X5_now N Ix Rx Ik cmk Rk x1 x2 = some out ∧ f_X6_now N I R x1 x2 = some outM ∧ CRel e12 out.1 (outM.2.1 0) ∧ (out.1 = 0 → out.2.1 = outM.1) ∧ IV N (t + 1) Ix Rx ta ea wa Ik out.2.2 cmk In Rn AL AI AR rs RL outM.2.1 outM.2.2 ∧ LEq Rk out.2.2 := by
  have h9 := h
  obtain ⟨A, X, ⟨d1, d2, d3, d4, d5⟩, K, -⟩ := h
  have hP := A.P24
  have hdd := X.dd
  have bad : ∀ (y : Int32) (k b : Nat), y = nI b → (k, b) ∈ e12 → k ≠ 0 → f_X6_refused R I y = some (1, va_up I 0 y) → ∃ out outM, (some (k, (0 : Int32), Rk) : Option (Nat × Int32 × RI)) = some out ∧ ob3 (f_X6_asOf_j45 N I R x1 x2 (I 1) (I 1) y) (fun r1 I2 R3 => some (r1, I2, R3)) = some outM ∧ CRel e12 out.1 (outM.2.1 0) ∧ (out.1 = 0 → out.2.1 = outM.1) ∧ IV N (t + 1) Ix Rx ta ea wa Ik out.2.2 cmk In Rn AL AI AR rs RL outM.2.1 outM.2.2 ∧ LEq Rk out.2.2 := by
    intro y k b hy hkb hk hr
    refine ⟨_, (0, va_up I 0 y, R), rfl, ?_, ?_, n0e hk, askI h9 y, LEq.rf⟩
    · unfold f_X6_asOf_j45
      rw [hr, ob2_mk, if_neg one0]
      rfl
    · show CRel e12 k (va_up I 0 y 0)
      rw [up0, hy]
      exact cE hkb
  unfold f_X5_now f_X6_now f_X6_asOf
  rcases person_c (R := R) (Rx := Rx) hP A.iP d3 x1 with ⟨p, hp, rfl, a1, a2⟩ | ⟨-, a1, a2⟩
  · rw [a1, a2, ob1_some, if_neg one0, obc_0]
    rcases within_c (a := 0) (b := 6) (by omega) (by omega) x2 with ⟨w, -, hw, rfl, b1, b2⟩ | ⟨b1, b2⟩
    · rw [show f_X6_within (nI w) 0 6 = some 1 from b1, show f_X5_requireWithin (nI w) 0 6 = some 0 from b2, ob1_some, if_neg one0, obc_0]
      have hday : f_X6_isDay I R (I 1) = some 1 := by
        rw [d1]
        rcases day_c (R := R) (Rx := Rx) hdd d1 d2 (nI d) with ⟨s, hs, -, e1, -⟩ | ⟨e, -, -⟩
        · exact e1
        · rcases e with e | e
          · exact absurd e (nI_nn (by omega))
          · exact absurd e (Int32.not_lt.mpr (Int32.le_refl _))
      rw [hday, ob1_some, if_neg one0, ob1_some, if_neg one0]
      have A4 := A_up0 A 0
      obtain ⟨R1, f1, f3, f4, f5, f6⟩ := kept_all A4 X (show 200 ≤ N by omega) K
      obtain ⟨v, R', Rk', q1, q2, q3, q4⟩ := tells_both (Ik := Ik) (cm := cmk) (P := P) hN hP A4.iP f3 f6 hdd f5 d4 hp hw
      refine ⟨(0, v, Rk'), (v, va_up I 0 0, R'), ?_, ?_, c0, fun _ => rfl, ?_, LEq.nine q4⟩
      · rw [q2, ob2_mk]
      · unfold f_X6_asOf_j45
        rw [refused_0, ob2_mk, if_pos rfl, d1, f1, ob1_some, q1, ob2_mk, ob3_mk]
      · exact IV.ask h9 (fun c hc => up_ne hc) (fun c hc => (q3 c (by omega)).trans (f4 c (by omega))) (LEq.nine q4)
    · rw [show f_X6_within x2 0 6 = some 0 from b1, show f_X5_requireWithin x2 0 6 = some 2 from b2, ob1_some, if_pos rfl, obc_2]
      exact bad 2 2 2 rfl (by decide) (by omega) refused_2
  · rw [a1, a2, ob1_some, if_pos rfl, obc_1]
    exact bad 1 1 1 rfl (by decide) (by omega) refused_1
theorem IVc.keep {Rk' : RI} (h : IVc N t n m P d g od ad Ix Rx ta ea wa Ik Rk cmk In Rn AL AI AR rs RL I R) (hk : LEq Rk Rk') : IVc N t n m P d g od ad Ix Rx ta ea wa Ik Rk' cmk In Rn AL AI AR rs RL I R := by
  obtain ⟨A, X, D, K, Z⟩ := h
  obtain ⟨ik, rk, ck, k1, k2⟩ := K
  exact ⟨A, X, D, ⟨ik, rk, ck, k1, k2.trans hk⟩, Z⟩
end KL2
end KL
