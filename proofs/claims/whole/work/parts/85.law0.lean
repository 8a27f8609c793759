/-! ===== the law: the tail of a case ===== -/
section LT
theorem pf_last2 {ps : List va_W} {a b c : va_W} (h : (b ++ c).Perm a) : (pf (ps ++ [b, c])).Perm (pf (ps ++ [a])) := (pf_last h.symm).symm
theorem crel_0 {e : List (Nat × Nat)} {k : Nat} {y : Int32} (h : CRel e k y) (hy : y = 0) (he : ∀ q ∈ e, nI q.2 ≠ 0) : k = 0 := by
  rcases h with ⟨h0, -⟩ | ⟨a, b, hm, ha, hb⟩
  · exact h0
  · exact absurd (hb.symm.trans hy) (he _ hm)
/-- .. where a roll is begun -/
theorem lm_r {cJ : ClassId} {ao : Nat} {g : Nat → Int64} {k0 : Nat} {v0 mv y : Int32} {W0 M' : va_W} {WS : Nat → (Nat → Nat) → va_W} {r : Option Value} {e : List (Nat × Nat)} {code : Nat → Int32} {fv : Int32 → Int64}
    (h : (∃ (v : Int32) (M1 : va_W), (0 = k0 ∧ ((0 : Nat) = 0 → some (Value.int v) = some (.int v0) ∧ ∃ q adr, M1 = WS q adr) ∧ ((0 : Nat) ≠ 0 → M1 = W0)) ∧ r = some (.int 0) ∧ M' = M1 ++ jW cJ ao (vp_updL g 0 (fv v))) ∨ (∃ (k : Nat) (rr : Option Value) (M1 : va_W), (k + 1 = k0 ∧ (k + 1 = 0 → rr = some (.int v0) ∧ ∃ q adr, M1 = WS q adr) ∧ (k + 1 ≠ 0 → M1 = W0)) ∧ r = some (.int (code k)) ∧ M' = M1 ++ jW cJ ao g))
    (hC : CRel e k0 y) (he : ∀ q ∈ e, q.1 ≠ 0 ∧ code (q.1 - 1) = nI q.2 ∧ nI q.2 ≠ 0) (hv : k0 = 0 → v0 = mv) : ∃ g' Wn, r = some (.int y) ∧ M' = Wn ++ jW cJ ao g' ∧ (y = 0 → g' 0 = fv mv) ∧ ((k0 = 0 ∧ ∃ q adr, Wn = WS q adr) ∨ (k0 ≠ 0 ∧ Wn = W0)) := by
  rcases h with ⟨v, M1, ⟨hk, hr, -⟩, rfl, rfl⟩ | ⟨k, rr, M1, ⟨hk, -, h2⟩, rfl, rfl⟩
  · obtain ⟨e1, q, adr, rfl⟩ := hr rfl
    injection e1 with e1
    injection e1 with e1
    have hy : y = 0 := by
      rcases hC with ⟨-, h⟩ | ⟨a, b, hm, ha, hb⟩
      · exact h
      · exact absurd (ha.symm.trans hk.symm) (he _ hm).1
    refine ⟨_, _, by rw [hy], rfl, fun _ => ?_, Or.inl ⟨hk.symm, q, adr, rfl⟩⟩
    rw [← hv hk.symm, ← e1]
    simp [vp_updL]
  · have hM := h2 (Nat.succ_ne_zero k)
    subst hM
    rcases hC with ⟨h0, -⟩ | ⟨a, b, hm, ha, hb⟩
    · omega
    · obtain ⟨-, h2, h3⟩ := he _ hm
      dsimp only at h2 h3
      have h4 : a - 1 = k := by omega
      rw [h4] at h2
      exact ⟨g, _, by rw [hb, ← h2], rfl, fun hy => absurd (hb.symm.trans hy) h3, Or.inr ⟨by omega, rfl⟩⟩
/-- .. where a roll may have grown -/
theorem lm_d {cJ : ClassId} {ao : Nat} {g : Nat → Int64} {k0 : Nat} {v0 mv y : Int32} {M' : va_W} {WS : (Nat → Nat) → va_W} {r : Option Value} {e : List (Nat × Nat)} {code : Nat → Int32} {fv : Int32 → Int64}
    (h : (∃ (v : Int32) (M1 : va_W), (0 = k0 ∧ ((0 : Nat) = 0 → some (Value.int v) = some (.int v0)) ∧ ∃ adr, M1 = WS adr) ∧ r = some (.int 0) ∧ M' = M1 ++ jW cJ ao (vp_updL g 0 (fv v))) ∨ (∃ (k : Nat) (rr : Option Value) (M1 : va_W), (k + 1 = k0 ∧ (k + 1 = 0 → rr = some (.int v0)) ∧ ∃ adr, M1 = WS adr) ∧ r = some (.int (code k)) ∧ M' = M1 ++ jW cJ ao g))
    (hC : CRel e k0 y) (he : ∀ q ∈ e, q.1 ≠ 0 ∧ code (q.1 - 1) = nI q.2 ∧ nI q.2 ≠ 0) (hv : k0 = 0 → v0 = mv) : ∃ g' adr, r = some (.int y) ∧ M' = WS adr ++ jW cJ ao g' ∧ (y = 0 → g' 0 = fv mv) := by
  rcases h with ⟨v, M1, ⟨hk, hr, adr, rfl⟩, rfl, rfl⟩ | ⟨k, rr, M1, ⟨hk, hr, adr, rfl⟩, rfl, rfl⟩
  · obtain ⟨g', h1, h2, h3⟩ := lm_s (cJ := cJ) (ao := ao) (g := g) (k0 := k0) (v0 := v0) (mv := mv) (y := y) (W0 := WS adr) (r := some (.int 0)) (e := e) (code := code) (fv := fv) (Or.inl ⟨v, _, ⟨hk, hr, rfl⟩, rfl, rfl⟩) hC he hv
    exact ⟨g', adr, h1, h2, h3⟩
  · obtain ⟨g', h1, h2, h3⟩ := lm_s (cJ := cJ) (ao := ao) (g := g) (k0 := k0) (v0 := v0) (mv := mv) (y := y) (W0 := WS adr) (r := some (.int (code k))) (e := e) (code := code) (fv := fv) (Or.inr ⟨k, rr, _, ⟨hk, hr, rfl⟩, rfl, rfl⟩) hC he hv
    exact ⟨g', adr, h1, h2, h3⟩
section LTrows
variable {p : Program} {l : Launch} {e : Env} {s : State} {m : MethodId} {args : Array Value} {below : List Frame} {meth : Method} {c : Code} {G : va_G} {cI cZ cQ cU cJ : ClassId} {A : Nat → Prop} {Qf : Unit → State → Prop} {cells slots : Nat} {b ox om oj : Nat} {i : Int32} {f : Option Unit}
theorem law_bool {M : va_W} {lv : List (Nat × Value)} {st : List Value} {x z : Int32} (T : Nat) (C : Cx p s m args meth c cL_law 7 wsL_law RL G vwCl (tys cI cZ cQ cU cJ) nws A) (hz : z = if x = 0 then 0 else 1) (d0 : decode cL_law T = .ok (.ifCond .eq 7, 3)) (d3 : decode cL_law (T + 3) = .ok (.iconst 1, 1)) (d4 : decode cL_law (T + 4) = .ok (.goto 4, 3)) (d7 : decode cL_law (T + 7) = .ok (.iconst 0, 1)) (k : VJ p l e room_1 s m args below meth c 7 G vwCl A Qf cells slots f M (T + 8) lv (.int z :: st)) : VJ p l e room_1 s m args below meth c 7 G vwCl A Qf cells slots f M T lv (.int x :: st) := by
  refine VJ.two (P := x = 0) ?_
  refine VJ.if_eq C (T + 7) d0 (by omega) (fun h => ?_) (fun h => ?_)
  · rw [if_pos h] at hz
    subst hz
    exact VJ.iconst C d7 (by decide) k
  · rw [if_neg h] at hz
    subst hz
    refine VJ.iconst (v := 1) C d3 (by decide) ?_
    exact VJ.goto C (T + 8) d4 (by omega) k
theorem law_tail {g : Nat → Int64} {adm : Nat → Nat} {I : OI} {R : RI} {rest : List va_W} {v y : Int32} (T : Nat) (C : Cx p s m args meth c cL_law 7 wsL_law RL G vwCl (tys cI cZ cQ cU cJ) nws A) (hR : cells ≤ room_1.cells ∧ slots ≤ room_1.slots) (hy : y = I 0) (hv : y = 0 → g 0 = v.toInt64)
    (d0 : decode cL_law T = .ok (.aload_n 2, 1)) (d1 : decode cL_law (T + 1) = .ok (.invokevirtual 117, 3)) (d4 : decode cL_law (T + 4) = .ok (.iload 5, 2)) (d6 : decode cL_law (T + 6) = .ok (.if_icmp .eq 5, 3)) (d11 : decode cL_law (T + 11) = .ok (.iload 5, 2)) (d13 : decode cL_law (T + 13) = .ok (.ifCond .ne 15, 3)) (d16 : decode cL_law (T + 16) = .ok (.aload_n 3, 1)) (d17 : decode cL_law (T + 17) = .ok (.iconst 0, 1)) (d18 : decode cL_law (T + 18) = .ok (.laload, 1)) (d19 : decode cL_law (T + 19) = .ok (.iload 6, 2)) (d21 : decode cL_law (T + 21) = .ok (.i2l, 1)) (d22 : decode cL_law (T + 22) = .ok (.lcmp, 1)) (d23 : decode cL_law (T + 23) = .ok (.ifCond .eq 5, 3)) {off : Int} (d28 : decode cL_law (T + 28) = .ok (.goto off, 3)) (hg : ((T + 28 : Nat) : Int) + off = ((2216 : Nat) : Int))
    (k : VJ p l e room_1 s m args below meth c 7 G vwCl A Qf cells slots f (pf (jW cJ oj g :: mW cI cZ om adm I R :: rest)) 2216 [(6, .int v), (5, .int y), (0, .ref b), (1, .ref ox), (2, .ref om), (3, .ref oj), (4, .int i)] []) :
    VJ p l e room_1 s m args below meth c 7 G vwCl A Qf cells slots f (pf (jW cJ oj g :: mW cI cZ om adm I R :: rest)) T [(6, .int v), (5, .int y), (0, .ref b), (1, .ref ox), (2, .ref om), (3, .ref oj), (4, .int i)] [] := by
  refine VJ.aload_n C 4 d0 rfl ?_
  refine VJ.callC C [] (pf [mW cI cZ om adm I R]) (pf (jW cJ oj g :: rest)) (pf (jW cJ oj g :: mW cI cZ om adm I R :: rest)) (c_X6_thrown l G cI cZ cQ cU cJ om adm I R (I 0) rfl) (pf_m1 _ _ _) (pf_m2 _ _ _) 0 rfl rfl (cwV 0 C.1.2.2.2.2 gL_law_X6_thrown rfl rfl rfl hyV_X6_thrown ⟨Nat.le_of_ble_eq_true rfl, Nat.le_of_ble_eq_true rfl⟩) rfl rfl (Nat.le_of_ble_eq_true rfl) d1 ⟨rfl, rfl⟩ hR ?_
  refine VJ.iload C 1 d4 rfl ?_
  refine VJ.two (P := I 0 = y) ?_
  refine VJ.icmp_eq C (T + 11) d6 (by omega) (fun _ => ?_) (fun h => absurd hy.symm h)
  refine VJ.iload C 1 d11 rfl ?_
  refine VJ.two (P := y = 0) ?_
  refine VJ.if_ne C (T + 28) d13 (by omega) (fun _ => VJ.goto C 2216 d28 hg k) (fun h0 => ?_)
  refine VJ.aload_n C 5 d16 rfl ?_
  refine VJ.iconst (v := 0) C d17 (by decide) ?_
  refine VJ.lald C 0 4 rfl rfl (show ¬ ((0 : Int32) < 0 ∨ 1 ≤ (0 : Int32).toNatClampNeg) from by decide) d18 ?_
  refine VJ.iload C 0 d19 rfl ?_
  refine VJ.i2l C d21 ?_
  refine VJ.lcmp C d22 ?_
  refine VJ.two (P := lg_cmp (g (0 : Int32).toNatClampNeg) v.toInt64 = 0) ?_
  refine VJ.if_eq C (T + 28) d23 (by omega) (fun _ => VJ.goto C 2216 d28 hg k) (fun h => absurd ?_ h)
  have e1 : g (0 : Int32).toNatClampNeg = v.toInt64 := hv h0
  rw [e1]
  unfold lg_cmp
  simp
theorem law_tailz {g : Nat → Int64} {adm : Nat → Nat} {I : OI} {R : RI} {rest : List va_W} {v y : Int32} (T : Nat) (C : Cx p s m args meth c cL_law 7 wsL_law RL G vwCl (tys cI cZ cQ cU cJ) nws A) (hR : cells ≤ room_1.cells ∧ slots ≤ room_1.slots) (hy : y = I 0) (hv : y = 0 → g 0 = if v = 0 then 0 else 1)
    (d0 : decode cL_law T = .ok (.aload_n 2, 1)) (d1 : decode cL_law (T + 1) = .ok (.invokevirtual 117, 3)) (d4 : decode cL_law (T + 4) = .ok (.iload 5, 2)) (d6 : decode cL_law (T + 6) = .ok (.if_icmp .eq 5, 3)) (d11 : decode cL_law (T + 11) = .ok (.iload 5, 2)) (d13 : decode cL_law (T + 13) = .ok (.ifCond .ne 22, 3)) (d16 : decode cL_law (T + 16) = .ok (.aload_n 3, 1)) (d17 : decode cL_law (T + 17) = .ok (.iconst 0, 1)) (d18 : decode cL_law (T + 18) = .ok (.laload, 1)) (d19 : decode cL_law (T + 19) = .ok (.iload 6, 2)) (d21 : decode cL_law (T + 21) = .ok (.ifCond .eq 7, 3)) (d24 : decode cL_law (T + 24) = .ok (.lconst 1, 1)) (d25 : decode cL_law (T + 25) = .ok (.goto 4, 3)) (d28 : decode cL_law (T + 28) = .ok (.lconst 0, 1)) (d29 : decode cL_law (T + 29) = .ok (.lcmp, 1)) (d30 : decode cL_law (T + 30) = .ok (.ifCond .eq 5, 3)) {off : Int} (d35 : decode cL_law (T + 35) = .ok (.goto off, 3)) (hg : ((T + 35 : Nat) : Int) + off = ((2216 : Nat) : Int))
    (k : VJ p l e room_1 s m args below meth c 7 G vwCl A Qf cells slots f (pf (jW cJ oj g :: mW cI cZ om adm I R :: rest)) 2216 [(6, .int v), (5, .int y), (0, .ref b), (1, .ref ox), (2, .ref om), (3, .ref oj), (4, .int i)] []) :
    VJ p l e room_1 s m args below meth c 7 G vwCl A Qf cells slots f (pf (jW cJ oj g :: mW cI cZ om adm I R :: rest)) T [(6, .int v), (5, .int y), (0, .ref b), (1, .ref ox), (2, .ref om), (3, .ref oj), (4, .int i)] [] := by
  refine VJ.aload_n C 4 d0 rfl ?_
  refine VJ.callC C [] (pf [mW cI cZ om adm I R]) (pf (jW cJ oj g :: rest)) (pf (jW cJ oj g :: mW cI cZ om adm I R :: rest)) (c_X6_thrown l G cI cZ cQ cU cJ om adm I R (I 0) rfl) (pf_m1 _ _ _) (pf_m2 _ _ _) 0 rfl rfl (cwV 0 C.1.2.2.2.2 gL_law_X6_thrown rfl rfl rfl hyV_X6_thrown ⟨Nat.le_of_ble_eq_true rfl, Nat.le_of_ble_eq_true rfl⟩) rfl rfl (Nat.le_of_ble_eq_true rfl) d1 ⟨rfl, rfl⟩ hR ?_
  refine VJ.iload C 1 d4 rfl ?_
  refine VJ.two (P := I 0 = y) ?_
  refine VJ.icmp_eq C (T + 11) d6 (by omega) (fun _ => ?_) (fun h => absurd hy.symm h)
  refine VJ.iload C 1 d11 rfl ?_
  refine VJ.two (P := y = 0) ?_
  refine VJ.if_ne C (T + 35) d13 (by omega) (fun _ => VJ.goto C 2216 d35 hg k) (fun h0 => ?_)
  refine VJ.aload_n C 5 d16 rfl ?_
  refine VJ.iconst (v := 0) C d17 (by decide) ?_
  refine VJ.lald C 0 4 rfl rfl (show ¬ ((0 : Int32) < 0 ∨ 1 ≤ (0 : Int32).toNatClampNeg) from by decide) d18 ?_
  refine VJ.iload C 0 d19 rfl ?_
  refine VJ.two (P := v = 0) ?_
  have e1 : g (0 : Int32).toNatClampNeg = if v = 0 then 0 else 1 := hv h0
  refine VJ.if_eq C (T + 28) d21 (by omega) (fun hz => ?_) (fun hz => ?_)
  · refine VJ.lconst (v := 0) C d28 (by decide) ?_
    refine VJ.lcmp C d29 ?_
    refine VJ.two (P := lg_cmp (g (0 : Int32).toNatClampNeg) 0 = 0) ?_
    refine VJ.if_eq C (T + 35) d30 (by omega) (fun _ => VJ.goto C 2216 d35 hg k) (fun h => absurd ?_ h)
    rw [e1, if_pos hz]
    decide
  · refine VJ.lconst (v := 1) C d24 (by decide) ?_
    refine VJ.goto C (T + 29) d25 (by omega) ?_
    refine VJ.lcmp C d29 ?_
    refine VJ.two (P := lg_cmp (g (0 : Int32).toNatClampNeg) 1 = 0) ?_
    refine VJ.if_eq C (T + 35) d30 (by omega) (fun _ => VJ.goto C 2216 d35 hg k) (fun h => absurd ?_ h)
    rw [e1, if_neg hz]
    decide
end LTrows
end LT
