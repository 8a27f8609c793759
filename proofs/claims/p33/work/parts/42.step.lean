/-! ===== PURE: an act counts in both lands alike ===== -/
section PS
abbrev ActOK (AL : List Nat) (AI : Nat → OI) (R Rk : RI) (x a w p : Nat) (q : Int32) : Prop := (x ∈ AL) ∧ (a < 150) ∧ (w < 24) ∧ (p = root (R 11) w) ∧ (AI x 3 = nI w) ∧ ((AI x 4 = -1 ∧ q = -1) ∨ ∃ o, o < 24 ∧ AI x 4 = nI o ∧ q = nI (root (R 11) o)) ∧ (AI x 2 = R 2 a) ∧ (AI x 5 = R 5 a) ∧ (AI x 6 = R 6 a)
theorem ActOK.hx {AL : List Nat} {AI : Nat → OI} {R Rk : RI} {x a w p : Nat} {q : Int32} (h9 : ActOK AL AI R Rk x a w p q) : x ∈ AL := h9.1
theorem ActOK.ha {AL : List Nat} {AI : Nat → OI} {R Rk : RI} {x a w p : Nat} {q : Int32} (h9 : ActOK AL AI R Rk x a w p q) : a < 150 := h9.2.1
theorem ActOK.hw {AL : List Nat} {AI : Nat → OI} {R Rk : RI} {x a w p : Nat} {q : Int32} (h9 : ActOK AL AI R Rk x a w p q) : w < 24 := h9.2.2.1
theorem ActOK.hp {AL : List Nat} {AI : Nat → OI} {R Rk : RI} {x a w p : Nat} {q : Int32} (h9 : ActOK AL AI R Rk x a w p q) : p = root (R 11) w := h9.2.2.2.1
theorem ActOK.h3 {AL : List Nat} {AI : Nat → OI} {R Rk : RI} {x a w p : Nat} {q : Int32} (h9 : ActOK AL AI R Rk x a w p q) : AI x 3 = nI w := h9.2.2.2.2.1
theorem ActOK.h4 {AL : List Nat} {AI : Nat → OI} {R Rk : RI} {x a w p : Nat} {q : Int32} (h9 : ActOK AL AI R Rk x a w p q) : (AI x 4 = -1 ∧ q = -1) ∨ ∃ o, o < 24 ∧ AI x 4 = nI o ∧ q = nI (root (R 11) o) := h9.2.2.2.2.2.1
theorem ActOK.h2 {AL : List Nat} {AI : Nat → OI} {R Rk : RI} {x a w p : Nat} {q : Int32} (h9 : ActOK AL AI R Rk x a w p q) : AI x 2 = R 2 a := h9.2.2.2.2.2.2.1
theorem ActOK.h5 {AL : List Nat} {AI : Nat → OI} {R Rk : RI} {x a w p : Nat} {q : Int32} (h9 : ActOK AL AI R Rk x a w p q) : AI x 5 = R 5 a := h9.2.2.2.2.2.2.2.1
theorem ActOK.h6 {AL : List Nat} {AI : Nat → OI} {R Rk : RI} {x a w p : Nat} {q : Int32} (h9 : ActOK AL AI R Rk x a w p q) : AI x 6 = R 6 a := h9.2.2.2.2.2.2.2.2
theorem happen_eq {AL : List Nat} {I : OI} {cm : Option Nat} {AI : Nat → OI} {AR : Nat → OO} {R Rk : RI} {x a w p : Nat} {q : Int32} (h : ActOK AL AI R Rk x a w p q) (hL : LR R Rk) :
    f_X2_happen AL I cm AI AR Rk x = (if (AI x 0) = 0 then (f_X2_beBorn AL I cm AI AR Rk (nI p) q x) else (if (AI x 0) = 1 then (ob1 (f_X2_isLiving I Rk cm (nI p)) (fun r7 => if r7 = 0 then (some Rk) else some (va_up Rk 2 (putv 24 (Rk 2) (nI p) (R 5 a))))) else (if (AI x 0) = 2 then (ob1 (f_X2_isLiving I Rk cm (nI p)) (fun r10 => if r10 = 0 then (some Rk) else some (va_up Rk 3 (putv 24 (Rk 3) (nI p) (R 6 a))))) else (if (AI x 0) = 3 then (f_X2_bond I cm Rk (nI p) q) else (if (AI x 0) = 4 then (f_X2_part I cm Rk (nI p) q) else (if (AI x 0) = 5 then (f_X2_die I cm Rk (nI p)) else (if (AI x 0) = 6 then (f_X2_adopt I cm Rk (nI p) q) else (some Rk)))))))) := by
  have e1 : atv 24 (Rk 0) (AI x 3) = nI p := by rw [h.h3, atv_nI h.hw (by omega), hL.mt w h.hw, h.hp]
  have e2 : atv 24 (Rk 0) (AI x 4) = q := by
    rcases h.h4 with ⟨h1, h2⟩ | ⟨o, ho, h1, h2⟩
    · rw [h1, h2, atv_m1]
    · rw [h1, h2, atv_nI ho (by omega), hL.mt o ho]
  have eo : ∀ y : Option RI, ob1 y (fun R6 => some R6) = y := fun y => by cases y <;> rfl
  unfold f_X2_happen
  simp only [om_mem h.hx, ol_eq, e1, e2, h.h5, h.h6, eo]
theorem bd {a : Nat} (h : a < 150) : a < 2147483648 := by omega
theorem bd4 {a : Nat} (h : a < 24) : a < 2147483648 := by omega
/-- what an act does in both lands -/
def Both (R Rk : RI) (a b : Option RI) : Prop := ∃ R' Rk', a = some R' ∧ b = some Rk' ∧ LR R' Rk' ∧ WF R' ∧ SameR R R'
theorem Both.same {R Rk : RI} (hW : WF R) (hL : LR R Rk) : Both R Rk (some R) (some Rk) := ⟨R, Rk, rfl, rfl, hL, hW, fun _ _ => rfl⟩
section step
variable {AL : List Nat} {I Im : OI} {cm : Option Nat} {AI : Nat → OI} {AR : Nat → OO} {R Rk : RI} {x a w p : Nat} {q : Int32}
theorem stp (hL : LR R Rk) {p : Nat} (hp : p < 24) (h0 : R 11 p = -1) : Rk 1 p = R 12 p := by rw [hL.st p hp, if_pos h0]
theorem LR.uhm (hL : LR R Rk) (j0 : Nat) (v : Int32) : LR (va_up R 13 (upd (R 13) j0 v)) (va_up Rk 2 (upd (Rk 2) j0 v)):= by
  refine ⟨?_, ?_, ?_, ?_, ?_, ?_, ?_, ?_, ?_⟩
  · exact fun j hj => by simpa [va_up] using hL.mt j hj
  · exact fun j hj => by simpa [va_up] using hL.st j hj
  · exact fun j hj => by simp only [va_up, upd, if_true]; split; rfl; exact hL.hm j hj
  · exact fun j hj => by simpa [va_up] using hL.nm j hj
  · exact fun j hj => by simpa [va_up] using hL.pr j hj
  · exact fun j hj => by simpa [va_up] using hL.mo j hj
  · exact fun j hj => by simpa [va_up] using hL.bm j hj
  · exact fun j hj => by simpa [va_up] using hL.bd j hj
  · exact fun j hj => by simpa [va_up] using hL.ad j hj
theorem LR.unm (hL : LR R Rk) (j0 : Nat) (v : Int32) : LR (va_up R 14 (upd (R 14) j0 v)) (va_up Rk 3 (upd (Rk 3) j0 v)):= by
  refine ⟨?_, ?_, ?_, ?_, ?_, ?_, ?_, ?_, ?_⟩
  · exact fun j hj => by simpa [va_up] using hL.mt j hj
  · exact fun j hj => by simpa [va_up] using hL.st j hj
  · exact fun j hj => by simpa [va_up] using hL.hm j hj
  · exact fun j hj => by simp only [va_up, upd, if_true]; split; rfl; exact hL.nm j hj
  · exact fun j hj => by simpa [va_up] using hL.pr j hj
  · exact fun j hj => by simpa [va_up] using hL.mo j hj
  · exact fun j hj => by simpa [va_up] using hL.bm j hj
  · exact fun j hj => by simpa [va_up] using hL.bd j hj
  · exact fun j hj => by simpa [va_up] using hL.ad j hj
theorem LR.upr (hL : LR R Rk) (j0 : Nat) (v : Int32) : LR (va_up R 15 (upd (R 15) j0 v)) (va_up Rk 4 (upd (Rk 4) j0 v)):= by
  refine ⟨?_, ?_, ?_, ?_, ?_, ?_, ?_, ?_, ?_⟩
  · exact fun j hj => by simpa [va_up] using hL.mt j hj
  · exact fun j hj => by simpa [va_up] using hL.st j hj
  · exact fun j hj => by simpa [va_up] using hL.hm j hj
  · exact fun j hj => by simpa [va_up] using hL.nm j hj
  · exact fun j hj => by simp only [va_up, upd, if_true]; split; rfl; exact hL.pr j hj
  · exact fun j hj => by simpa [va_up] using hL.mo j hj
  · exact fun j hj => by simpa [va_up] using hL.bm j hj
  · exact fun j hj => by simpa [va_up] using hL.bd j hj
  · exact fun j hj => by simpa [va_up] using hL.ad j hj
theorem LR.umo (hL : LR R Rk) (j0 : Nat) (v : Int32) : LR (va_up R 16 (upd (R 16) j0 v)) (va_up Rk 5 (upd (Rk 5) j0 v)):= by
  refine ⟨?_, ?_, ?_, ?_, ?_, ?_, ?_, ?_, ?_⟩
  · exact fun j hj => by simpa [va_up] using hL.mt j hj
  · exact fun j hj => by simpa [va_up] using hL.st j hj
  · exact fun j hj => by simpa [va_up] using hL.hm j hj
  · exact fun j hj => by simpa [va_up] using hL.nm j hj
  · exact fun j hj => by simpa [va_up] using hL.pr j hj
  · exact fun j hj => by simp only [va_up, upd, if_true]; split; rfl; exact hL.mo j hj
  · exact fun j hj => by simpa [va_up] using hL.bm j hj
  · exact fun j hj => by simpa [va_up] using hL.bd j hj
  · exact fun j hj => by simpa [va_up] using hL.ad j hj
theorem LR.ubm (hL : LR R Rk) (j0 : Nat) (v : Int32) : LR (va_up R 18 (upd (R 18) j0 v)) (va_up Rk 6 (upd (Rk 6) j0 v)):= by
  refine ⟨?_, ?_, ?_, ?_, ?_, ?_, ?_, ?_, ?_⟩
  · exact fun j hj => by simpa [va_up] using hL.mt j hj
  · exact fun j hj => by simpa [va_up] using hL.st j hj
  · exact fun j hj => by simpa [va_up] using hL.hm j hj
  · exact fun j hj => by simpa [va_up] using hL.nm j hj
  · exact fun j hj => by simpa [va_up] using hL.pr j hj
  · exact fun j hj => by simpa [va_up] using hL.mo j hj
  · exact fun j hj => by simp only [va_up, upd, if_true]; split; rfl; exact hL.bm j hj
  · exact fun j hj => by simpa [va_up] using hL.bd j hj
  · exact fun j hj => by simpa [va_up] using hL.ad j hj
theorem LR.ubd (hL : LR R Rk) (j0 : Nat) (v : Int32) : LR (va_up R 17 (upd (R 17) j0 v)) (va_up Rk 7 (upd (Rk 7) j0 v)):= by
  refine ⟨?_, ?_, ?_, ?_, ?_, ?_, ?_, ?_, ?_⟩
  · exact fun j hj => by simpa [va_up] using hL.mt j hj
  · exact fun j hj => by simpa [va_up] using hL.st j hj
  · exact fun j hj => by simpa [va_up] using hL.hm j hj
  · exact fun j hj => by simpa [va_up] using hL.nm j hj
  · exact fun j hj => by simpa [va_up] using hL.pr j hj
  · exact fun j hj => by simpa [va_up] using hL.mo j hj
  · exact fun j hj => by simpa [va_up] using hL.bm j hj
  · exact fun j hj => by simp only [va_up, upd, if_true]; split; rfl; exact hL.bd j hj
  · exact fun j hj => by simpa [va_up] using hL.ad j hj
theorem LR.uad (hL : LR R Rk) (j0 : Nat) (v : Int32) : LR (va_up R 19 (upd (R 19) j0 v)) (va_up Rk 8 (upd (Rk 8) j0 v)):= by
  refine ⟨?_, ?_, ?_, ?_, ?_, ?_, ?_, ?_, ?_⟩
  · exact fun j hj => by simpa [va_up] using hL.mt j hj
  · exact fun j hj => by simpa [va_up] using hL.st j hj
  · exact fun j hj => by simpa [va_up] using hL.hm j hj
  · exact fun j hj => by simpa [va_up] using hL.nm j hj
  · exact fun j hj => by simpa [va_up] using hL.pr j hj
  · exact fun j hj => by simpa [va_up] using hL.mo j hj
  · exact fun j hj => by simpa [va_up] using hL.bm j hj
  · exact fun j hj => by simpa [va_up] using hL.bd j hj
  · exact fun j hj => by simp only [va_up, upd, if_true]; split; rfl; exact hL.ad j hj
theorem LR.ust (hL : LR R Rk) {j0 : Nat} (h0 : R 11 j0 = -1) (v : Int32) : LR (va_up R 12 (upd (R 12) j0 v)) (va_up Rk 1 (upd (Rk 1) j0 v)):= by
  refine ⟨?_, ?_, ?_, ?_, ?_, ?_, ?_, ?_, ?_⟩
  · exact fun j hj => by simpa [va_up] using hL.mt j hj
  · exact fun j hj => by
      by_cases e : j = j0
      · subst e; simp [va_up, upd, h0]
      · simpa [va_up, upd, e] using hL.st j hj
  · exact fun j hj => by simpa [va_up] using hL.hm j hj
  · exact fun j hj => by simpa [va_up] using hL.nm j hj
  · exact fun j hj => by simpa [va_up] using hL.pr j hj
  · exact fun j hj => by simpa [va_up] using hL.mo j hj
  · exact fun j hj => by simpa [va_up] using hL.bm j hj
  · exact fun j hj => by simpa [va_up] using hL.bd j hj
  · exact fun j hj => by simpa [va_up] using hL.ad j hj
theorem WF.u13 (hW : WF R) (j0 : Nat) (v : Int32) : WF (va_up R 13 (upd (R 13) j0 v)):= by
  refine ⟨?_, ?_, ?_, ?_⟩
  · exact by simpa [va_up] using hW.ld
  · exact by simpa [va_up] using hW.st
  · exact by simpa [va_up] using hW.pr
  · exact by simpa [va_up] using hW.mo
theorem WF.u14 (hW : WF R) (j0 : Nat) (v : Int32) : WF (va_up R 14 (upd (R 14) j0 v)):= by
  refine ⟨?_, ?_, ?_, ?_⟩
  · exact by simpa [va_up] using hW.ld
  · exact by simpa [va_up] using hW.st
  · exact by simpa [va_up] using hW.pr
  · exact by simpa [va_up] using hW.mo
theorem WF.u17 (hW : WF R) (j0 : Nat) (v : Int32) : WF (va_up R 17 (upd (R 17) j0 v)):= by
  refine ⟨?_, ?_, ?_, ?_⟩
  · exact by simpa [va_up] using hW.ld
  · exact by simpa [va_up] using hW.st
  · exact by simpa [va_up] using hW.pr
  · exact by simpa [va_up] using hW.mo
theorem WF.u18 (hW : WF R) (j0 : Nat) (v : Int32) : WF (va_up R 18 (upd (R 18) j0 v)):= by
  refine ⟨?_, ?_, ?_, ?_⟩
  · exact by simpa [va_up] using hW.ld
  · exact by simpa [va_up] using hW.st
  · exact by simpa [va_up] using hW.pr
  · exact by simpa [va_up] using hW.mo
theorem WF.u19 (hW : WF R) (j0 : Nat) (v : Int32) : WF (va_up R 19 (upd (R 19) j0 v)):= by
  refine ⟨?_, ?_, ?_, ?_⟩
  · exact by simpa [va_up] using hW.ld
  · exact by simpa [va_up] using hW.st
  · exact by simpa [va_up] using hW.pr
  · exact by simpa [va_up] using hW.mo
theorem WF.u12 (hW : WF R) (j0 : Nat) {v : Int32} (hv : v = 0 ∨ v = 1 ∨ v = 2) : WF (va_up R 12 (upd (R 12) j0 v)):= by
  refine ⟨?_, ?_, ?_, ?_⟩
  · exact by simpa [va_up] using hW.ld
  · exact fun j hj => by
      by_cases e : j = j0
      · subst e; simpa [va_up, upd] using hv
      · simpa [va_up, upd, e] using hW.st j hj
  · exact by simpa [va_up] using hW.pr
  · exact by simpa [va_up] using hW.mo
theorem WF.u15 (hW : WF R) (j0 : Nat) {v : Int32} (hv : PN 24 v) : WF (va_up R 15 (upd (R 15) j0 v)):= by
  refine ⟨?_, ?_, ?_, ?_⟩
  · exact by simpa [va_up] using hW.ld
  · exact by simpa [va_up] using hW.st
  · exact fun j hj => by
      by_cases e : j = j0
      · subst e; simpa [va_up, upd] using hv
      · simpa [va_up, upd, e] using hW.pr j hj
  · exact by simpa [va_up] using hW.mo
theorem WF.u16 (hW : WF R) (j0 : Nat) {v : Int32} (hv : PN 24 v) : WF (va_up R 16 (upd (R 16) j0 v)):= by
  refine ⟨?_, ?_, ?_, ?_⟩
  · exact by simpa [va_up] using hW.ld
  · exact by simpa [va_up] using hW.st
  · exact by simpa [va_up] using hW.pr
  · exact fun j hj => by
      by_cases e : j = j0
      · subst e; simpa [va_up, upd] using hv
      · simpa [va_up, upd, e] using hW.mo j hj
theorem SameR.rf : SameR R R := fun _ _ => rfl
theorem SameR.up {R0 : RI} (h : SameR R0 R) {mc : Nat} (hm : 12 ≤ mc ∧ mc ≤ 19) (g : Nat → Int32) : SameR R0 (va_up R mc g) := fun c hc => by
  have : c ≠ mc := fun e => hc (e ▸ hm)
  rw [up_ne this]
  exact h c hc
theorem PN.m1 {n : Nat} : PN n (-1) := Or.inl rfl
theorem PN.nI {n j : Nat} (h : j < n) : PN n (nI j) := Or.inr ⟨j, h, rfl⟩
theorem Both.mk {R' Rk' : RI} {a b : Option RI} (ha : a = some R') (hb : b = some Rk') (h1 : LR R' Rk') (h2 : WF R') (h3 : SameR R R') : Both R Rk a b := ⟨R', Rk', ha, hb, h1, h2, h3⟩
theorem liv {j : Nat} (hL : LR R Rk) (hj : j < 24) (h0 : R 11 j = -1) : f_X2_isLiving I Rk cm (nI j) = some (if R 12 j = 1 then 1 else 0) := by
  rw [isLiving_nI hj, stp hL hj h0]
theorem one0 : ¬ ((1 : Int32) = 0) := by decide
theorem ob1_ite {P O : Type} {c : Prop} [Decidable c] {a b : P} {K : P → Option O} : ob1 (some (if c then a else b)) K = if c then K a else K b := by split <;> rfl
theorem up_id {R : RI} {c j : Nat} : va_up R c (upd (R c) j (R c j)) = R := by
  funext c' j'
  by_cases e : c' = c
  · subst e
    rw [up_same]
    by_cases e2 : j' = j
    · subst e2; rw [upd_same]
    · rw [upd_ne e2]
  · rw [up_ne e]
theorem up_id' {R : RI} {c c0 j : Nat} {g : Nat → Int32} (h : c ≠ c0) : va_up (va_up R c0 g) c (upd (va_up R c0 g c) j (R c j)) = va_up R c0 g := by
  have e : R c j = va_up R c0 g c j := by rw [up_ne h]
  rw [e]
  exact up_id
/-- MOVE -/
theorem step1 (h : ActOK AL AI R Rk x a w p q) (hW : WF R) (hL : LR R Rk) (hk : R 0 a = 1) (hk' : AI x 0 = 1) :
    Both R Rk (f_X6_count Im R (nI a) (nI p) q) (f_X2_happen AL I cm AI AR Rk x) := by
  have hp : p < 24 := h.hp ▸ root_lt hW.ld h.hw
  have h0 : R 11 p = -1 := h.hp ▸ root_top hW.ld h.hw
  rw [happen_eq h hL, hk', if_neg one0, if_pos rfl, liv hL hp h0]
  unfold f_X6_count
  rw [og_nI h.ha (by omega), nI_tn (bd h.ha), hk, if_neg one0, og_nI hp (by omega), nI_tn (bd4 hp)]
  by_cases hs : R 12 p = 1
  · rw [if_pos hs, if_pos hs, ob1_some, if_neg one0, putv_nI hp (by omega)]
    simp only [og_nI h.ha (show 150 < 2147483648 by omega), og_nI hp (show 24 < 2147483648 by omega), ol_eq]
    rw [if_neg (show ¬ (3 : Int32) ≤ 1 by decide), if_pos trivial]
    refine Both.mk (R' := va_up R 13 (upd (R 13) p (R 5 a))) ?_ rfl (hL.uhm p _) (hW.u13 p _) (SameR.rf.up (by omega) _)
    unfold f_X6_count_j157 f_X6_count_j188
    simp only [og_nI h.ha (show 150 < 2147483648 by omega), og_nI hp (show 24 < 2147483648 by omega), ol_eq, nI_tn (bd h.ha), nI_tn (bd4 hp)]
    rw [up_ne (by omega), hk, if_neg (show ¬ (1 : Int32) = 2 by decide), up_ne (show 14 ≠ 13 by omega)]
    exact congrArg some (by have := up_id' (R := R) (c := 14) (c0 := 13) (j := p) (g := upd (R 13) p (R 5 a)) (by omega); rwa [up_ne (show 14 ≠ 13 by omega)] at this)
  · rw [if_neg hs, if_neg hs]
    exact Both.same hW hL
/-- NAMING -/
theorem step2 (h : ActOK AL AI R Rk x a w p q) (hW : WF R) (hL : LR R Rk) (hk : R 0 a = 2) (hk' : AI x 0 = 2) :
    Both R Rk (f_X6_count Im R (nI a) (nI p) q) (f_X2_happen AL I cm AI AR Rk x) := by
  have hp : p < 24 := h.hp ▸ root_lt hW.ld h.hw
  have h0 : R 11 p = -1 := h.hp ▸ root_top hW.ld h.hw
  rw [happen_eq h hL, hk', if_neg (show ¬ (2 : Int32) = 0 by decide), if_neg (show ¬ (2 : Int32) = 1 by decide), if_pos rfl, liv hL hp h0]
  unfold f_X6_count
  rw [og_nI h.ha (by omega), nI_tn (bd h.ha), hk, if_neg (show ¬ (2 : Int32) = 0 by decide), og_nI hp (by omega), nI_tn (bd4 hp)]
  by_cases hs : R 12 p = 1
  · rw [if_pos hs, if_pos hs, ob1_some, if_neg one0, putv_nI hp (by omega)]
    simp only [og_nI h.ha (show 150 < 2147483648 by omega), og_nI hp (show 24 < 2147483648 by omega), ol_eq]
    rw [if_neg (show ¬ (3 : Int32) ≤ 2 by decide), if_neg (show ¬ (2 : Int32) = 1 by decide)]
    refine Both.mk (R' := va_up R 14 (upd (R 14) p (R 6 a))) ?_ rfl (hL.unm p _) (hW.u14 p _) (SameR.rf.up (by omega) _)
    unfold f_X6_count_j157 f_X6_count_j188
    simp only [og_nI h.ha (show 150 < 2147483648 by omega), og_nI hp (show 24 < 2147483648 by omega), ol_eq, nI_tn (bd h.ha), nI_tn (bd4 hp), up_id]
    rw [hk, if_pos rfl]
  · rw [if_neg hs, if_neg hs]
    exact Both.same hW hL
/-- BIRTH, with the mother that is found -/
theorem birth_both (h : ActOK AL AI R Rk x a w p q) (hW : WF R) (hL : LR R Rk) (hp : p < 24) (h0 : R 11 p = -1) {y : Int32} (hy : PN 24 y) :
    Both R Rk (f_X6_count_j91 Im (va_up (va_up (va_up (va_up R 12 (upd (R 12) p 1)) 13 (upd (R 13) p (R 5 a))) 14 (upd (R 14) p (R 6 a))) 17 (upd (R 17) p (R 2 a))) (nI p) y (nI p)) (f_X2_beBorn_j30 AL I cm AI AR Rk (nI p) x y) := by
  unfold f_X6_count_j91 f_X2_beBorn_j30
  simp only [om_mem h.hx, ol_eq, og_nI hp (show 24 < 2147483648 by omega), nI_tn (bd4 hp), putv_nI hp (show 24 < 2147483648 by omega), h.h5, h.h6, h.h2]
  refine Both.mk rfl rfl ?_ ?_ ?_
  · refine ⟨?_, ?_, ?_, ?_, ?_, ?_, ?_, ?_, ?_⟩
    · intro j hj; have := hL.mt j hj; simpa [va_up] using this
    · intro j hj; have := hL.st j hj; by_cases e : j = p <;> simp [va_up, upd, e, this, h0]
    · intro j hj; have := hL.hm j hj; by_cases e : j = p <;> simp [va_up, upd, e, this]
    · intro j hj; have := hL.nm j hj; by_cases e : j = p <;> simp [va_up, upd, e, this]
    · intro j hj; have := hL.pr j hj; simpa [va_up] using this
    · intro j hj; have := hL.mo j hj; by_cases e : j = p <;> simp [va_up, upd, e, this]
    · intro j hj; have := hL.bm j hj; by_cases e : j = p <;> simp [va_up, upd, e, this]
    · intro j hj; have := hL.bd j hj; by_cases e : j = p <;> simp [va_up, upd, e, this]
    · intro j hj; have := hL.ad j hj; simpa [va_up] using this
  · refine ⟨?_, ?_, ?_, ?_⟩
    · simpa [va_up] using hW.ld
    · intro j hj; have := hW.st j hj; by_cases e : j = p <;> simp [va_up, upd, e, this]
    · intro j hj; have := hW.pr j hj; simpa [va_up] using this
    · intro j hj; have := hW.mo j hj; by_cases e : j = p
      · subst e; simpa [va_up, upd] using hy
      · simpa [va_up, upd, e] using this
  · exact (((((SameR.rf.up (by omega) _).up (by omega) _).up (by omega) _).up (by omega) _).up (by omega) _).up (by omega) _
/-- BIRTH -/
theorem step0 (h : ActOK AL AI R Rk x a w p q) (hW : WF R) (hL : LR R Rk) (hk : R 0 a = 0) (hk' : AI x 0 = 0) :
    Both R Rk (f_X6_count Im R (nI a) (nI p) q) (f_X2_happen AL I cm AI AR Rk x) := by
  have hp : p < 24 := h.hp ▸ root_lt hW.ld h.hw
  have h0 : R 11 p = -1 := h.hp ▸ root_top hW.ld h.hw
  rw [happen_eq h hL, hk', if_pos rfl]
  unfold f_X6_count f_X2_beBorn
  rw [og_nI h.ha (by omega), nI_tn (bd h.ha), hk, if_pos rfl, og_nI hp (by omega), nI_tn (bd4 hp), atv_nI hp (by omega), stp hL hp h0]
  by_cases hs : R 12 p = 0
  · rw [if_pos hs, if_pos hs]
    simp only [og_nI h.ha (show 150 < 2147483648 by omega), og_nI hp (show 24 < 2147483648 by omega), ol_eq, nI_tn (bd h.ha), nI_tn (bd4 hp)]
    rw [show va_up R 12 (upd (R 12) p 1) 13 = R 13 from up_ne (by omega), show va_up R 12 (upd (R 12) p 1) 5 = R 5 from up_ne (by omega)]
    have e6 : ∀ g, va_up (va_up R 12 (upd (R 12) p 1)) 13 g 6 = R 6 := fun g => by rw [up_ne (by omega), up_ne (by omega)]
    have e14 : ∀ g, va_up (va_up R 12 (upd (R 12) p 1)) 13 g 14 = R 14 := fun g => by rw [up_ne (by omega), up_ne (by omega)]
    have e2 : ∀ g g', va_up (va_up (va_up R 12 (upd (R 12) p 1)) 13 g) 14 g' 2 = R 2 := fun g g' => by rw [up_ne (by omega), up_ne (by omega), up_ne (by omega)]
    have e17 : ∀ g g', va_up (va_up (va_up R 12 (upd (R 12) p 1)) 13 g) 14 g' 17 = R 17 := fun g g' => by rw [up_ne (by omega), up_ne (by omega), up_ne (by omega)]
    rw [e6, e14, e2, e17]
    rcases h.h4 with ⟨-, hq⟩ | ⟨o, ho, -, hq⟩
    · rw [hq, if_pos rfl, if_neg (fun e => nI_m1 (bd4 hp) e.symm), isLiving_m1, ob1_some, if_pos rfl]
      exact birth_both h hW hL hp h0 PN.m1
    · have hr := root_lt hW.ld ho
      have hr0 := root_top hW.ld ho
      rw [hq, if_neg (nI_m1 (bd4 hr))]
      by_cases hqp : root (R 11) o = p
      · rw [hqp, if_pos rfl, if_pos rfl]
        exact birth_both h hW hL hp h0 PN.m1
      · have hne : ¬ nI (root (R 11) o) = nI p := fun e => hqp ((n_eq (bd4 hr) (bd4 hp)).mp e)
        rw [if_neg hne, if_neg hne, og_nI hr (by omega), nI_tn (bd4 hr), liv hL hr hr0]
        have e12 : ∀ g g' g'', va_up (va_up (va_up (va_up R 12 (upd (R 12) p 1)) 13 g) 14 g') 17 g'' 12 (root (R 11) o) = R 12 (root (R 11) o) := fun g g' g'' => by rw [up_ne (by omega), up_ne (by omega), up_ne (by omega), up_same, upd_ne hqp]
        rw [e12]
        by_cases hl : R 12 (root (R 11) o) = 1
        · rw [if_pos hl, if_pos hl, ob1_some, if_neg one0]
          exact birth_both h hW hL hp h0 (PN.nI hr)
        · rw [if_neg hl, if_neg hl, ob1_some, if_pos rfl]
          exact birth_both h hW hL hp h0 PN.m1
  · rw [if_neg hs, if_neg hs]
    exact Both.same hW hL
theorem two0 {R : RI} {p q : Nat} (hL : LR R Rk) (hp : p < 24) (h0 : R 11 p = -1) (hq : q < 24) (hq0 : R 11 q = -1) : f_X2_areTwoLiving I Rk cm (nI p) (nI q) = some (if p ≠ q ∧ R 12 p = 1 ∧ R 12 q = 1 then 1 else 0) := by
  unfold f_X2_areTwoLiving
  by_cases e : p = q
  · subst e; rw [if_pos rfl, if_neg (by simp)]
  · rw [if_neg (fun h => e ((n_eq (bd4 hp) (bd4 hq)).mp h)), liv hL hp h0, ob1_ite, if_neg one0, if_pos rfl, liv hL hq hq0, ob1_ite, if_neg one0, if_pos rfl]
    by_cases h1 : R 12 p = 1 <;> by_cases h2 : R 12 q = 1 <;> simp [e, h1, h2]
/-- the model's frame of BOND, PARTING, ADOPTION -/
theorem count_tie (h : ActOK AL AI R Rk x a w p q) (hp : p < 24) {k : Int32} (hk : R 0 a = k) (hn0 : ¬ k = 0) (h3 : 3 ≤ k) (h5 : ¬ k = 5) {r : Nat} (hr : r < 24) (hq : q = nI r) :
    f_X6_count Im R (nI a) (nI p) q = if p ≠ r ∧ R 12 p = 1 ∧ R 12 r = 1 then f_X6_tied Im R k (nI p) (nI r) else some R := by
  have eo : ∀ y : Option RI, ob1 y (fun R6 => some R6) = y := fun y => by cases y <;> rfl
  unfold f_X6_count
  rw [hq]
  simp only [og_nI h.ha (show 150 < 2147483648 by omega), og_nI hp (show 24 < 2147483648 by omega), og_nI hr (show 24 < 2147483648 by omega), nI_tn (bd h.ha), nI_tn (bd4 hp), nI_tn (bd4 hr), hk, if_neg hn0, if_pos h3, if_neg h5, eo, n_eq (bd4 hp) (bd4 hr)]
  by_cases e : p = r <;> by_cases h1 : R 12 p = 1 <;> by_cases h2 : R 12 r = 1 <;> simp [e, h1, h2]
/-- BOND -/
theorem step3 (h : ActOK AL AI R Rk x a w p q) (hW : WF R) (hL : LR R Rk) (hk : R 0 a = 3) (hk' : AI x 0 = 3) (ho : ¬ AI x 4 = -1) :
    Both R Rk (f_X6_count Im R (nI a) (nI p) q) (f_X2_happen AL I cm AI AR Rk x) := by
  have hp : p < 24 := h.hp ▸ root_lt hW.ld h.hw
  have h0 : R 11 p = -1 := h.hp ▸ root_top hW.ld h.hw
  rcases h.h4 with ⟨hq, -⟩ | ⟨o, ho, -, hq⟩
  · exact absurd hq ho
  have hr := root_lt hW.ld ho
  have hr0 := root_top hW.ld ho
  rw [happen_eq h hL, hk', if_neg (show ¬ (3 : Int32) = 0 by decide), if_neg (show ¬ (3 : Int32) = 1 by decide), if_neg (show ¬ (3 : Int32) = 2 by decide), if_pos rfl, count_tie h hp hk (by decide) (by decide) (by decide) hr hq, hq]
  generalize root (R 11) o = r at hr hr0
  unfold f_X2_bond f_X6_tied f_X6_tied_j46
  rw [two0 hL hp h0 hr hr0, ob1_ite, if_neg one0, if_pos rfl, atv_nI hp (by omega), atv_nI hr (by omega), hL.pr p hp, hL.pr r hr, if_neg (show ¬ (3 : Int32) = 6 by decide), if_neg (show ¬ (3 : Int32) = 4 by decide), if_pos rfl]
  simp only [og_nI hp (show 24 < 2147483648 by omega), og_nI hr (show 24 < 2147483648 by omega), ol_eq, nI_tn (bd4 hp), nI_tn (bd4 hr), putv_nI hp (show 24 < 2147483648 by omega), putv_nI hr (show 24 < 2147483648 by omega)]
  by_cases h9 : p ≠ r ∧ R 12 p = 1 ∧ R 12 r = 1
  · rw [if_pos h9, if_pos h9]
    by_cases h7 : R 15 p = -1
    · rw [if_pos h7, if_pos h7]
      by_cases h8 : R 15 r = -1
      · rw [if_pos h8, if_pos h8]
        exact Both.mk rfl rfl ((hL.upr p _).upr r _) ((hW.u15 p (PN.nI hr)).u15 r (PN.nI hp)) ((SameR.rf.up (by omega) _).up (by omega) _)
      · rw [if_neg h8, if_neg h8]; exact Both.same hW hL
    · rw [if_neg h7, if_neg h7]; exact Both.same hW hL
  · rw [if_neg h9, if_neg h9]; exact Both.same hW hL
/-- ADOPTION -/
theorem step6 (h : ActOK AL AI R Rk x a w p q) (hW : WF R) (hL : LR R Rk) (hk : R 0 a = 6) (hk' : AI x 0 = 6) (ho : ¬ AI x 4 = -1) :
    Both R Rk (f_X6_count Im R (nI a) (nI p) q) (f_X2_happen AL I cm AI AR Rk x) := by
  have hp : p < 24 := h.hp ▸ root_lt hW.ld h.hw
  have h0 : R 11 p = -1 := h.hp ▸ root_top hW.ld h.hw
  rcases h.h4 with ⟨hq, -⟩ | ⟨o, ho, -, hq⟩
  · exact absurd hq ho
  have hr := root_lt hW.ld ho
  have hr0 := root_top hW.ld ho
  rw [happen_eq h hL, hk', if_neg (show ¬ (6 : Int32) = 0 by decide), if_neg (show ¬ (6 : Int32) = 1 by decide), if_neg (show ¬ (6 : Int32) = 2 by decide), if_neg (show ¬ (6 : Int32) = 3 by decide), if_neg (show ¬ (6 : Int32) = 4 by decide), if_neg (show ¬ (6 : Int32) = 5 by decide), if_pos rfl, count_tie h hp hk (by decide) (by decide) (by decide) hr hq, hq]
  generalize root (R 11) o = r at hr hr0
  unfold f_X2_adopt f_X6_tied
  rw [two0 hL hp h0 hr hr0, ob1_ite, if_neg one0, if_pos rfl, if_pos rfl]
  simp only [og_nI hp (show 24 < 2147483648 by omega), ol_eq, nI_tn (bd4 hp), putv_nI hp (show 24 < 2147483648 by omega), setv_nI hp (show 24 < 2147483648 by omega)]
  by_cases h9 : p ≠ r ∧ R 12 p = 1 ∧ R 12 r = 1
  · rw [if_pos h9, if_pos h9]
    exact Both.mk rfl rfl ((hL.umo p _).uad p _) ((hW.u16 p (PN.nI hr)).u19 p _) ((SameR.rf.up (by omega) _).up (by omega) _)
  · rw [if_neg h9, if_neg h9]; exact Both.same hW hL
theorem updc {g : Nat → Int32} {a b : Nat} {x : Int32} : upd (upd g a x) b x = upd (upd g b x) a x := by
  funext j
  simp only [upd]
  by_cases h1 : j = a <;> by_cases h2 : j = b <;> simp [h1, h2]
theorem upup {α : Type} {f : Nat → α} {c : Nat} {x y : α} : va_up (va_up f c x) c y = va_up f c y := by
  funext j
  simp only [va_up]
  by_cases h1 : j = c <;> simp [h1]
/-- PARTING -/
theorem step4 (h : ActOK AL AI R Rk x a w p q) (hW : WF R) (hL : LR R Rk) (hk : R 0 a = 4) (hk' : AI x 0 = 4) (ho : ¬ AI x 4 = -1) :
    Both R Rk (f_X6_count Im R (nI a) (nI p) q) (f_X2_happen AL I cm AI AR Rk x) := by
  have hp : p < 24 := h.hp ▸ root_lt hW.ld h.hw
  have h0 : R 11 p = -1 := h.hp ▸ root_top hW.ld h.hw
  rcases h.h4 with ⟨hq, -⟩ | ⟨o, ho, -, hq⟩
  · exact absurd hq ho
  have hr := root_lt hW.ld ho
  have hr0 := root_top hW.ld ho
  have eo : ∀ y : Option RI, ob1 y (fun R6 => some R6) = y := fun y => by cases y <;> rfl
  rw [happen_eq h hL, hk', if_neg (show ¬ (4 : Int32) = 0 by decide), if_neg (show ¬ (4 : Int32) = 1 by decide), if_neg (show ¬ (4 : Int32) = 2 by decide), if_neg (show ¬ (4 : Int32) = 3 by decide), if_pos rfl, count_tie h hp hk (by decide) (by decide) (by decide) hr hq, hq]
  generalize root (R 11) o = r at hr hr0
  unfold f_X2_part f_X6_tied f_X6_tied_j46 f_X6_part
  rw [two0 hL hp h0 hr hr0, ob1_ite, if_neg one0, if_pos rfl, atv_nI hp (by omega), hL.pr p hp, if_neg (show ¬ (4 : Int32) = 6 by decide), if_pos rfl, if_neg (show ¬ (4 : Int32) = 3 by decide)]
  simp only [og_nI hp (show 24 < 2147483648 by omega), ol_eq, nI_tn (bd4 hp), putv_nI hp (show 24 < 2147483648 by omega), putv_nI hr (show 24 < 2147483648 by omega), eo]
  by_cases h9 : p ≠ r ∧ R 12 p = 1 ∧ R 12 r = 1
  · rw [if_pos h9, if_pos h9]
    by_cases h7 : R 15 p = nI r
    · rw [if_pos h7, if_pos h7, h7, if_neg (nI_m1 (bd4 hr)), og_nI hr (by omega), nI_tn (bd4 hr)]
      have e : va_up (va_up R 15 (upd (R 15) r (-1))) 15 (upd (va_up R 15 (upd (R 15) r (-1)) 15) p (-1)) = va_up (va_up R 15 (upd (R 15) p (-1))) 15 (upd (va_up R 15 (upd (R 15) p (-1)) 15) r (-1)) := by
        rw [upup, upup, up_same, up_same, updc]
      rw [e]
      exact Both.mk rfl rfl ((hL.upr p _).upr r _) ((hW.u15 p PN.m1).u15 r PN.m1) ((SameR.rf.up (by omega) _).up (by omega) _)
    · rw [if_neg h7, if_neg h7]; exact Both.same hW hL
  · rw [if_neg h9, if_neg h9]; exact Both.same hW hL
/-- DEATH -/
theorem step5 (h : ActOK AL AI R Rk x a w p q) (hW : WF R) (hL : LR R Rk) (hk : R 0 a = 5) (hk' : AI x 0 = 5) :
    Both R Rk (f_X6_count Im R (nI a) (nI p) q) (f_X2_happen AL I cm AI AR Rk x) := by
  have hp : p < 24 := h.hp ▸ root_lt hW.ld h.hw
  have h0 : R 11 p = -1 := h.hp ▸ root_top hW.ld h.hw
  rw [happen_eq h hL, hk', if_neg (show ¬ (5 : Int32) = 0 by decide), if_neg (show ¬ (5 : Int32) = 1 by decide), if_neg (show ¬ (5 : Int32) = 2 by decide), if_neg (show ¬ (5 : Int32) = 3 by decide), if_neg (show ¬ (5 : Int32) = 4 by decide), if_pos rfl]
  unfold f_X2_die f_X6_count f_X6_part
  rw [liv hL hp h0, ob1_ite, if_neg one0, if_pos rfl, atv_nI hp (by omega), hL.pr p hp]
  simp only [og_nI h.ha (show 150 < 2147483648 by omega), og_nI hp (show 24 < 2147483648 by omega), nI_tn (bd h.ha), nI_tn (bd4 hp), hk, if_neg (show ¬ (5 : Int32) = 0 by decide), if_pos (show (3 : Int32) ≤ 5 by decide), if_true, ol_eq, putv_nI hp (show 24 < 2147483648 by omega)]
  by_cases hs : R 12 p = 1
  · rw [if_pos hs, if_pos hs]
    rcases hW.pr p hp with h7 | ⟨r, hr, h7⟩
    · have e4 : va_up Rk 4 (upd (Rk 4) p (-1)) = Rk := by
        have := hL.pr p hp
        rw [h7] at this
        rw [← this]
        exact up_id
      rw [h7, if_pos rfl, ob1_some, putv_m1]
      have ei : va_up Rk 4 (Rk 4) = Rk := by
        funext c
        by_cases e : c = 4
        · subst e; rw [up_same]
        · rw [up_ne e]
      rw [ei, e4]
      refine Both.mk rfl rfl ?_ ?_ ((SameR.rf.up (by omega) _).up (by omega) _)
      · refine ⟨?_, ?_, ?_, ?_, ?_, ?_, ?_, ?_, ?_⟩
        · intro j hj; have := hL.mt j hj; simpa [va_up] using this
        · intro j hj; have := hL.st j hj; by_cases e : j = p <;> simp [va_up, upd, e, this, h0]
        · intro j hj; have := hL.hm j hj; by_cases e : j = p <;> simp [va_up, upd, e, this]
        · intro j hj; have := hL.nm j hj; simpa [va_up] using this
        · intro j hj; have := hL.pr j hj; simpa [va_up] using this
        · intro j hj; have := hL.mo j hj; simpa [va_up] using this
        · intro j hj; have := hL.bm j hj; simpa [va_up] using this
        · intro j hj; have := hL.bd j hj; simpa [va_up] using this
        · intro j hj; have := hL.ad j hj; simpa [va_up] using this
      · exact (hW.u12 p (Or.inr (Or.inr rfl))).u13 p _
    · rw [h7, if_neg (nI_m1 (bd4 hr)), og_nI hr (by omega), nI_tn (bd4 hr), ob1_some, putv_nI hr (by omega)]
      refine Both.mk rfl rfl ?_ ?_ ((((SameR.rf.up (by omega) _).up (by omega) _).up (by omega) _).up (by omega) _)
      · have h1 := (hL.upr r (-1)).upr p (-1)
        have g0 : va_up (va_up R 15 (upd (R 15) r (-1))) 15 (upd (va_up R 15 (upd (R 15) r (-1)) 15) p (-1)) 11 p = -1 := by rw [up_ne (by omega), up_ne (by omega)]; exact h0
        generalize va_up (va_up R 15 (upd (R 15) r (-1))) 15 (upd (va_up R 15 (upd (R 15) r (-1)) 15) p (-1)) = R2 at h1 g0 ⊢
        generalize va_up (va_up Rk 4 (upd (Rk 4) r (-1))) 4 (upd (va_up Rk 4 (upd (Rk 4) r (-1)) 4) p (-1)) = Rk2 at h1 ⊢
        refine ⟨?_, ?_, ?_, ?_, ?_, ?_, ?_, ?_, ?_⟩
        · intro j hj; have := h1.mt j hj; simpa [va_up] using this
        · intro j hj; have := h1.st j hj; by_cases e : j = p <;> simp [va_up, upd, e, this, g0]
        · intro j hj; have := h1.hm j hj; by_cases e : j = p <;> simp [va_up, upd, e, this]
        · intro j hj; have := h1.nm j hj; simpa [va_up] using this
        · intro j hj; have := h1.pr j hj; simpa [va_up] using this
        · intro j hj; have := h1.mo j hj; simpa [va_up] using this
        · intro j hj; have := h1.bm j hj; simpa [va_up] using this
        · intro j hj; have := h1.bd j hj; simpa [va_up] using this
        · intro j hj; have := h1.ad j hj; simpa [va_up] using this
      · exact (((hW.u15 r PN.m1).u15 p PN.m1).u12 p (Or.inr (Or.inr rfl))).u13 p _
  · rw [if_neg hs, if_neg hs]
    exact Both.same hW hL
/-- any act with a day counts in both alike -/
theorem step (h : ActOK AL AI R Rk x a w p q) (hW : WF R) (hL : LR R Rk) (hk' : AI x 0 = R 0 a) {k : Nat} (hk : R 0 a = nI k) (hk7 : k < 7) (ho : k = 3 ∨ k = 4 ∨ k = 6 → ¬ AI x 4 = -1) :
    Both R Rk (f_X6_count Im R (nI a) (nI p) q) (f_X2_happen AL I cm AI AR Rk x) := by
  rw [hk] at hk'
  match k, hk7 with
  | 0, _ => exact step0 h hW hL hk hk'
  | 1, _ => exact step1 h hW hL hk hk'
  | 2, _ => exact step2 h hW hL hk hk'
  | 3, _ => exact step3 h hW hL hk hk' (ho (by omega))
  | 4, _ => exact step4 h hW hL hk hk' (ho (by omega))
  | 5, _ => exact step5 h hW hL hk hk'
  | 6, _ => exact step6 h hW hL hk hk' (ho (by omega))
end step
end PS
