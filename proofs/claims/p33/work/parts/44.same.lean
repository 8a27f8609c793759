/-! ===== PURE: two class lands that are one model land are alike ===== -/
section PQ
/-- alike below 24 -/
def LEq (Ra Rb : RI) : Prop := ∀ c, c < 9 → ∀ j, j < 24 → Ra c j = Rb c j
theorem LEq.symm {Ra Rb : RI} (h : LEq Ra Rb) : LEq Rb Ra := fun c hc j hj => (h c hc j hj).symm
theorem LEq.trans {Ra Rb Rc : RI} (h : LEq Ra Rb) (g : LEq Rb Rc) : LEq Ra Rc := fun c hc j hj => (h c hc j hj).trans (g c hc j hj)
theorem LR.eq {R Ra Rb : RI} (ha : LR R Ra) (hb : LR R Rb) : LEq Ra Rb := fun c hc j hj => by
  match c, hc with
  | 0, _ => rw [ha.mt j hj, hb.mt j hj]
  | 1, _ => rw [ha.st j hj, hb.st j hj]
  | 2, _ => rw [ha.hm j hj, hb.hm j hj]
  | 3, _ => rw [ha.nm j hj, hb.nm j hj]
  | 4, _ => rw [ha.pr j hj, hb.pr j hj]
  | 5, _ => rw [ha.mo j hj, hb.mo j hj]
  | 6, _ => rw [ha.bm j hj, hb.bm j hj]
  | 7, _ => rw [ha.bd j hj, hb.bd j hj]
  | 8, _ => rw [ha.ad j hj, hb.ad j hj]
theorem LR.of {R Ra Rb : RI} (ha : LR R Ra) (h : LEq Ra Rb) : LR R Rb:= by
  refine ⟨?_, ?_, ?_, ?_, ?_, ?_, ?_, ?_, ?_⟩
  · exact fun j hj => by rw [← h 0 (by omega) j hj]; exact ha.mt j hj
  · exact fun j hj => by rw [← h 1 (by omega) j hj]; exact ha.st j hj
  · exact fun j hj => by rw [← h 2 (by omega) j hj]; exact ha.hm j hj
  · exact fun j hj => by rw [← h 3 (by omega) j hj]; exact ha.nm j hj
  · exact fun j hj => by rw [← h 4 (by omega) j hj]; exact ha.pr j hj
  · exact fun j hj => by rw [← h 5 (by omega) j hj]; exact ha.mo j hj
  · exact fun j hj => by rw [← h 6 (by omega) j hj]; exact ha.bm j hj
  · exact fun j hj => by rw [← h 7 (by omega) j hj]; exact ha.bd j hj
  · exact fun j hj => by rw [← h 8 (by omega) j hj]; exact ha.ad j hj
/-- LR looks at the rows 11 to 19 alone -/
theorem LR.of_m {R R' Rk : RI} (ha : LR R Rk) (h : ∀ c, 11 ≤ c → c ≤ 19 → R' c = R c) : LR R' Rk:= by
  refine ⟨?_, ?_, ?_, ?_, ?_, ?_, ?_, ?_, ?_⟩
  · exact fun j hj => by rw [h 11 (by omega) (by omega)]; exact ha.mt j hj
  · exact fun j hj => by rw [h 11 (by omega) (by omega), h 12 (by omega) (by omega)]; exact ha.st j hj
  · exact fun j hj => by rw [h 13 (by omega) (by omega)]; exact ha.hm j hj
  · exact fun j hj => by rw [h 14 (by omega) (by omega)]; exact ha.nm j hj
  · exact fun j hj => by rw [h 15 (by omega) (by omega)]; exact ha.pr j hj
  · exact fun j hj => by rw [h 16 (by omega) (by omega)]; exact ha.mo j hj
  · exact fun j hj => by rw [h 18 (by omega) (by omega)]; exact ha.bm j hj
  · exact fun j hj => by rw [h 17 (by omega) (by omega)]; exact ha.bd j hj
  · exact fun j hj => by rw [h 19 (by omega) (by omega)]; exact ha.ad j hj
theorem WF.of_m {R R' : RI} (ha : WF R) (h : ∀ c, 11 ≤ c → c ≤ 19 → R' c = R c) : WF R':= by
  refine ⟨?_, ?_, ?_, ?_⟩
  · exact by rw [h 11 (by omega) (by omega)]; exact ha.ld
  · exact fun j hj => by rw [h 12 (by omega) (by omega)]; exact ha.st j hj
  · exact fun j hj => by rw [h 15 (by omega) (by omega)]; exact ha.pr j hj
  · exact fun j hj => by rw [h 16 (by omega) (by omega)]; exact ha.mo j hj
/-- an act touches the being of the person that is meant, of nobody else -/
theorem happen_out {AL : List Nat} {I : OI} {cm : Option Nat} {AI : Nat → OI} {AR : Nat → OO} {R Rk Rk' : RI} {x a w p : Nat} {q : Int32} (h : ActOK AL AI R Rk x a w p q) (hL : LR R Rk) (hp : p < 24) (e : f_X2_happen AL I cm AI AR Rk x = some Rk') {j : Nat} (hj : j ≠ p) : Rk' 1 j = Rk 1 j := by
  have h4 : ∀ y, some (va_up Rk 4 y) = some Rk' → Rk' 1 j = Rk 1 j := fun y e => by cases e; rw [up_ne (by omega)]
  rw [happen_eq h hL] at e
  split at e
  · have hb : ∀ y, f_X2_beBorn_j30 AL I cm AI AR Rk (nI p) x y = some Rk' → Rk' 1 j = Rk 1 j := fun y e => by
      unfold f_X2_beBorn_j30 at e
      simp only [om_mem h.hx, ol_eq, putv_nI hp (show 24 < 2147483648 by omega)] at e
      cases e
      simp [va_up, upd, hj]
    unfold f_X2_beBorn at e
    split at e
    · split at e
      · exact hb _ e
      · cases hz : f_X2_isLiving I Rk cm q with
        | none => rw [hz] at e; cases e
        | some r =>
          rw [hz, ob1_some] at e
          split at e
          · exact hb _ e
          · exact hb _ e
    · cases e; rfl
  · split at e
    · rw [isLiving_nI hp, ob1_ite] at e
      split at e
      · rw [if_neg one0] at e; cases e; rw [up_ne (by omega)]
      · rw [if_pos rfl] at e; cases e; rfl
    · split at e
      · rw [isLiving_nI hp, ob1_ite] at e
        split at e
        · rw [if_neg one0] at e; cases e; rw [up_ne (by omega)]
        · rw [if_pos rfl] at e; cases e; rfl
      · split at e
        · unfold f_X2_bond at e
          cases hz : f_X2_areTwoLiving I Rk cm (nI p) q with
          | none => rw [hz] at e; cases e
          | some r =>
            rw [hz, ob1_some] at e
            simp only [ol_eq] at e
            split at e
            · cases e; rfl
            · split at e
              · split at e
                · cases e; rw [up_ne (by omega), up_ne (by omega)]
                · cases e; rfl
              · cases e; rfl
        · split at e
          · unfold f_X2_part at e
            cases hz : f_X2_areTwoLiving I Rk cm (nI p) q with
            | none => rw [hz] at e; cases e
            | some r =>
              rw [hz, ob1_some] at e
              simp only [ol_eq] at e
              split at e
              · cases e; rfl
              · split at e
                · cases e; rw [up_ne (by omega), up_ne (by omega)]
                · cases e; rfl
          · split at e
            · unfold f_X2_die at e
              rw [isLiving_nI hp, ob1_ite] at e
              split at e
              · rw [if_neg one0] at e
                simp only [ol_eq, putv_nI hp (show 24 < 2147483648 by omega)] at e
                cases e
                simp [va_up, upd, hj]
              · rw [if_pos rfl] at e; cases e; rfl
            · split at e
              · unfold f_X2_adopt at e
                cases hz : f_X2_areTwoLiving I Rk cm (nI p) q with
                | none => rw [hz] at e; cases e
                | some r =>
                  rw [hz, ob1_some] at e
                  simp only [ol_eq] at e
                  split at e
                  · cases e; rfl
                  · cases e; rw [up_ne (by omega), up_ne (by omega)]
              · cases e; rfl
end PQ
