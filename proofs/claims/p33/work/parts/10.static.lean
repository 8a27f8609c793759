

def f_X5_at (n : Nat) (g : OI) (x1 : Int32) : Option Int32 :=
  if x1 < 0 then (some (-1)) else (if (nI n) ≤ x1 then (some (-1)) else (og x1 n (some (g x1.toNatClampNeg))))
abbrev rmX5_at : Room := { frames := 0, cells := 0, slots := 0, locals := 0 }
theorem hy_X5_at : yX5_at.cls ≠ "java/lang/invoke/MethodHandle" ∧ yX5_at.cls ≠ "java/lang/invoke/VarHandle" ∧ (parseMethodDescriptor yX5_at.desc).map (fun d => d.parameters.length) = some 2 := by decide +kernel
theorem hyV_X5_at : yX5_at.cls = RX5 ∧ yX5_at.cls ≠ "java/lang/invoke/MethodHandle" ∧ yX5_at.cls ≠ "java/lang/invoke/VarHandle" ∧ (parseMethodDescriptor yX5_at.desc).map (fun d => d.parameters.length) = some 2 := ⟨rfl, hy_X5_at⟩
set_option maxHeartbeats 8000000 in
set_option maxRecDepth 100000 in
theorem c_X5_at (l : Launch) (G : va_G) (cI cZ cQ cU cJ : ClassId) (a : Nat) (n : Nat) (g : OI) (x1 : Int32) (out : Int32) (hf : f_X5_at n g x1 = some out) : Con l yX5_at wsX5_at rmX5_at G vwCl (tys cI cZ cQ cU cJ) nws [.ref a, .int x1] (pf [[(a, .inl (cI, n, .inl g))]]) (some (.int out)) (pf [[(a, .inl (cI, n, .inl g))]]) := by
  refine con_of (rv := fun out : Int32 => some (.int out)) (Wd := fun out : Int32 => pf [[(a, .inl (cI, n, .inl g))]]) (maxL := 2) (own := RX5) rfl (plainFor_of_name (by decide +kernel)) rfl (Nat.le_of_ble_eq_true rfl) ?_ hf
  intro p e s m args below meth c A C hret hname
  unfold f_X5_at
  refine VJ.iload_n C 1 dX5_at_0 rfl ?_
  refine VJ.if_lt C 16 dX5_at_1 (by decide) (fun _ => ?_) (fun _ => ?_)
  · refine VJ.iconst (v := (-1)) C dX5_at_16 (by decide) ?_
    exact VJ.iret C hret rfl rfl dX5_at_17
  · refine VJ.iload_n C 1 dX5_at_4 rfl ?_
    refine VJ.aload_n C 0 dX5_at_5 rfl ?_
    refine VJ.alen C 0 0 (v := nI n) rfl rfl rfl dX5_at_6 ?_
    refine VJ.icmp_ge C 16 dX5_at_7 (by decide) (fun _ => ?_) (fun _ => ?_)
    · refine VJ.iconst (v := (-1)) C dX5_at_16 (by decide) ?_
      exact VJ.iret C hret rfl rfl dX5_at_17
    · refine VJ.aload_n C 0 dX5_at_10 rfl ?_
      refine VJ.iload_n C 1 dX5_at_11 rfl ?_
      refine VJ.iald C 0 0 rfl rfl dX5_at_12 ?_
      refine VJ.goto C 17 dX5_at_13 (by decide) ?_
      exact VJ.iret C hret rfl rfl dX5_at_17

def f_X5_put (n : Nat) (g : OI) (x1 : Int32) (x2 : Int32) : Option OI :=
  if x1 < 0 then (some g) else (if (nI n) ≤ x1 then (some g) else (og x1 n (ol (upd g x1.toNatClampNeg x2) (fun g1 => some g1))))
abbrev rmX5_put : Room := { frames := 0, cells := 0, slots := 0, locals := 0 }
theorem hy_X5_put : yX5_put.cls ≠ "java/lang/invoke/MethodHandle" ∧ yX5_put.cls ≠ "java/lang/invoke/VarHandle" ∧ (parseMethodDescriptor yX5_put.desc).map (fun d => d.parameters.length) = some 3 := by decide +kernel
theorem hyV_X5_put : yX5_put.cls = RX5 ∧ yX5_put.cls ≠ "java/lang/invoke/MethodHandle" ∧ yX5_put.cls ≠ "java/lang/invoke/VarHandle" ∧ (parseMethodDescriptor yX5_put.desc).map (fun d => d.parameters.length) = some 3 := ⟨rfl, hy_X5_put⟩
set_option maxHeartbeats 8000000 in
set_option maxRecDepth 100000 in
theorem c_X5_put (l : Launch) (G : va_G) (cI cZ cQ cU cJ : ClassId) (a : Nat) (n : Nat) (g : OI) (x1 : Int32) (x2 : Int32) (out : OI) (hf : f_X5_put n g x1 x2 = some out) : Con l yX5_put wsX5_put rmX5_put G vwCl (tys cI cZ cQ cU cJ) nws [.ref a, .int x1, .int x2] (pf [[(a, .inl (cI, n, .inl g))]]) (none) (pf [[(a, .inl (cI, n, .inl out))]]) := by
  refine con_of (rv := fun out : OI => none) (Wd := fun out : OI => pf [[(a, .inl (cI, n, .inl out))]]) (maxL := 3) (own := RX5) rfl (plainFor_of_name (by decide +kernel)) rfl (Nat.le_of_ble_eq_true rfl) ?_ hf
  intro p e s m args below meth c A C hret hname
  unfold f_X5_put
  refine VJ.iload_n C 1 dX5_put_0 rfl ?_
  refine VJ.if_lt C 14 dX5_put_1 (by decide) (fun _ => ?_) (fun _ => ?_)
  · exact VJ.vret C hret rfl rfl dX5_put_14
  · refine VJ.iload_n C 1 dX5_put_4 rfl ?_
    refine VJ.aload_n C 0 dX5_put_5 rfl ?_
    refine VJ.alen C 0 0 (v := nI n) rfl rfl rfl dX5_put_6 ?_
    refine VJ.icmp_ge C 14 dX5_put_7 (by decide) (fun _ => ?_) (fun _ => ?_)
    · exact VJ.vret C hret rfl rfl dX5_put_14
    · refine VJ.aload_n C 0 dX5_put_10 rfl ?_
      refine VJ.iload_n C 1 dX5_put_11 rfl ?_
      refine VJ.iload_n C 2 dX5_put_12 rfl ?_
      refine VJ.iast C 0 0 (fun g1 => pf [[(a, .inl (cI, n, .inl g1))]]) rfl rfl (fun _ => rfl) dX5_put_13 (fun g1 _ => ?_)
      exact VJ.vret C hret rfl rfl dX5_put_14

def f_X5_isSet (n : Nat) (g : OI) (x1 : Int32) : Option Int32 :=
  if x1 < 0 then (some 0) else (if (nI n) ≤ x1 then (some 0) else (og x1 n (if (g x1.toNatClampNeg) = 0 then (some 0) else (some 1))))
abbrev rmX5_isSet : Room := { frames := 0, cells := 0, slots := 0, locals := 0 }
theorem hy_X5_isSet : yX5_isSet.cls ≠ "java/lang/invoke/MethodHandle" ∧ yX5_isSet.cls ≠ "java/lang/invoke/VarHandle" ∧ (parseMethodDescriptor yX5_isSet.desc).map (fun d => d.parameters.length) = some 2 := by decide +kernel
theorem hyV_X5_isSet : yX5_isSet.cls = RX5 ∧ yX5_isSet.cls ≠ "java/lang/invoke/MethodHandle" ∧ yX5_isSet.cls ≠ "java/lang/invoke/VarHandle" ∧ (parseMethodDescriptor yX5_isSet.desc).map (fun d => d.parameters.length) = some 2 := ⟨rfl, hy_X5_isSet⟩
set_option maxHeartbeats 8000000 in
set_option maxRecDepth 100000 in
theorem c_X5_isSet (l : Launch) (G : va_G) (cI cZ cQ cU cJ : ClassId) (a : Nat) (n : Nat) (g : OI) (x1 : Int32) (out : Int32) (hf : f_X5_isSet n g x1 = some out) : Con l yX5_isSet wsX5_isSet rmX5_isSet G vwCl (tys cI cZ cQ cU cJ) nws [.ref a, .int x1] (pf [[(a, .inl (cZ, n, .inl g))]]) (some (.int out)) (pf [[(a, .inl (cZ, n, .inl g))]]) := by
  refine con_of (rv := fun out : Int32 => some (.int out)) (Wd := fun out : Int32 => pf [[(a, .inl (cZ, n, .inl g))]]) (maxL := 2) (own := RX5) rfl (plainFor_of_name (by decide +kernel)) rfl (Nat.le_of_ble_eq_true rfl) ?_ hf
  intro p e s m args below meth c A C hret hname
  unfold f_X5_isSet
  refine VJ.iload_n C 1 dX5_isSet_0 rfl ?_
  refine VJ.if_lt C 20 dX5_isSet_1 (by decide) (fun _ => ?_) (fun _ => ?_)
  · refine VJ.iconst (v := 0) C dX5_isSet_20 (by decide) ?_
    exact VJ.zret C rfl hret rfl rfl dX5_isSet_21
  · refine VJ.iload_n C 1 dX5_isSet_4 rfl ?_
    refine VJ.aload_n C 0 dX5_isSet_5 rfl ?_
    refine VJ.alen C 0 1 (v := nI n) rfl rfl rfl dX5_isSet_6 ?_
    refine VJ.icmp_ge C 20 dX5_isSet_7 (by decide) (fun _ => ?_) (fun _ => ?_)
    · refine VJ.iconst (v := 0) C dX5_isSet_20 (by decide) ?_
      exact VJ.zret C rfl hret rfl rfl dX5_isSet_21
    · refine VJ.aload_n C 0 dX5_isSet_10 rfl ?_
      refine VJ.iload_n C 1 dX5_isSet_11 rfl ?_
      refine VJ.zald C 0 1 rfl rfl dX5_isSet_12 ?_
      refine VJ.if_eq C 20 dX5_isSet_13 (by decide) (fun _ => ?_) (fun _ => ?_)
      · refine VJ.iconst (v := 0) C dX5_isSet_20 (by decide) ?_
        exact VJ.zret C rfl hret rfl rfl dX5_isSet_21
      · refine VJ.iconst (v := 1) C dX5_isSet_16 (by decide) ?_
        refine VJ.goto C 21 dX5_isSet_17 (by decide) ?_
        exact VJ.zret C rfl hret rfl rfl dX5_isSet_21

def f_X5_set (n : Nat) (g : OI) (x1 : Int32) (x2 : Int32) : Option OI :=
  if x1 < 0 then (some g) else (if (nI n) ≤ x1 then (some g) else (og x1 n (ol (upd g x1.toNatClampNeg (vp_nar .boolean x2)) (fun g1 => some g1))))
abbrev rmX5_set : Room := { frames := 0, cells := 0, slots := 0, locals := 0 }
theorem hy_X5_set : yX5_set.cls ≠ "java/lang/invoke/MethodHandle" ∧ yX5_set.cls ≠ "java/lang/invoke/VarHandle" ∧ (parseMethodDescriptor yX5_set.desc).map (fun d => d.parameters.length) = some 3 := by decide +kernel
theorem hyV_X5_set : yX5_set.cls = RX5 ∧ yX5_set.cls ≠ "java/lang/invoke/MethodHandle" ∧ yX5_set.cls ≠ "java/lang/invoke/VarHandle" ∧ (parseMethodDescriptor yX5_set.desc).map (fun d => d.parameters.length) = some 3 := ⟨rfl, hy_X5_set⟩
set_option maxHeartbeats 8000000 in
set_option maxRecDepth 100000 in
theorem c_X5_set (l : Launch) (G : va_G) (cI cZ cQ cU cJ : ClassId) (a : Nat) (n : Nat) (g : OI) (x1 : Int32) (x2 : Int32) (out : OI) (hf : f_X5_set n g x1 x2 = some out) : Con l yX5_set wsX5_set rmX5_set G vwCl (tys cI cZ cQ cU cJ) nws [.ref a, .int x1, .int x2] (pf [[(a, .inl (cZ, n, .inl g))]]) (none) (pf [[(a, .inl (cZ, n, .inl out))]]) := by
  refine con_of (rv := fun out : OI => none) (Wd := fun out : OI => pf [[(a, .inl (cZ, n, .inl out))]]) (maxL := 3) (own := RX5) rfl (plainFor_of_name (by decide +kernel)) rfl (Nat.le_of_ble_eq_true rfl) ?_ hf
  intro p e s m args below meth c A C hret hname
  unfold f_X5_set
  refine VJ.iload_n C 1 dX5_set_0 rfl ?_
  refine VJ.if_lt C 14 dX5_set_1 (by decide) (fun _ => ?_) (fun _ => ?_)
  · exact VJ.vret C hret rfl rfl dX5_set_14
  · refine VJ.iload_n C 1 dX5_set_4 rfl ?_
    refine VJ.aload_n C 0 dX5_set_5 rfl ?_
    refine VJ.alen C 0 1 (v := nI n) rfl rfl rfl dX5_set_6 ?_
    refine VJ.icmp_ge C 14 dX5_set_7 (by decide) (fun _ => ?_) (fun _ => ?_)
    · exact VJ.vret C hret rfl rfl dX5_set_14
    · refine VJ.aload_n C 0 dX5_set_10 rfl ?_
      refine VJ.iload_n C 1 dX5_set_11 rfl ?_
      refine VJ.iload_n C 2 dX5_set_12 rfl ?_
      refine VJ.zast C 0 1 (fun g1 => pf [[(a, .inl (cZ, n, .inl g1))]]) rfl rfl (fun _ => rfl) dX5_set_13 (fun g1 _ => ?_)
      exact VJ.vret C hret rfl rfl dX5_set_14

def atv (n : Nat) (g : Nat → Int32) (i : Int32) : Int32 := if i < 0 ∨ nI n ≤ i then -1 else g i.toNatClampNeg
def isv (n : Nat) (g : Nat → Int32) (i : Int32) : Int32 := if i < 0 ∨ nI n ≤ i then 0 else if g i.toNatClampNeg = 0 then 0 else 1
def putv (n : Nat) (g : Nat → Int32) (i x : Int32) : Nat → Int32 := if i < 0 ∨ nI n ≤ i then g else upd g i.toNatClampNeg x
def setv (n : Nat) (g : Nat → Int32) (i x : Int32) : Nat → Int32 := if i < 0 ∨ nI n ≤ i then g else upd g i.toNatClampNeg (vp_nar .boolean x)
theorem vj_in {n : Nat} {i : Int32} (hn : n < 2147483648) (h0 : ¬ i < 0) (h : ¬ nI n ≤ i) : ¬ (i < 0 ∨ n ≤ i.toNatClampNeg) := by
  obtain ⟨j, hj, rfl⟩ := nI_of h0
  rintro (h1 | h1)
  · exact h0 h1
  · rw [nI_clamp (by omega)] at h1
    exact h (nI_le h1 (by omega))
theorem og_in {O : Type} {n : Nat} {i : Int32} {k : Option O} (hn : n < 2147483648) (h0 : ¬ i < 0) (h : ¬ nI n ≤ i) : og i n k = k := if_neg (vj_in hn h0 h)
theorem f_at_eq {n : Nat} {g : OI} {i : Int32} (hn : n < 2147483648) : f_X5_at n g i = some (atv n g i) := by
  unfold f_X5_at atv
  by_cases h0 : i < 0
  · simp [h0]
  · by_cases h1 : nI n ≤ i
    · simp [h0, h1]
    · rw [if_neg h0, if_neg h1, og_in hn h0 h1, if_neg (show ¬ (i < 0 ∨ nI n ≤ i) by rintro (h | h) <;> contradiction)]
theorem f_put_eq {n : Nat} {g : OI} {i x : Int32} (hn : n < 2147483648) : f_X5_put n g i x = some (putv n g i x) := by
  unfold f_X5_put putv
  by_cases h0 : i < 0
  · simp [h0]
  · by_cases h1 : nI n ≤ i
    · simp [h0, h1]
    · rw [if_neg h0, if_neg h1, og_in hn h0 h1, if_neg (show ¬ (i < 0 ∨ nI n ≤ i) by rintro (h | h) <;> contradiction)]; rfl
theorem f_isSet_eq {n : Nat} {g : OI} {i : Int32} (hn : n < 2147483648) : f_X5_isSet n g i = some (isv n g i) := by
  unfold f_X5_isSet isv
  by_cases h0 : i < 0
  · simp [h0]
  · by_cases h1 : nI n ≤ i
    · simp [h0, h1]
    · rw [if_neg h0, if_neg h1, og_in hn h0 h1, if_neg (show ¬ (i < 0 ∨ nI n ≤ i) by rintro (h | h) <;> contradiction)]
      split <;> rfl
theorem f_set_eq {n : Nat} {g : OI} {i x : Int32} (hn : n < 2147483648) : f_X5_set n g i x = some (setv n g i x) := by
  unfold f_X5_set setv
  by_cases h0 : i < 0
  · simp [h0]
  · by_cases h1 : nI n ≤ i
    · simp [h0, h1]
    · rw [if_neg h0, if_neg h1, og_in hn h0 h1, if_neg (show ¬ (i < 0 ∨ nI n ≤ i) by rintro (h | h) <;> contradiction)]; rfl
theorem c_X5_att (l : Launch) (G : va_G) (cI cZ cQ cU cJ : ClassId) (a n : Nat) (hn : n < 2147483648) (g : OI) (i : Int32) : Con l yX5_at wsX5_at rmX5_at G vwCl (tys cI cZ cQ cU cJ) nws [.ref a, .int i] [(a, .inl (cI, n, .inl g))] (some (.int (atv n g i))) [(a, .inl (cI, n, .inl g))] :=
  c_X5_at l G cI cZ cQ cU cJ a n g i _ (f_at_eq hn)
theorem c_X5_putt (l : Launch) (G : va_G) (cI cZ cQ cU cJ : ClassId) (a n : Nat) (hn : n < 2147483648) (g : OI) (i x : Int32) : Con l yX5_put wsX5_put rmX5_put G vwCl (tys cI cZ cQ cU cJ) nws [.ref a, .int i, .int x] [(a, .inl (cI, n, .inl g))] none [(a, .inl (cI, n, .inl (putv n g i x)))] :=
  c_X5_put l G cI cZ cQ cU cJ a n g i x _ (f_put_eq hn)
theorem c_X5_isSett (l : Launch) (G : va_G) (cI cZ cQ cU cJ : ClassId) (a n : Nat) (hn : n < 2147483648) (g : OI) (i : Int32) : Con l yX5_isSet wsX5_isSet rmX5_isSet G vwCl (tys cI cZ cQ cU cJ) nws [.ref a, .int i] [(a, .inl (cZ, n, .inl g))] (some (.int (isv n g i))) [(a, .inl (cZ, n, .inl g))] :=
  c_X5_isSet l G cI cZ cQ cU cJ a n g i _ (f_isSet_eq hn)
theorem c_X5_sett (l : Launch) (G : va_G) (cI cZ cQ cU cJ : ClassId) (a n : Nat) (hn : n < 2147483648) (g : OI) (i x : Int32) : Con l yX5_set wsX5_set rmX5_set G vwCl (tys cI cZ cQ cU cJ) nws [.ref a, .int i, .int x] [(a, .inl (cZ, n, .inl g))] none [(a, .inl (cZ, n, .inl (setv n g i x)))] :=
  c_X5_set l G cI cZ cQ cU cJ a n g i x _ (f_set_eq hn)
