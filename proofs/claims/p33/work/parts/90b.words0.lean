/-! ===== the law's start ===== -/
section LS
def nkB (w : Cond) : Bool := match w with
  | .fieldLinkNest .. => true
  | .methodLinkNest .. => true
  | .castable .. => true
  | .declares _ => true
  | .arrayOver (.object _) => true
  | _ => false
def aoB (w : Cond) : Bool := match w with
  | .arrayOver (.object _) => true
  | _ => false
theorem nkB_ok {w : Cond} (h : nkB w = true) : nk_ok w := by
  unfold nkB at h
  split at h
  · exact Or.inl ⟨_, _, _, _, _, _, rfl⟩
  · exact Or.inr (Or.inl ⟨_, _, _, _, rfl⟩)
  · exact Or.inr (Or.inr (Or.inl ⟨_, _, rfl⟩))
  · exact Or.inr (Or.inr (Or.inr (Or.inl ⟨_, rfl⟩)))
  · exact Or.inr (Or.inr (Or.inr (Or.inr ⟨_, rfl⟩)))
  · exact absurd h (by decide)
theorem nw_of {w : Cond} {A : Array Value} {U : State} (h : (w.onTables || aoB w) = true) (hw : w.before A U = true) : va_Nw w U := by
  rcases (Bool.or_eq_true _ _).mp h with h | h
  · exact va_Nw.of h hw
  · unfold aoB at h
    split at h
    · exact va_AO.of hw
    · exact absurd h (by decide)
set_option maxRecDepth 20000 in
theorem nws_nk : (nws.all fun w => nkB w && (w.onTables || aoB w)) = true := by decide +kernel
set_option maxRecDepth 20000 in
theorem nws_in : (nws.all fun w => decide (w ∈ lw_tbl)) = true := by decide +kernel
theorem nws_all {A : Array Value} {U : State} (hts : ∀ w ∈ lw_tbl, w.before A U = true) : ∀ w ∈ nws, nk_ok w ∧ va_Nw w U := by
  intro w hw
  have h1 := List.all_eq_true.mp nws_nk w hw
  have h2 := List.all_eq_true.mp nws_in w hw
  obtain ⟨h3, h4⟩ := (Bool.and_eq_true _ _).mp h1
  exact ⟨nkB_ok h3, nw_of h4 (hts w (of_decide_eq_true h2))⟩
theorem arr_p {A : Array Value} {U : State} {ty : FieldType} (h : (Cond.arrayClass ty).before A U = true) (hra : ∀ cA : ClassId, U.vm.findClass ("[" ++ ty.toString) = some cA → va_RA U cA ty) : ∃ cA, ArrOfT U cA ty ∧ va_RA U cA ty := by
  obtain ⟨cA, kA, comp, h1, h2, h3⟩ := Cond.arrayClass_spec h
  exact ⟨cA, fun n z => ⟨fun k h => (by cases h), kA, h2, comp, h3⟩, hra cA h1⟩
theorem arr_o {A : Array Value} {U : State} {C : String} (h : (Cond.arrayOver (.object C)).before A U = true) : ∃ cA, ArrOfT U cA (.object C) ∧ va_RA U cA (.object C) := by
  obtain ⟨comp, cA, kA, h1, -, h2, h3, h4⟩ := Cond.arrayOver_spec h
  exact ⟨cA, fun n z => ⟨fun k h => (by cases h), kA, h2, comp, h3⟩, kA, comp, h2, h3, h1, h4⟩
set_option maxRecDepth 20000 in
theorem strs_in : (strs.all fun q => decide (Cond.stringRef q.1 q.2.1 q.2.2 ∈ lw_tbl)) = true := by decide +kernel
theorem strs_all {A : Array Value} {U : State} (hts : ∀ w ∈ lw_tbl, w.before A U = true) (hex : ∀ q ∈ strs, (Cond.exactly (.string q.1 q.2.1) "java/lang/String").before A U = true) : ∀ q ∈ strs, ∃ sa, vk_R q.1 q.2.1 q.2.2 sa U := by
  intro q hq
  have h2 := of_decide_eq_true (List.all_eq_true.mp strs_in q hq)
  obtain ⟨a, c, cA, kA, q1, -⟩ := Cond.exactly_spec (args := A) (first := U) (o := none) (s := U) (idx := []) (t := .string q.1 q.2.1) (cls := "java/lang/String") (hex q hq)
  exact ⟨a, vk_R.of (hts _ h2) q1⟩
end LS
