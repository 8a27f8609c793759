/-! ===== PURE: what is refused ===== -/
section PNo
section one
variable {N t n m P d g : Nat} {od ad : Nat → Nat} {Ix : OI} {Rx : RI} {ta : Int32} {ea : Option Nat} {wa : OO} {Ik : OI} {Rk : RI} {cmk : Option Nat} {In : OI} {Rn : RI} {AL : List Nat} {AI : Nat → OI} {AR : Nat → OO} {rs : OO} {RL : List RLT} {I : OI} {R : RI}
theorem ipP (hP : P ≤ 24) (hI : I 4 = nI P) : f_X6_isPerson I R (nI P) = some 0 := ip0 hP hI (Or.inr (Int32.le_refl _))
theorem ip00 (hP : P ≤ 24) (hI : I 4 = nI P) (h : 0 < P) : f_X6_isPerson I R 0 = some 1 := ip1 (p := 0) hP hI h
theorem ip01 (hP : P ≤ 24) (hI : I 4 = nI P) (h : 1 < P) : f_X6_isPerson I R 1 = some 1 := ip1 (p := 1) hP hI h
theorem id00 (hd : d ≤ 30000) (hI : I 1 = nI d) : f_X6_isDay I R 0 = some 1 := id1 (b := 0) hd hI (Nat.zero_le _)
theorem idm (hd : d ≤ 30000) (hI : I 1 = nI d) : f_X6_isDay I R (-1) = some 0 := id0 hd hI (Or.inl (by decide))
theorem id9 (hd : d ≤ 30000) (hI : I 1 = nI d) : f_X6_isDay I R (nI (d + 1)) = some 0 := id0 hd hI (Or.inr ((n_lt (by omega) (by omega)).mpr (by omega)))
theorem no_pass  : f_X6_pass R I 0 = some (0, va_up I 0 1) := by
  unfold f_X6_pass
  rw [show f_X6_within 0 1 5000 = some 0 from by decide, ob1_some, if_pos rfl]
  unfold f_X6_pass_j33
  rw [refused_1, ob2_mk, if_neg one0]
theorem no_birth1 (h : IVc N t n m P d g od ad Ix Rx ta ea wa Ik Rk cmk In Rn AL AI AR rs RL I R) : f_X6_birth N I R 0 (nI P) 0 0 = some (0, va_up I 0 1, R) := by
  obtain ⟨A, X, ⟨d1, -⟩, -⟩ := h
  have hP := A.P24
  have hI := A.iP
  have hd := X.dd
  have hn := A.n150
  unfold f_X6_birth
  rw [if_neg (nI_m1 (by omega)), ipP hP hI, ob1_some, if_pos rfl]
  unfold f_X6_birth_j28
  rw [id00 hd d1, ob1_some, if_neg one0, show f_X6_within 0 0 999 = some 1 from by decide, ob1_some, if_neg one0]
  unfold f_X6_birth_j55
  rw [if_pos rfl]
  unfold f_X6_birth_j109
  rw [refused_1, ob2_mk, if_neg one0]
theorem no_birth2 (h : IVc N t n m P d g od ad Ix Rx ta ea wa Ik Rk cmk In Rn AL AI AR rs RL I R) : f_X6_birth N I R 0 (-1) 16 0 = some (0, va_up I 0 1, R) := by
  obtain ⟨A, X, ⟨d1, -⟩, -⟩ := h
  have hP := A.P24
  have hI := A.iP
  have hd := X.dd
  have hn := A.n150
  unfold f_X6_birth f_X6_birth_j13
  rw [if_pos rfl, show f_X6_within 16 0 15 = some 0 from by decide, ob1_some, if_pos rfl]
  unfold f_X6_birth_j28
  rw [id00 hd d1, ob1_some, if_neg one0, show f_X6_within 0 0 999 = some 1 from by decide, ob1_some, if_neg one0]
  unfold f_X6_birth_j55
  rw [if_pos rfl]
  unfold f_X6_birth_j109
  rw [refused_1, ob2_mk, if_neg one0]
theorem no_birth3 (h : IVc N t n m P d g od ad Ix Rx ta ea wa Ik Rk cmk In Rn AL AI AR rs RL I R) : f_X6_birth N I R (nI (d + 1)) (-1) 0 0 = some (0, va_up I 0 2, R) := by
  obtain ⟨A, X, ⟨d1, -⟩, -⟩ := h
  have hP := A.P24
  have hI := A.iP
  have hd := X.dd
  have hn := A.n150
  unfold f_X6_birth f_X6_birth_j13
  rw [if_pos rfl, show f_X6_within 0 0 15 = some 1 from by decide, ob1_some, if_neg one0]
  unfold f_X6_birth_j28
  rw [id9 hd d1, ob1_some, if_pos rfl]
  unfold f_X6_birth_j55
  rw [if_neg one0, if_pos rfl]
  unfold f_X6_birth_j109
  rw [refused_2, ob2_mk, if_neg one0]
theorem no_birth4 (h : IVc N t n m P d g od ad Ix Rx ta ea wa Ik Rk cmk In Rn AL AI AR rs RL I R) : f_X6_birth N I R 0 (-1) 0 1000 = some (0, va_up I 0 2, R) := by
  obtain ⟨A, X, ⟨d1, -⟩, -⟩ := h
  have hP := A.P24
  have hI := A.iP
  have hd := X.dd
  have hn := A.n150
  unfold f_X6_birth f_X6_birth_j13
  rw [if_pos rfl, show f_X6_within 0 0 15 = some 1 from by decide, ob1_some, if_neg one0]
  unfold f_X6_birth_j28
  rw [id00 hd d1, ob1_some, if_neg one0, show f_X6_within 1000 0 999 = some 0 from by decide, ob1_some, if_pos rfl]
  unfold f_X6_birth_j55
  rw [if_neg one0, if_pos rfl]
  unfold f_X6_birth_j109
  rw [refused_2, ob2_mk, if_neg one0]
theorem no_move1 (h : IVc N t n m P d g od ad Ix Rx ta ea wa Ik Rk cmk In Rn AL AI AR rs RL I R) : f_X6_move N I R (nI P) 0 0 = some (0, va_up I 0 1, R) := by
  obtain ⟨A, X, ⟨d1, -⟩, -⟩ := h
  have hP := A.P24
  have hI := A.iP
  have hd := X.dd
  have hn := A.n150
  unfold f_X6_move f_X6_move_j23
  rw [ipP hP hI, ob1_some, if_pos rfl, if_pos rfl]
  unfold f_X6_move_j62
  rw [refused_1, ob2_mk, if_neg one0]
theorem no_move2 (h : IVc N t n m P d g od ad Ix Rx ta ea wa Ik Rk cmk In Rn AL AI AR rs RL I R) (h0 : 0 < P) : f_X6_move N I R 0 (-1) 0 = some (0, va_up I 0 2, R) := by
  obtain ⟨A, X, ⟨d1, -⟩, -⟩ := h
  have hP := A.P24
  have hI := A.iP
  have hd := X.dd
  have hn := A.n150
  unfold f_X6_move f_X6_move_j23
  rw [ip00 hP hI h0, ob1_some, if_neg one0, show f_X6_within 0 0 15 = some 1 from by decide, ob1_some, if_neg one0, if_neg one0, idm hd d1, ob1_some, if_pos rfl]
  unfold f_X6_move_j62
  rw [refused_2, ob2_mk, if_neg one0]
theorem no_naming (h : IVc N t n m P d g od ad Ix Rx ta ea wa Ik Rk cmk In Rn AL AI AR rs RL I R) (h0 : 0 < P) : f_X6_naming N I R 0 0 (-1) = some (0, va_up I 0 2, R) := by
  obtain ⟨A, X, ⟨d1, -⟩, -⟩ := h
  have hP := A.P24
  have hI := A.iP
  have hd := X.dd
  have hn := A.n150
  unfold f_X6_naming f_X6_naming_j24
  rw [id00 hd d1, ob1_some, if_neg one0, show f_X6_within (-1) 0 999 = some 0 from by decide, ob1_some, if_pos rfl, ip00 hP hI h0, ob1_some, if_neg one0, if_pos rfl]
  unfold f_X6_naming_j63
  rw [refused_2, ob2_mk, if_neg one0]
theorem no_tie1 (h : IVc N t n m P d g od ad Ix Rx ta ea wa Ik Rk cmk In Rn AL AI AR rs RL I R) (h0 : 1 < P) : f_X6_tie N I R 2 0 1 0 = some (0, va_up I 0 2, R) := by
  obtain ⟨A, X, ⟨d1, -⟩, -⟩ := h
  have hP := A.P24
  have hI := A.iP
  have hd := X.dd
  have hn := A.n150
  unfold f_X6_tie f_X6_tie_j21
  rw [ip00 hP hI (by omega), ob1_some, if_neg one0, ip01 hP hI h0, ob1_some, if_neg one0, if_neg (by decide), if_neg (by decide), if_neg (by decide)]
  unfold f_X6_tie_j58
  rw [if_neg one0, if_pos rfl]
  unfold f_X6_tie_j94
  rw [refused_2, ob2_mk, if_neg one0]
theorem no_tie2 (h : IVc N t n m P d g od ad Ix Rx ta ea wa Ik Rk cmk In Rn AL AI AR rs RL I R) (h0 : 0 < P) : f_X6_tie N I R 3 0 0 0 = some (0, va_up I 0 2, R) := by
  obtain ⟨A, X, ⟨d1, -⟩, -⟩ := h
  have hP := A.P24
  have hI := A.iP
  have hd := X.dd
  have hn := A.n150
  unfold f_X6_tie f_X6_tie_j21 f_X6_tie_j39
  rw [ip00 hP hI h0, ob1_some, if_neg one0, ob1_some, if_neg one0, if_pos rfl, id00 hd d1, ob1_some, if_neg one0, if_pos rfl]
  unfold f_X6_tie_j58
  rw [if_neg one0, if_pos rfl]
  unfold f_X6_tie_j94
  rw [refused_2, ob2_mk, if_neg one0]
theorem no_tie3 (h : IVc N t n m P d g od ad Ix Rx ta ea wa Ik Rk cmk In Rn AL AI AR rs RL I R) (h0 : 0 < P) : f_X6_tie N I R 3 0 (nI P) 0 = some (0, va_up I 0 1, R) := by
  obtain ⟨A, X, ⟨d1, -⟩, -⟩ := h
  have hP := A.P24
  have hI := A.iP
  have hd := X.dd
  have hn := A.n150
  unfold f_X6_tie f_X6_tie_j21 f_X6_tie_j39
  rw [ip00 hP hI h0, ob1_some, if_neg one0, ipP hP hI, ob1_some, if_pos rfl, if_pos rfl, id00 hd d1, ob1_some, if_neg one0, if_neg (fun e => by have := (n_eq (a := 0) (by omega) (by omega)).mp e; omega)]
  unfold f_X6_tie_j58
  rw [if_pos rfl]
  unfold f_X6_tie_j94
  rw [refused_1, ob2_mk, if_neg one0]
theorem no_death1 (h : IVc N t n m P d g od ad Ix Rx ta ea wa Ik Rk cmk In Rn AL AI AR rs RL I R) : f_X6_death N I R (nI P) 0 = some (0, va_up I 0 1, R) := by
  obtain ⟨A, X, ⟨d1, -⟩, -⟩ := h
  have hP := A.P24
  have hI := A.iP
  have hd := X.dd
  have hn := A.n150
  unfold f_X6_death
  rw [ipP hP hI, ob1_some, if_pos rfl]
  unfold f_X6_death_j40
  rw [refused_1, ob2_mk, if_neg one0]
theorem no_death2 (h : IVc N t n m P d g od ad Ix Rx ta ea wa Ik Rk cmk In Rn AL AI AR rs RL I R) (h0 : 0 < P) : f_X6_death N I R 0 (nI (d + 1)) = some (0, va_up I 0 2, R) := by
  obtain ⟨A, X, ⟨d1, -⟩, -⟩ := h
  have hP := A.P24
  have hI := A.iP
  have hd := X.dd
  have hn := A.n150
  unfold f_X6_death
  rw [ip00 hP hI h0, ob1_some, if_neg one0, id9 hd d1, ob1_some, if_pos rfl]
  unfold f_X6_death_j40
  rw [refused_2, ob2_mk, if_neg one0]
theorem no_join1 (h : IVc N t n m P d g od ad Ix Rx ta ea wa Ik Rk cmk In Rn AL AI AR rs RL I R) (h0 : 1 < P) : f_X6_join N I R 1 0 = some (0, va_up I 0 2, R) := by
  obtain ⟨A, X, ⟨d1, -⟩, -⟩ := h
  have hP := A.P24
  have hI := A.iP
  have hd := X.dd
  have hn := A.n150
  unfold f_X6_join f_X6_join_j21
  rw [ip01 hP hI h0, ob1_some, if_neg one0, ip00 hP hI (by omega), ob1_some, if_neg one0, if_neg one0, if_neg (by decide)]
  unfold f_X6_join_j55
  rw [refused_2, ob2_mk, if_neg one0]
theorem no_join2 (h : IVc N t n m P d g od ad Ix Rx ta ea wa Ik Rk cmk In Rn AL AI AR rs RL I R) (h0 : 0 < P) : f_X6_join N I R 0 (nI P) = some (0, va_up I 0 1, R) := by
  obtain ⟨A, X, ⟨d1, -⟩, -⟩ := h
  have hP := A.P24
  have hI := A.iP
  have hd := X.dd
  have hn := A.n150
  unfold f_X6_join f_X6_join_j21
  rw [ip00 hP hI h0, ob1_some, if_neg one0, ipP hP hI, ob1_some, if_pos rfl, if_pos rfl]
  unfold f_X6_join_j55
  rw [refused_1, ob2_mk, if_neg one0]
theorem no_strike (h : IVc N t n m P d g od ad Ix Rx ta ea wa Ik Rk cmk In Rn AL AI AR rs RL I R) : f_X6_strike N I R 150 = some (0, va_up I 0 1, R) := by
  obtain ⟨A, X, ⟨d1, -⟩, -⟩ := h
  have hP := A.P24
  have hI := A.iP
  have hd := X.dd
  have hn := A.n150
  unfold f_X6_strike
  rw [show f_X6_within 150 0 (I 2 - 1) = some 0 from ia0 hn A.i2 (Or.inr ((n_le (b := 150) (by omega) (by omega)).mpr hn)), ob1_some, if_pos rfl]
  unfold f_X6_strike_j57
  rw [refused_1, ob2_mk, if_neg one0]
theorem no_actOf1 (h : IVc N t n m P d g od ad Ix Rx ta ea wa Ik Rk cmk In Rn AL AI AR rs RL I R) : f_X6_actOf R I (-1) 0 = some (0, va_up I 0 1) := by
  obtain ⟨A, X, ⟨d1, -⟩, -⟩ := h
  have hP := A.P24
  have hI := A.iP
  have hd := X.dd
  have hn := A.n150
  unfold f_X6_actOf
  rw [ia0 hn A.i2 (Or.inl (by decide)), ob1_some, if_pos rfl]
  unfold f_X6_actOf_j33
  rw [refused_1, ob2_mk, if_neg one0]
theorem no_actOf2 (h : IVc N t n m P d g od ad Ix Rx ta ea wa Ik Rk cmk In Rn AL AI AR rs RL I R) (h0 : 0 < n) : f_X6_actOf R I 0 5 = some (0, va_up I 0 2) := by
  obtain ⟨A, X, ⟨d1, -⟩, -⟩ := h
  have hP := A.P24
  have hI := A.iP
  have hd := X.dd
  have hn := A.n150
  unfold f_X6_actOf
  rw [show f_X6_within 0 0 (I 2 - 1) = some 1 from ia1 (a := 0) hn A.i2 h0, ob1_some, if_neg one0, show f_X6_within 5 0 4 = some 0 from by decide, ob1_some, if_pos rfl]
  unfold f_X6_actOf_j33
  rw [refused_2, ob2_mk, if_neg one0]
theorem no_asOf1 (h : IVc N t n m P d g od ad Ix Rx ta ea wa Ik Rk cmk In Rn AL AI AR rs RL I R) (h0 : 0 < P) : f_X6_asOf N I R 0 7 0 0 = some (0, va_up I 0 2, R) := by
  obtain ⟨A, X, ⟨d1, -⟩, -⟩ := h
  have hP := A.P24
  have hI := A.iP
  have hd := X.dd
  have hn := A.n150
  unfold f_X6_asOf
  rw [ip00 hP hI h0, ob1_some, if_neg one0, show f_X6_within 7 0 6 = some 0 from by decide, ob1_some, if_pos rfl]
  unfold f_X6_asOf_j45
  rw [refused_2, ob2_mk, if_neg one0]
theorem no_asOf2 (h : IVc N t n m P d g od ad Ix Rx ta ea wa Ik Rk cmk In Rn AL AI AR rs RL I R) (h0 : 0 < P) : f_X6_asOf N I R 0 0 (nI (d + 1)) 0 = some (0, va_up I 0 2, R) := by
  obtain ⟨A, X, ⟨d1, -⟩, -⟩ := h
  have hP := A.P24
  have hI := A.iP
  have hd := X.dd
  have hn := A.n150
  unfold f_X6_asOf
  rw [ip00 hP hI h0, ob1_some, if_neg one0, show f_X6_within 0 0 6 = some 1 from by decide, ob1_some, if_neg one0, id9 hd d1, ob1_some, if_pos rfl]
  unfold f_X6_asOf_j45
  rw [refused_2, ob2_mk, if_neg one0]
theorem no_now (h : IVc N t n m P d g od ad Ix Rx ta ea wa Ik Rk cmk In Rn AL AI AR rs RL I R) : f_X6_now N I R (nI P) 0 = some (0, va_up I 0 1, R) := by
  obtain ⟨A, X, ⟨d1, -⟩, -⟩ := h
  have hP := A.P24
  have hI := A.iP
  have hd := X.dd
  have hn := A.n150
  unfold f_X6_now f_X6_asOf
  rw [ipP hP hI, ob1_some, if_pos rfl]
  unfold f_X6_asOf_j45
  rw [refused_1, ob2_mk, if_neg one0, ob3_mk]
theorem no_households (h : IVc N t n m P d g od ad Ix Rx ta ea wa Ik Rk cmk In Rn AL AI AR rs RL I R) : f_X6_households N I R 16 0 0 = some (0, va_up I 0 1, R) := by
  obtain ⟨A, X, ⟨d1, -⟩, -⟩ := h
  have hP := A.P24
  have hI := A.iP
  have hd := X.dd
  have hn := A.n150
  unfold f_X6_households
  rw [show f_X6_within 16 0 15 = some 0 from by decide, ob1_some, if_pos rfl]
  unfold f_X6_households_j36
  rw [refused_1, ob2_mk, if_neg one0]
theorem no_money (h : IVc N t n m P d g od ad Ix Rx ta ea wa Ik Rk cmk In Rn AL AI AR rs RL I R) : f_X6_money N I R 0 (nI d) 2 0 = some (0, va_up I 0 2, R) := by
  obtain ⟨A, X, ⟨d1, -⟩, -⟩ := h
  have hP := A.P24
  have hI := A.iP
  have hd := X.dd
  have hn := A.n150
  unfold f_X6_money
  rw [if_neg (nI_nn (by omega)), show f_X6_within 2 1 60 = some 1 from by decide, ob1_some, if_neg one0, d1, if_pos (show nI d - 2 + 1 < nI d from (lt_money (v := 2) hd (by omega) (by omega)).mpr (by omega))]
  unfold f_X6_money_j40
  rw [show f_X6_within 0 0 3 = some 1 from by decide, ob1_some, if_neg one0, if_pos rfl]
  unfold f_X6_money_j66
  rw [refused_2, ob2_mk, if_neg one0]
theorem no_changed (h : IVc N t n m P d g od ad Ix Rx ta ea wa Ik Rk cmk In Rn AL AI AR rs RL I R) : f_X6_changed N I R 0 (-1) 0 = some (0, va_up I 0 1, R) := by
  obtain ⟨A, X, ⟨d1, -⟩, -⟩ := h
  have hP := A.P24
  have hI := A.iP
  have hd := X.dd
  have hn := A.n150
  unfold f_X6_changed
  rw [id00 hd d1, ob1_some, if_neg one0, idm hd d1, ob1_some, if_pos rfl]
  unfold f_X6_changed_j30
  rw [refused_1, ob2_mk, if_neg one0]
theorem no_origin (h : IVc N t n m P d g od ad Ix Rx ta ea wa Ik Rk cmk In Rn AL AI AR rs RL I R) (h0 : 0 < P) : f_X6_origin N I R 0 (nI P) = some (0, va_up I 0 1, R) := by
  obtain ⟨A, X, ⟨d1, -⟩, -⟩ := h
  have hP := A.P24
  have hI := A.iP
  have hd := X.dd
  have hn := A.n150
  unfold f_X6_origin
  rw [ip00 hP hI h0, ob1_some, if_neg one0, if_neg (nI_m1 (by omega)), ipP hP hI, ob1_some, if_pos rfl]
  unfold f_X6_origin_j27
  rw [refused_1, ob2_mk, if_neg one0]
theorem no_likeness (h : IVc N t n m P d g od ad Ix Rx ta ea wa Ik Rk cmk In Rn AL AI AR rs RL I R) (h0 : 1 < P) : f_X6_likeness N I R 1 1 = some (0, va_up I 0 2, R) := by
  obtain ⟨A, X, ⟨d1, -⟩, -⟩ := h
  have hP := A.P24
  have hI := A.iP
  have hd := X.dd
  have hn := A.n150
  unfold f_X6_likeness f_X6_likeness_j21
  rw [ip01 hP hI h0, ob1_some, if_neg one0, ob1_some, if_neg one0, if_neg one0, if_pos rfl]
  unfold f_X6_likeness_j41
  rw [refused_2, ob2_mk, if_neg one0]
theorem no_doubleOf (h : IVc N t n m P d g od ad Ix Rx ta ea wa Ik Rk cmk In Rn AL AI AR rs RL I R) : f_X6_doubleOf N I R (-1) = some (0, va_up I 0 1, R) := by
  obtain ⟨A, X, ⟨d1, -⟩, -⟩ := h
  have hP := A.P24
  have hI := A.iP
  have hd := X.dd
  have hn := A.n150
  unfold f_X6_doubleOf
  rw [ip0 hP hI (Or.inl (by decide)), ob1_some, if_pos rfl]
  unfold f_X6_doubleOf_j14
  rw [refused_1, ob2_mk, if_neg one0]
theorem no_renumber (h : IVc N t n m P d g od ad Ix Rx ta ea wa Ik Rk cmk In Rn AL AI AR rs RL I R) : f_X6_renumber N I R (nI P) = some (0, va_up I 0 1, R) := by
  obtain ⟨A, X, ⟨d1, -⟩, -⟩ := h
  have hP := A.P24
  have hI := A.iP
  have hd := X.dd
  have hn := A.n150
  unfold f_X6_renumber
  rw [ipP hP hI, ob1_some, if_pos rfl]
  unfold f_X6_renumber_j27
  rw [refused_1, ob2_mk, if_neg one0]
theorem no_number (h : IVc N t n m P d g od ad Ix Rx ta ea wa Ik Rk cmk In Rn AL AI AR rs RL I R) : f_X6_number N R I (nI P) = some (0, va_up I 0 1) := by
  obtain ⟨A, X, ⟨d1, -⟩, -⟩ := h
  have hP := A.P24
  have hI := A.iP
  have hd := X.dd
  have hn := A.n150
  unfold f_X6_number
  rw [ipP hP hI, ob1_some, if_pos rfl]
  unfold f_X6_number_j14
  rw [refused_1, ob2_mk, if_neg one0]
theorem no_bearer  : f_X6_bearer N R I 10000 = some (0, va_up I 0 1) := by
  unfold f_X6_bearer
  rw [show f_X6_within 10000 10010 99999 = some 0 from by decide, ob1_some, if_pos rfl]
  unfold f_X6_bearer_j31
  rw [if_pos rfl]
  unfold f_X6_bearer_j42
  rw [refused_1, ob2_mk, if_neg one0]
theorem no_roll  : f_X6_roll I R 0 4 = some (0, va_up I 0 1, R) := by
  unfold f_X6_roll
  rw [show f_X6_within 4 0 3 = some 0 from by decide, ob1_some, if_pos rfl]
  unfold f_X6_roll_j40
  rw [refused_1, ob2_mk, if_neg one0]
theorem no_deliver  {z : Nat} (hz : z ≤ 5) (h7 : I 7 = nI z) : f_X6_deliver N I R 5 = some (0, va_up I 0 1, R) := by
  unfold f_X6_deliver
  rw [show f_X6_isRoll I R 5 = some 0 from ir0 hz h7 (Or.inr ((n_le (b := 5) (by omega) (by omega)).mpr hz)), ob1_some, if_pos rfl]
  unfold f_X6_deliver_j14
  rw [refused_1, ob2_mk, if_neg one0]
theorem no_owes  {z : Nat} (hz : z ≤ 5) (h7 : I 7 = nI z) : f_X6_owes N I R (-1) = some (0, va_up I 0 1, R) := by
  unfold f_X6_owes
  rw [ir0 hz h7 (Or.inl (by decide)), ob1_some, if_pos rfl]
  unfold f_X6_owes_j14
  rw [refused_1, ob2_mk, if_neg one0]
theorem no_message  (hN : 1 ≤ N) {z : Nat} (hz : z ≤ 5) (h7 : I 7 = nI z) : f_X6_message N R I 5 0 = some (0, va_up I 0 1) := by
  obtain ⟨N, rfl⟩ : ∃ k, N = k + 1 := ⟨N - 1, by omega⟩
  have e : f_X6_message_j89 (N + 1) R I (-1) = some (0, va_up I 0 1) := by
    unfold f_X6_message_j89 f_X6_message_j101
    rw [if_pos rfl, refused_1, ob2_mk, if_neg one0]
  show f_X6_message_l8b (N + 1) R (f_X6_message_l8 (N + 1) R N) I 5 0 0 (-1) 0 = _
  unfold f_X6_message_l8b
  rw [show f_X6_isRoll I R 5 = some 0 from ir0 hz h7 (Or.inr ((n_le (b := 5) (by omega) (by omega)).mpr hz)), ob1_some, if_pos rfl, e]
  split <;> rfl
theorem no_holds (h : IVc N t n m P d g od ad Ix Rx ta ea wa Ik Rk cmk In Rn AL AI AR rs RL I R) {z : Nat} (hz : z ≤ 5) (h7 : I 7 = nI z) (h0 : 0 < z) : f_X6_holds R I 0 (nI P) = some (0, va_up I 0 1) := by
  obtain ⟨A, X, ⟨d1, -⟩, -⟩ := h
  have hP := A.P24
  have hI := A.iP
  have hd := X.dd
  have hn := A.n150
  unfold f_X6_holds f_X6_holds_j21
  rw [show f_X6_isRoll I R 0 = some 1 from ir1 (r := 0) hz h7 h0, ob1_some, if_neg one0, ipP hP hI, ob1_some, if_pos rfl, if_pos rfl]
  unfold f_X6_holds_j32
  rw [refused_1, ob2_mk, if_neg one0]
theorem no_holdsAnew  {z : Nat} (hz : z ≤ 5) (h7 : I 7 = nI z) : f_X6_holdsAnew R I 5 0 = some (0, va_up I 0 1) := by
  unfold f_X6_holdsAnew f_X6_holds f_X6_holds_j21
  rw [show f_X6_isRoll I R 5 = some 0 from ir0 hz h7 (Or.inr ((n_le (b := 5) (by omega) (by omega)).mpr hz)), ob1_some, if_pos rfl, if_pos rfl]
  unfold f_X6_holds_j32
  rw [refused_1, ob2_mk, if_neg one0, ob2_mk]
theorem no_bar (h : IVc N t n m P d g od ad Ix Rx ta ea wa Ik Rk cmk In Rn AL AI AR rs RL I R) (x : Int32) : f_X6_bar I R (nI P) x = some (0, va_up I 0 1, R) := by
  obtain ⟨A, X, ⟨d1, -⟩, -⟩ := h
  have hP := A.P24
  have hI := A.iP
  have hd := X.dd
  have hn := A.n150
  unfold f_X6_bar
  rw [ipP hP hI, ob1_some, if_pos rfl]
  unfold f_X6_bar_j14
  rw [refused_1, ob2_mk, if_neg one0]
theorem no_look (h : IVc N t n m P d g od ad Ix Rx ta ea wa Ik Rk cmk In Rn AL AI AR rs RL I R) (h0 : 0 < P) : f_X6_look N I R (-1) 0 = some (0, va_up I 0 2, R) := by
  obtain ⟨A, X, ⟨d1, -⟩, -⟩ := h
  have hP := A.P24
  have hI := A.iP
  have hd := X.dd
  have hn := A.n150
  unfold f_X6_look
  rw [ip00 hP hI h0, ob1_some, if_neg one0, show f_X6_within (-1) 0 3 = some 0 from by decide, ob1_some, if_pos rfl]
  unfold f_X6_look_j27
  rw [refused_2, ob2_mk, if_neg one0]
theorem no_looks (h : IVc N t n m P d g od ad Ix Rx ta ea wa Ik Rk cmk In Rn AL AI AR rs RL I R) : f_X6_looks R I (nI P) = some (0, va_up I 0 1) := by
  obtain ⟨A, X, ⟨d1, -⟩, -⟩ := h
  have hP := A.P24
  have hI := A.iP
  have hd := X.dd
  have hn := A.n150
  unfold f_X6_looks
  rw [ipP hP hI, ob1_some, if_pos rfl]
  unfold f_X6_looks_j14
  rw [refused_1, ob2_mk, if_neg one0]
end one
end PNo
