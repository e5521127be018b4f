theorem tabJ4 {x : Int32} (c0 : ¬ x = 0) (c1 : ¬ x = 1) (c2 : ¬ x = 2) (c3 : ¬ x = 3) (h : ¬ x < 0) : ∃ j : Nat, j < 2 ^ 31 ∧ x = nI j ∧ 4 ≤ j := by
  obtain ⟨j, hj, rfl⟩ := nI_of h
  refine ⟨j, hj, rfl, ?_⟩
  rcases Nat.lt_or_ge j 4 with q | q
  · exfalso
    rcases (show j = 0 ∨ j = 1 ∨ j = 2 ∨ j = 3 by omega) with rfl | rfl | rfl | rfl
    · exact c0 rfl
    · exact c1 rfl
    · exact c2 rfl
    · exact c3 rfl
  · exact q
theorem tabOut4 {x : Int32} (c0 : ¬ x = 0) (c1 : ¬ x = 1) (c2 : ¬ x = 2) (c3 : ¬ x = 3) : x.toInt < 0 ∨ 3 < x.toInt := by
  by_cases h : x < 0
  · left
    have := Int32.lt_iff_toInt_lt.mp h
    simpa using this
  · obtain ⟨j, hj, rfl, q⟩ := tabJ4 c0 c1 c2 c3 h
    right
    rw [nI_toInt hj]
    omega
theorem tabF4 {x : Int32} (c0 : ¬ x = 0) (c1 : ¬ x = 1) (c2 : ¬ x = 2) (c3 : ¬ x = 3) : x < 0 ∨ 3 < x := by
  by_cases h : x < 0
  · exact Or.inl h
  · obtain ⟨j, hj, rfl, q⟩ := tabJ4 c0 c1 c2 c3 h
    right
    exact nI_lt (a := 3) (by omega) hj
theorem tabJ10 {x : Int32} (c0 : ¬ x = 0) (c1 : ¬ x = 1) (c2 : ¬ x = 2) (c3 : ¬ x = 3) (c4 : ¬ x = 4) (c5 : ¬ x = 5) (c6 : ¬ x = 6) (c7 : ¬ x = 7) (c8 : ¬ x = 8) (c9 : ¬ x = 9) (h : ¬ x < 0) : ∃ j : Nat, j < 2 ^ 31 ∧ x = nI j ∧ 10 ≤ j := by
  obtain ⟨j, hj, rfl⟩ := nI_of h
  refine ⟨j, hj, rfl, ?_⟩
  rcases Nat.lt_or_ge j 10 with q | q
  · exfalso
    rcases (show j = 0 ∨ j = 1 ∨ j = 2 ∨ j = 3 ∨ j = 4 ∨ j = 5 ∨ j = 6 ∨ j = 7 ∨ j = 8 ∨ j = 9 by omega) with rfl | rfl | rfl | rfl | rfl | rfl | rfl | rfl | rfl | rfl
    · exact c0 rfl
    · exact c1 rfl
    · exact c2 rfl
    · exact c3 rfl
    · exact c4 rfl
    · exact c5 rfl
    · exact c6 rfl
    · exact c7 rfl
    · exact c8 rfl
    · exact c9 rfl
  · exact q
theorem tabOut10 {x : Int32} (c0 : ¬ x = 0) (c1 : ¬ x = 1) (c2 : ¬ x = 2) (c3 : ¬ x = 3) (c4 : ¬ x = 4) (c5 : ¬ x = 5) (c6 : ¬ x = 6) (c7 : ¬ x = 7) (c8 : ¬ x = 8) (c9 : ¬ x = 9) : x.toInt < 0 ∨ 9 < x.toInt := by
  by_cases h : x < 0
  · left
    have := Int32.lt_iff_toInt_lt.mp h
    simpa using this
  · obtain ⟨j, hj, rfl, q⟩ := tabJ10 c0 c1 c2 c3 c4 c5 c6 c7 c8 c9 h
    right
    rw [nI_toInt hj]
    omega
theorem tabF10 {x : Int32} (c0 : ¬ x = 0) (c1 : ¬ x = 1) (c2 : ¬ x = 2) (c3 : ¬ x = 3) (c4 : ¬ x = 4) (c5 : ¬ x = 5) (c6 : ¬ x = 6) (c7 : ¬ x = 7) (c8 : ¬ x = 8) (c9 : ¬ x = 9) : x < 0 ∨ 9 < x := by
  by_cases h : x < 0
  · exact Or.inl h
  · obtain ⟨j, hj, rfl, q⟩ := tabJ10 c0 c1 c2 c3 c4 c5 c6 c7 c8 c9 h
    right
    exact nI_lt (a := 9) (by omega) hj
theorem tabJ14 {x : Int32} (c0 : ¬ x = 0) (c1 : ¬ x = 1) (c2 : ¬ x = 2) (c3 : ¬ x = 3) (c4 : ¬ x = 4) (c5 : ¬ x = 5) (c6 : ¬ x = 6) (c7 : ¬ x = 7) (c8 : ¬ x = 8) (c9 : ¬ x = 9) (c10 : ¬ x = 10) (c11 : ¬ x = 11) (c12 : ¬ x = 12) (c13 : ¬ x = 13) (h : ¬ x < 0) : ∃ j : Nat, j < 2 ^ 31 ∧ x = nI j ∧ 14 ≤ j := by
  obtain ⟨j, hj, rfl⟩ := nI_of h
  refine ⟨j, hj, rfl, ?_⟩
  rcases Nat.lt_or_ge j 14 with q | q
  · exfalso
    rcases (show j = 0 ∨ j = 1 ∨ j = 2 ∨ j = 3 ∨ j = 4 ∨ j = 5 ∨ j = 6 ∨ j = 7 ∨ j = 8 ∨ j = 9 ∨ j = 10 ∨ j = 11 ∨ j = 12 ∨ j = 13 by omega) with rfl | rfl | rfl | rfl | rfl | rfl | rfl | rfl | rfl | rfl | rfl | rfl | rfl | rfl
    · exact c0 rfl
    · exact c1 rfl
    · exact c2 rfl
    · exact c3 rfl
    · exact c4 rfl
    · exact c5 rfl
    · exact c6 rfl
    · exact c7 rfl
    · exact c8 rfl
    · exact c9 rfl
    · exact c10 rfl
    · exact c11 rfl
    · exact c12 rfl
    · exact c13 rfl
  · exact q
theorem tabOut14 {x : Int32} (c0 : ¬ x = 0) (c1 : ¬ x = 1) (c2 : ¬ x = 2) (c3 : ¬ x = 3) (c4 : ¬ x = 4) (c5 : ¬ x = 5) (c6 : ¬ x = 6) (c7 : ¬ x = 7) (c8 : ¬ x = 8) (c9 : ¬ x = 9) (c10 : ¬ x = 10) (c11 : ¬ x = 11) (c12 : ¬ x = 12) (c13 : ¬ x = 13) : x.toInt < 0 ∨ 13 < x.toInt := by
  by_cases h : x < 0
  · left
    have := Int32.lt_iff_toInt_lt.mp h
    simpa using this
  · obtain ⟨j, hj, rfl, q⟩ := tabJ14 c0 c1 c2 c3 c4 c5 c6 c7 c8 c9 c10 c11 c12 c13 h
    right
    rw [nI_toInt hj]
    omega
theorem tabF14 {x : Int32} (c0 : ¬ x = 0) (c1 : ¬ x = 1) (c2 : ¬ x = 2) (c3 : ¬ x = 3) (c4 : ¬ x = 4) (c5 : ¬ x = 5) (c6 : ¬ x = 6) (c7 : ¬ x = 7) (c8 : ¬ x = 8) (c9 : ¬ x = 9) (c10 : ¬ x = 10) (c11 : ¬ x = 11) (c12 : ¬ x = 12) (c13 : ¬ x = 13) : x < 0 ∨ 13 < x := by
  by_cases h : x < 0
  · exact Or.inl h
  · obtain ⟨j, hj, rfl, q⟩ := tabJ14 c0 c1 c2 c3 c4 c5 c6 c7 c8 c9 c10 c11 c12 c13 h
    right
    exact nI_lt (a := 13) (by omega) hj
theorem lkOut2 {x : Int32} {dflt o1 o2 : Int} (c0 : ¬ x = 0) (c1 : ¬ x = 1) : Op.lookupswitch.offset [(0, o1), (1, o2)] dflt x.toInt = dflt := by
  have h0 : ¬ (0 : Int) = x.toInt := fun h => c0 (Int32.toInt_inj.mp (by rw [← h]; rfl))
  have h1 : ¬ (1 : Int) = x.toInt := fun h => c1 (Int32.toInt_inj.mp (by rw [← h]; rfl))
  simp [Op.lookupswitch.offset, h0, h1]
def endF (x : Int32) : Int32 := if x < 0 ∨ 0 < x then 0 else 1
def faultF (x : Int32) : Int32 := if x = 0 then 0 else -1
def sizeF (x : Int32) : Int32 := if x < 0 ∨ 3 < x then -1 else 0
def lookF (x : Int32) : Int32 := if x < 0 ∨ 9 < x then -1 else 0
def workF (x : Int32) : Int32 := if x < 1 ∨ 500 < x then -1 else 0
theorem endF_n (x : Int32) : narrow .boolean (.int (endF x)) = .int (endF x) := by
  unfold endF; split <;> rfl
