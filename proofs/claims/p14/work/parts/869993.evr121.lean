/-! names that the grammar gives -/
theorem ogR_2 {T : Int} {k : Int → Int} {p q : Int} (h : ogR T k p = some q) : k (p + 1) = 2 ∧ (k (p + 2) = 17 → k (p + 3) = 2 ∧ k (p + 5) = 2) := by
  obtain ⟨a, h1, h⟩ := ogB h
  have e1 := ogT_lt h1
  have ea : a = p + 2 := by omega
  rw [ea] at h
  obtain ⟨b, h2, h⟩ := ogB h
  refine ⟨e1.2, fun c => ?_⟩
  unfold ogRi at h2
  rw [if_pos c] at h2
  obtain ⟨x, g1, h2⟩ := ogB h2; obtain ⟨y, g2, h2⟩ := ogB h2; obtain ⟨z, g3, h2⟩ := ogB h2
  have f1 := ogT_lt g1; have f2 := ogT_lt g2; have f3 := ogT_lt g3
  have ey : y = p + 5 := by omega
  rw [ey] at f3
  exact ⟨by rw [show p + 3 = p + 2 + 1 by omega]; exact f1.2, f3.2⟩
theorem GP_2 {T : Int} {k : Int → Int} {p : Int} (hz : ∀ t, T ≤ t → k t = 0) (h : GP T k p) : (k p = 6 ∨ k p = 7 ∨ k p = 8 ∨ k p = 10 → k (p + 1) = 2) ∧ (k p = 10 → k (p + 2) = 17 → k (p + 3) = 2 ∧ k (p + 5) = 2) := by
  have lt : ∀ t c, k t = c → c ≠ 0 → t < T := fun t c e hc => by
    by_cases q : t < T
    · exact q
    · exact absurd (e.symm.trans (hz t (by omega))) hc
  obtain ⟨d, h | h⟩ := h
  · by_cases c : k p = 6 ∨ k p = 7 ∨ k p = 8
    · have hT : ∀ p, (fun p => k p = 6 ∨ k p = 7 ∨ k p = 8) p → p < T := fun p e => by
        rcases e with e | e | e
        · exact lt p 6 e (by decide)
        · exact lt p 7 e (by decide)
        · exact lt p 8 e (by decide)
      rw [ogW_st hT (fun p q _ e => ogD_inc _ _ e) c] at h
      obtain ⟨w, h1, h2⟩ := ogB h
      obtain ⟨x, h3, h4⟩ := ogB h1
      have i := ogD_i h3
      exact ⟨fun _ => i.1, fun z => by omega⟩
    · rw [ogW_no c, Option.bind_some] at h
      unfold ogG1 at h
      split at h
      · rename_i r
        exact ⟨fun z => by omega, fun z => by omega⟩
      · cases h
  · by_cases c : k p = 10
    · have hT : ∀ p, (fun p => k p = 10) p → p < T := fun p e => lt p 10 e (by decide)
      obtain ⟨w, h1, h2⟩ := ogB h
      rw [ogW_st hT (fun p q _ e => ogR_inc _ _ e) c] at h1
      obtain ⟨x, h3, h4⟩ := ogB h1
      have i := ogR_2 h3
      exact ⟨fun _ => i.1, fun _ => i.2⟩
    · by_cases c0 : k p = 0
      · exact ⟨fun z => by omega, fun z => by omega⟩
      · exfalso
        unfold ogG2 at h; rw [ogW_no (st := fun p => k p = 10) c, Option.bind_some] at h
        rw [if_neg c0] at h; cases h
/-- what a row, or the goal, leaves -/
def QOr (u : sS) (k v : Int → Int) (q : Int) (X : Option (sM × Int)) : Prop := Hd (u.1 231 20 ≠ 0 → X = none) ∧ Hd (u.1 231 20 = 0 → ∃ M, X = some (M, q) ∧ MRr M k v u ∧ u.1 231 24 = q)