/-! What may still come, in the reference's order -/
def G1r (T : Int) (k : Int → Int) (p : Int) : Prop := ∃ d, (ogW T (fun p => k p = 6 ∨ k p = 7 ∨ k p = 8) (ogD T k) p).bind (ogG1 T k) = some d
def G2r (T : Int) (k : Int → Int) (p : Int) : Prop := ∃ d, ogG2 T k p = some d
theorem G1r.d {T : Int} {k : Int → Int} {p : Int} (hz : ∀ t, T ≤ t → k t = 0) (h : G1r T k p) (c : k p = 6 ∨ k p = 7 ∨ k p = 8) : ∃ q, k (p + 1) = 2 ∧ k (q - 1) = 15 ∧ ((k p = 6 ∧ gSt k p q) ∨ (k p = 8 ∧ gVa k p q) ∨ (k p ≠ 6 ∧ k p ≠ 8 ∧ gPa T k p q)) ∧ G1r T k q := by
  have lt : ∀ t c, k t = c → c ≠ 0 → t < T := fun t c e hc => by
    by_cases q : t < T
    · exact q
    · exact absurd (e.symm.trans (hz t (by omega))) hc
  obtain ⟨d, h⟩ := h
  have hT : ∀ p, (fun p => k p = 6 ∨ k p = 7 ∨ k p = 8) p → p < T := fun p e => by
    rcases e with e | e | e
    · exact lt p 6 e (by decide)
    · exact lt p 7 e (by decide)
    · exact lt p 8 e (by decide)
  rw [ogW_st hT (fun p q _ e => ogD_inc _ _ e) c] at h
  obtain ⟨w, h1, h2⟩ := ogB h
  obtain ⟨x, h3, h4⟩ := ogB h1
  have i := ogD_i h3
  exact ⟨x, i.1, i.2.1, i.2.2, d, by rw [h4]; exact h2⟩
theorem G1r.g {T : Int} {k : Int → Int} {p : Int} (h : G1r T k p) (c : ¬ (k p = 6 ∨ k p = 7 ∨ k p = 8)) : (k p = 4 ∨ k p = 5) ∧ ∃ q, gGo T k p q ∧ G2r T k q := by
  obtain ⟨d, h⟩ := h
  rw [ogW_no (st := fun p => k p = 6 ∨ k p = 7 ∨ k p = 8) c, Option.bind_some] at h
  unfold ogG1 at h
  split at h
  · rename_i r
    obtain ⟨b, h1, h⟩ := ogB h; obtain ⟨e, h2, h⟩ := ogB h
    have e2 := ogT_lt h2
    exact ⟨r, e, ⟨b, h1, e2.2, e2.1⟩, d, h⟩
  · cases h
theorem G1r.k {T : Int} {k : Int → Int} {p : Int} (h : G1r T k p) : k p ≠ 0 := fun z => by
  have g := (h.g (by omega)).1; omega
theorem G2r.r {T : Int} {k : Int → Int} {p : Int} (hz : ∀ t, T ≤ t → k t = 0) (h : G2r T k p) (c : k p = 10) : ∃ q, gRoc T k p q ∧ k (p + 1) = 2 ∧ (k (p + 2) = 17 → k (p + 3) = 2 ∧ k (p + 5) = 2) ∧ G2r T k q := by
  have lt : ∀ t c, k t = c → c ≠ 0 → t < T := fun t c e hc => by
    by_cases q : t < T
    · exact q
    · exact absurd (e.symm.trans (hz t (by omega))) hc
  obtain ⟨d, h⟩ := h
  have hT : ∀ p, (fun p => k p = 10) p → p < T := fun p e => lt p 10 e (by decide)
  obtain ⟨w, h1, h2⟩ := ogB h
  rw [ogW_st hT (fun p q _ e => ogR_inc _ _ e) c] at h1
  obtain ⟨x, h3, h4⟩ := ogB h1
  have i := ogR_2 h3
  exact ⟨x, ogR_i h3, i.1, i.2, d, by unfold ogG2; rw [h4]; exact h2⟩
theorem G2r.e {T : Int} {k : Int → Int} {p : Int} (h : G2r T k p) (c : k p ≠ 10) : k p = 0 := by
  obtain ⟨d, h⟩ := h
  unfold ogG2 at h; rw [ogW_no (st := fun p => k p = 10) c, Option.bind_some] at h
  by_cases c0 : k p = 0
  · exact c0
  · rw [if_neg c0] at h; cases h
theorem MRr.of {M : sM} {k v : Int → Int} {S u : sS} (h : MRr M k v S) (hN : NRr M.1 k v u) (c0 : u.1 231 33 = S.1 231 33) (c1 : u.1 231 34 = S.1 231 34) (c2 : u.1 231 35 = S.1 231 35) (c3 : u.1 231 36 = S.1 231 36) (c4 : u.1 231 42 = S.1 231 42) : MRr M k v u := by
  obtain ⟨hN0, hK, d0, d1, d2, d3, d4, ds⟩ := h
  exact ⟨hN, hK, ⟨c0.trans d0.1, d0.2⟩, ⟨c1.trans d1.1, d1.2⟩, ⟨c2.trans d2.1, d2.2⟩, ⟨c3.trans d3.1, d3.2⟩, ⟨c4.trans d4.1, d4.2⟩, ds⟩
theorem PBr.of {M : sM} {S u : sS} (h : PBr M S) (e : u.1 231 32 = S.1 231 32) (f : u.2.1 252 = S.2.1 252) : PBr M u := by unfold PBr; rw [e, f]; exact h
theorem MRr.zero {k v : Int → Int} {S : sS} (c25 : S.1 231 25 = 0) (c0 : S.1 231 33 = 0) (c1 : S.1 231 34 = 0) (c2 : S.1 231 35 = 0) (c3 : S.1 231 36 = 0) (c4 : S.1 231 42 = 0) : MRr M00 k v S :=
  ⟨⟨⟨c25.symm, Int.le_refl _, by decide⟩, fun s a b => absurd b (by show ¬ s < (0 : Int); omega), fun s a b => absurd b (by show ¬ s < (0 : Int); omega)⟩, ⟨fun s t a b => absurd b (by show ¬ s < (0 : Int); omega), fun s a b => absurd b (by show ¬ s < (0 : Int); omega)⟩, ⟨c0, by decide, by decide⟩, ⟨c1, by decide, by decide⟩, ⟨c2, by decide, by decide⟩, ⟨c3, by decide, by decide⟩, ⟨c4, by decide, by decide⟩, by decide⟩
theorem PBr.zero {S : sS} (c : S.1 231 32 = 0) : PBr M00 S := ⟨⟨by omega, by show S.1 231 32 ≤ 144 * 0; omega⟩, fun s a b => absurd b (by show ¬ s < (0 : Int); omega)⟩
theorem eDg_n {T : Int} {k v : Int → Int} {M : sM} {p lk : Int} (hl : lk = M.2.2.2.2.2.2.2) (h : eU T k (eF T k v 30 M.1) lk (p + 1) = none) : eDg T k v M p = none := by unfold eDg; rw [← hl, h]; rfl
theorem eDg_s {T : Int} {k v : Int → Int} {M : sM} {p lk q lk' : Int} {V : Int → Int} (hl : lk = M.2.2.2.2.2.2.2) (h : eU T k (eF T k v 30 M.1) lk (p + 1) = some (q, V, lk')) : eDg T k v M p = some ((M.1, M.2.1, M.2.2.1, M.2.2.2.1, M.2.2.2.2.1, M.2.2.2.2.2.1, (if k p = 4 then 1 else 0), lk'), q + 1) := by unfold eDg; rw [← hl, h]; rfl
def gb5 (u : sS) : Prop := ∀ t, 0 ≤ t → t ≤ 12 → -99999 ≤ u.2.2.1 256 t ∧ u.2.2.1 256 t ≤ 99999