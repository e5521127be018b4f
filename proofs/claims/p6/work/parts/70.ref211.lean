/-! The reference reads: tokens -/
/-- the first T tokens stand in the text -/
def dTP (S : sS) (T : Int) : Prop := ∀ t, 0 ≤ t → t < T → (0 ≤ S.2.1 245 t ∧ 0 ≤ S.2.1 246 t ∧ S.2.1 245 t + S.2.1 246 t ≤ S.1 231 14) ∧ (S.2.1 244 t = 2 → 0 ≤ S.2.1 247 t ∧ S.2.1 247 t ≤ 99999)
def dTE (S : sS) (T : Int) : Prop := ∀ t, 0 ≤ t → t < T → 1 ≤ S.2.1 244 t ∧ S.2.1 244 t ≤ 4
def dTO (S : sS) : Prop := (1 ≤ S.1 231 19 ∧ S.1 231 19 ≤ S.1 231 14 + 1) ∧ dTP S (S.1 231 19) ∧ dTE S (S.1 231 19 - 1) ∧ (S.2.1 244 (S.1 231 19 - 1) = 5 ∨ S.2.1 244 (S.1 231 19 - 1) = 6)
def tkR (S u : sS) (T k f w v : Int) : Prop := (∀ x, u.2.1 244 x = if x = T then k else S.2.1 244 x) ∧ (∀ x, u.2.1 245 x = if x = T then f else S.2.1 245 x) ∧ (∀ x, u.2.1 246 x = if x = T then w else S.2.1 246 x) ∧ ∀ x, u.2.1 247 x = if x = T then v else S.2.1 247 x
theorem dTP.tok {S u : sS} {T k f w v : Int} (h : dTP S T) (r : tkR S u T k f w v) (e : u.1 231 14 = S.1 231 14) (hf : 0 ≤ f ∧ 0 ≤ w ∧ f + w ≤ S.1 231 14) (hv : k = 2 → 0 ≤ v ∧ v ≤ 99999) : dTP u (T + 1) := fun t t0 t1 => by
  rw [r.1, r.2.1, r.2.2.1, r.2.2.2, e]
  by_cases q : t = T
  · simp only [if_pos q]; exact ⟨hf, hv⟩
  · simp only [if_neg q]; exact h t t0 (by omega)
theorem dTE.tok {S u : sS} {T k f w v : Int} (h : dTE S T) (r : tkR S u T k f w v) : dTE u T := fun t t0 t1 => by
  rw [r.1, if_neg (by omega)]; exact h t t0 t1
theorem dTE.one {S : sS} {T : Int} (h : dTE S T) (hk : 1 ≤ S.2.1 244 T ∧ S.2.1 244 T ≤ 4) : dTE S (T + 1) := fun t t0 t1 => by
  by_cases q : t = T
  · rw [q]; exact hk
  · exact h t t0 (by omega)
theorem dTO.mk1 {S : sS} {T : Int} (e : S.1 231 19 = T + 1) (h0 : 0 ≤ T ∧ T ≤ S.1 231 14) (h1 : dTP S (T + 1)) (h2 : dTE S T) (h3 : S.2.1 244 T = 5 ∨ S.2.1 244 T = 6) : dTO S := by
  unfold dTO; rw [e, show T + 1 - 1 = T by omega]; exact ⟨by omega, h1, h2, h3⟩
theorem dTO.end {S u : sS} (h : dTO S) (e14 : u.1 231 14 = S.1 231 14) (e19 : u.1 231 19 = S.1 231 19) (a244 : ∀ x, x < S.1 231 19 → u.2.1 244 x = S.2.1 244 x) (a245 : u.2.1 245 = S.2.1 245) (a246 : u.2.1 246 = S.2.1 246) (a247 : u.2.1 247 = S.2.1 247) : dTO u := by
  obtain ⟨h0, h1, h2, h3⟩ := h
  unfold dTO
  rw [e14, e19, a244 _ (by omega)]
  refine ⟨h0, fun t t0 t1 => ?_, fun t t0 t1 => ?_, h3⟩
  · rw [e14, a245, a246, a247, a244 _ t1]; exact h1 t t0 t1
  · rw [a244 _ (by omega)]; exact h2 t t0 t1
