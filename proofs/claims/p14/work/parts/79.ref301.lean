/-! tellAll, tell -/
theorem dTO.gE {S : sS} (h : dTO S) (hs : S.1 231 14 ≤ 30000) : gE (S.2.1 244) (S.1 231 19) := ⟨by have := h.1; omega, fun t a b => h.2.2.1 t a b, h.2.2.2⟩
theorem dTO.gQ {S : sS} (h : dTO S) (hs : S.1 231 14 ≤ 2000) : gQ (S.2.1 244) (S.2.1 247) (S.2.1 245) (S.2.1 246) (S.1 231 19) := ⟨by have := h.1; omega, fun t a b => by have := (h.2.1 t a b).1; omega, fun t a b k => (h.2.1 t a b).2 k⟩
def RBn (S : sS) : Prop := ∀ x, -99999 ≤ S.2.2.1 255 x ∧ S.2.2.1 255 x ≤ 99999
theorem gT_3 {K V : Int → Int} {p q : Int} (h : gT K V p q) : p + 3 ≤ q := by
  rcases h with ⟨_, a, h1, b, h2, c, h3, d, h4, e, h5, h6⟩ | ⟨_, a, h1, b, h2, c, h3, d, h4, h5⟩ | ⟨_, a, h1, b, h2, ⟨_, h3⟩ | ⟨_, h3⟩⟩
  · have := h1.2; have := h2.2; have := h3.2; have := h4.2; have := h5.2; have := h6.2; omega
  · have := h1.2; have := gI_le h2; have := h3.2; have := gL_lt (fun _ _ t => gV_lt t) h4; have := h5.2; omega
  · have := h1.2; have := gI_le h2; have := h3.2; omega
  · have := h1.2; have := gI_le h2; have := h3.2; omega
theorem gRo_3 {K V : Int → Int} {n : Nat} {p q : Int} (h : gRo K V (gF K V n) p q) : p + 3 ≤ q := by
  obtain ⟨a, h1, b, h2, c, h3, d, h4, _, e, h5, h6⟩ := h
  have := h1.2; have := gRi_le h2; have := h3.2; have := gU_lt h4; have := gU_lt h5; have := h6.2
  omega