/-! The second reading: rows -/
theorem gRi_le {K V : Int → Int} {a b : Int} (h : gRi K V a b) : a ≤ b := by
  rcases h with ⟨_, h⟩ | ⟨_, c, h1, d, h2, e, h3, h4⟩
  · omega
  · have := h1.2; have := h2.2; have := h3.2; have := h4.2; omega
theorem gRo_lt {K V : Int → Int} {n : Nat} {p q : Int} (h : gRo K V (gF K V n) p q) : p < q := by
  obtain ⟨a, h1, b, h2, c, h3, d, h4, _, e, h5, h6⟩ := h
  have := h1.2; have := gRi_le h2; have := h3.2; have := gU_lt h4; have := gU_lt h5; have := h6.2
  omega
theorem gT_lt {K V : Int → Int} {p q : Int} (h : gT K V p q) : p + 2 ≤ q := by
  rcases h with ⟨_, a, h1, b, h2, c, h3, d, h4, e, h5, h6⟩ | ⟨_, a, h1, b, h2, c, h3, d, h4, h5⟩ | ⟨_, a, h1, b, h2, ⟨_, h3⟩ | ⟨_, h3⟩⟩
  · have := h1.2; have := h2.2; have := h3.2; have := h4.2; have := h5.2; have := h6.2; omega
  · have := h1.2; have := gI_le h2; have := h3.2; have := gL_lt (fun _ _ t => gV_lt t) h4; have := h5.2; omega
  · have := h1.2; have := gI_le h2; have := h3.2; omega
  · have := h1.2; have := gI_le h2; have := h3.2; omega