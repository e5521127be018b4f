/-! The second reading: sets, parameters, variables -/
theorem gI_le {K V : Int → Int} {pz q : Int} (h : gI K V pz q) : pz ≤ q := by
  rcases h with ⟨_, h⟩ | ⟨_, a, h1, ⟨_, h2⟩ | ⟨_, b, h2, h3⟩⟩
  · omega
  · have := h1.2; have := h2.2; omega
  · have := h1.2; have := h2.2; have := h3.2; omega
theorem gV_lt {K V : Int → Int} {pz q : Int} (h : gV K V pz q) : pz < q := by
  rcases h with ⟨_, h⟩ | ⟨_, h⟩
  · have := h.2; omega
  · have := h.2; omega
theorem gV_tl {K V : Int → Int} {st : Int → Prop} {c q : Int} (t : gTl st (fun c x => gV K V (c + 1) x) c q) : c ≤ q := gTl_le (R := fun c x => gV K V (c + 1) x) (fun c e r => by have := gV_lt r; omega) t
theorem mm12 {a b : Int} (ha : 1 ≤ a ∧ a ≤ 12) (hb : 1 ≤ b ∧ b ≤ 12) : 1 ≤ a * b ∧ a * b ≤ 144 := by
  have h1 : a * b ≤ 12 * 12 := Int.mul_le_mul ha.2 hb.2 (by omega) (by decide)
  have h2 : 1 * 1 ≤ a * b := Int.mul_le_mul ha.1 hb.1 (by decide) (by omega)
  omega