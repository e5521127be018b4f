def pH (k : Nat) : Bool := rgB 3 4 k || rgB 119 184 k || rgB 193 224 k || Nat.beq k 227
theorem pH_i {k : Nat} (h : (3 ≤ k ∧ k ≤ 4) ∨ (119 ≤ k ∧ k ≤ 184) ∨ (193 ≤ k ∧ k ≤ 224) ∨ k = 227) : pH k = true := by
  rw [pH]
  rcases h with h | h | h | h
  · rw [rgB_i h]; rfl
  · rw [rgB_i h, Bool.or_true]; rfl
  · rw [rgB_i h, Bool.or_true]; rfl
  · rw [h]; rfl
theorem pN_t {k : Nat} (h : pN k = true) : (3 ≤ k ∧ k ≤ 4) ∨ (121 ≤ k ∧ k ≤ 184) ∨ (194 ≤ k ∧ k ≤ 224) ∨ k = 227 := by
  simp only [pN, Bool.or_eq_true] at h
  rcases h with (((((h | h) | h) | h) | h) | h) | h
  all_goals first | (have := rgB_t h; omega) | (have := Nat.eq_of_beq_eq_true h; omega)
theorem pX_H : ∀ k, pX k = true → pH k = true := by
  have a : ∀ k, k < 231 → pX k = true → pH k = true := by decide +kernel
  intro k h
  have := rgB_t (pC_A k (pX_C k h))
  exact a k (by omega) h
theorem pW_H : ∀ k, pW k = true → pH k = true := by
  have a : ∀ k, k < 231 → pW k = true → pH k = true := by decide +kernel
  intro k h
  have := rgB_t (pW_A k h)
  exact a k (by omega) h
theorem pH_C : ∀ k, pH k = true → pC k = true := fun k h => by
  simp only [pH, Bool.or_eq_true] at h
  rw [pC, rgB_i (a := 3) (b := 230) (by rcases h with ((h | h) | h) | h; all_goals first | (have := rgB_t h; omega) | (have := Nat.eq_of_beq_eq_true h; omega)), Bool.or_true]
theorem cX.mod119 {G : sG} {S : sS} {x y : Nat} {b : Int} {o : Nat} (h : cX G S x y b) (m : mdl o) : cX G (uR S 119 7 (.ref (G.2.2.1 + o))) x y b := by
  have eo : ∀ k i, ¬ (k = 119 ∧ i = 7) → (uR S 119 7 (.ref (G.2.2.1 + o))).2.2.2 k i = S.2.2.2 k i := fun k i q => uR_ne q
  obtain ⟨m1, ⟨m2, m3, m4⟩, ⟨m5, m6, m7⟩, ⟨m8, m9, m10⟩, m11, m12⟩ := h.rm
  refine h.putR (show tau 119 = .inl 7 from rfl) (by decide) (by decide) ⟨?_, ⟨m2, m3, by rw [eo _ _ (by decide)]; exact m4⟩, ⟨o, m, uR_on⟩, ⟨m8, m9, by rw [eo _ _ (by decide)]; exact m10⟩, ?_, ?_⟩
  · rw [eo _ _ (by decide), eo _ _ (by decide)]; exact m1
  · rw [eo _ _ (by decide), eo _ _ (by decide)]; exact m11
  · rw [eo _ _ (by decide)]; exact m12
