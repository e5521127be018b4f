def pS8 (k : Nat) : Bool := rgB 215 222 k
def pS6 (k : Nat) : Bool := rgB 217 222 k
def pS12 (k : Nat) : Bool := rgB 213 224 k
theorem pS6_8 : ∀ k, pS6 k = true → pS8 k = true := fun k h => by have := rgB_t h; exact rgB_i (by omega)
theorem pS8_12 : ∀ k, pS8 k = true → pS12 k = true := fun k h => by have := rgB_t h; exact rgB_i (by omega)
theorem pS12_N : ∀ k, pS12 k = true → pN k = true := fun k h => by
  have := rgB_t h
  simp only [pN, rgB_i (a := 194) (b := 224) (k := k) ⟨by omega, by omega⟩, Bool.or_true, Bool.true_or]
def pTp (k : Nat) : Bool := Nat.beq k 189 || Nat.beq k 208 || rgB 219 220 k
def pTq (k : Nat) : Bool := Nat.beq k 189 || Nat.beq k 195 || rgB 219 220 k
def pE (k : Nat) : Bool := pW k || rgB 188 189 k || Nat.beq k 192 || rgB 225 226 k
theorem pW_E : ∀ k, pW k = true → pE k = true := fun k h => by rw [pE, h]; rfl
theorem pTp_E : ∀ k, pTp k = true → pE k = true := fun k h => by
  simp only [pTp, Bool.or_eq_true] at h
  rcases h with (h | h) | h
  · rw [Nat.eq_of_beq_eq_true h]; rfl
  · rw [Nat.eq_of_beq_eq_true h]; rfl
  · have := rgB_t h
    exact pW_E k (pN_W k (pS12_N k (rgB_i (by omega))))
theorem pTq_E : ∀ k, pTq k = true → pE k = true := fun k h => by
  simp only [pTq, Bool.or_eq_true] at h
  rcases h with (h | h) | h
  · rw [Nat.eq_of_beq_eq_true h]; rfl
  · rw [Nat.eq_of_beq_eq_true h]; rfl
  · have := rgB_t h
    exact pW_E k (pN_W k (pS12_N k (rgB_i (by omega))))
theorem pRd_E : ∀ k, pRd k = true → pE k = true := fun k h => by
  rw [pRd, Bool.or_eq_true] at h
  rcases h with h | h <;> (rw [Nat.eq_of_beq_eq_true h]; rfl)
theorem pE_C : ∀ k, pE k = true → pC k = true := fun k h => by
  simp only [pE, Bool.or_eq_true] at h
  rcases h with ((h | h) | h) | h
  · exact pW_C k h
  all_goals (rw [pC, rgB_i (a := 3) (b := 230) (by first | (have := rgB_t h; omega) | (have := Nat.eq_of_beq_eq_true h; omega)), Bool.or_true])
theorem cX.mod188 {G : sG} {S : sS} {x y : Nat} {b : Int} {o : Nat} (h : cX G S x y b) (m : mdl o) : cX G (uR S 188 15 (.ref (G.2.2.1 + o))) x y b := by
  have eo : ∀ k i, ¬ (k = 188 ∧ i = 15) → (uR S 188 15 (.ref (G.2.2.1 + o))).2.2.2 k i = S.2.2.2 k i := fun k i q => uR_ne q
  obtain ⟨m1, ⟨m2, m3, m4⟩, ⟨m5, m6, m7⟩, ⟨m8, m9, m10⟩, m11, m12⟩ := h.rm
  refine h.putR (show tau 188 = .inl 1 from rfl) (by decide) (by decide) ⟨?_, ⟨m2, m3, by rw [eo _ _ (by decide)]; exact m4⟩, ⟨m5, m6, by rw [eo _ _ (by decide)]; exact m7⟩, ⟨o, m, uR_on⟩, ?_, ?_⟩
  · rw [eo _ _ (by decide), eo _ _ (by decide)]; exact m1
  · rw [eo _ _ (by decide), eo _ _ (by decide)]; exact m11
  · rw [eo _ _ (by decide)]; exact m12
