theorem dic_L {k : Nat} (m : dc k) : slotL k = 6 := by rcases m with rfl | rfl <;> rfl
def pW (k : Nat) : Bool := pN k || Nat.beq k 120 || Nat.beq k 193
theorem pN_W : ∀ k, pN k = true → pW k = true := fun k h => by simp [pW, h]
theorem pW_C : ∀ k, pW k = true → pC k = true := fun k h => by
  simp only [pW, Bool.or_eq_true] at h
  rcases h with (h | h) | h
  · exact pN_C k h
  · rw [Nat.eq_of_beq_eq_true h]; rfl
  · rw [Nat.eq_of_beq_eq_true h]; rfl
theorem pW_A : ∀ k, pW k = true → pA k = true := fun k h => pC_A k (pW_C k h)
theorem slot0 {f g : Int → Int} {a L T : Int} (h : SlotOK f a L T) (hL : 0 ≤ L) (h0 : g a = 0) (hg : ∀ i, a < i → i < a + 8 → g i = f i) : SlotOK g a L T := ⟨by omega, fun i i0 i1 => by rw [hg i i0 i1]; exact h.2.1 i i0 i1, fun q => by omega, fun q => by omega, fun q => by omega⟩
def pM (o k : Nat) : Bool := rgB o (o + 2) k
theorem pM_0 {o : Nat} : pM o o = true := rgB_i ⟨by omega, by omega⟩
theorem pM_1 {o : Nat} : pM o (o + 1) = true := rgB_i ⟨by omega, by omega⟩
theorem pM_2 {o : Nat} : pM o (o + 2) = true := rgB_i ⟨by omega, by omega⟩
theorem pM_sub {P : pS} {o : Nat} (h0 : P o = true) (h1 : P (o + 1) = true) (h2 : P (o + 2) = true) : ∀ k, pM o k = true → P k = true := fun k h => by
  have := rgB_t h
  rcases (by omega : k = o ∨ k = o + 1 ∨ k = o + 2) with e | e | e <;> rw [e] <;> assumption
theorem pM_no {o k : Nat} (h0 : k ≠ o) (h1 : k ≠ o + 1) (h2 : k ≠ o + 2) : pM o k = false := by
  cases e : pM o k
  · rfl
  · exfalso; have := rgB_t e; omega
theorem cX.mA {G : sG} {S : sS} {x y : Nat} {b : Int} {o : Nat} {i v : Int} (h : cX G S x y b) (m : mdl o) (hv : -2147483648 ≤ v ∧ v ≤ 2147483647) : cX G (uA S (o + 1) i v) x y b := h.A (by rw [m.2.2.2.2.1]; decide) (by rw [m.2.2.2.2.1]; decide) (fun e => by have := m.2.2.2.2.1; rw [e] at this; revert this; decide) (by rw [m.2.2.2.2.1]; exact hv)
theorem cX.mZ {G : sG} {S : sS} {x y : Nat} {b : Int} {o : Nat} {i v : Int} (h : cX G S x y b) (m : mdl o) (hv : 0 ≤ v ∧ v ≤ 1) : cX G (uA S (o + 2) i v) x y b := h.A (by rw [m.2.2.2.2.2]; decide) (by rw [m.2.2.2.2.2]; decide) (fun e => by have := m.2.2.2.2.2; rw [e] at this; revert this; decide) (by rw [m.2.2.2.2.2]; exact hv)
