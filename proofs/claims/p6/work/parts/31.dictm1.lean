def pX (k : Nat) : Bool := pN k || rgB 135 140 k
def pY (k : Nat) : Bool := pN k || rgB 138 139 k
def pZ (k : Nat) : Bool := rgB 136 137 k || rgB 145 156 k
theorem pZ_N : ∀ k, pZ k = true → pN k = true := fun k h => by
  rw [pZ, Bool.or_eq_true] at h
  rcases h with h | h <;> simp [pN, h]
  have := rgB_t h
  exact Or.inl (Or.inl (Or.inl (Or.inr (rgB_i ⟨by omega, by omega⟩))))
theorem pN_Y : ∀ k, pN k = true → pY k = true := fun k h => by simp [pY, h]
theorem pY_X : ∀ k, pY k = true → pX k = true := fun k h => by
  rw [pY, Bool.or_eq_true] at h
  rcases h with h | h
  · simp [pX, h]
  · have := rgB_t h
    simp [pX, rgB_i (a := 135) (b := 140) (k := k) ⟨by omega, by omega⟩]
theorem pX_C : ∀ k, pX k = true → pC k = true := fun k h => by
  rw [pX, Bool.or_eq_true] at h
  rcases h with h | h
  · exact pN_C k h
  · have := rgB_t h
    simp [pC, rgB_i (a := 3) (b := 230) (k := k) ⟨by omega, by omega⟩]
theorem dic_k {o : Nat} (m : dc o) : o < 231 := by rcases m with rfl | rfl <;> decide
theorem dic_z {o : Nat} (m : dc o) : pZ o = true := by rcases m with rfl | rfl <;> rfl
theorem cX.kend0 {G : sG} {S : sS} {x y : Nat} {b : Int} (h : cX G S x y b) : cX G (uF S 135 19 0) x y b := by
  refine ⟨⟨h.fi.put (ci := 2) rfl ⟨by decide, by decide⟩, h.ai, h.li⟩, h.2.1, ?_, h.ns, ?_, ?_⟩
  · intro o ho hx
    rw [uF_ne (fun q => by rw [q.1] at ho; cases ho)]; exact h.nb o ho hx
  · intro q
    rw [uF_ne (by decide)] at q
    rw [uF_ne (by decide)]; exact h.ub q
  · exact ⟨⟨0, uF_on⟩, h.ko.2⟩
/-- the two rows of cells -/
def dcs (G : sG) (S : sS) (oc od : Nat) : Prop := dc oc ∧ dc od ∧ Hd (oc ≠ od) ∧ S.2.2.2 135 0 = .ref (G.2.2.1 + oc) ∧ S.2.2.2 135 1 = .ref (G.2.2.1 + od)
def pD4 (v k : Nat) : Bool := pB v k || rgB 143 144 k || rgB 153 156 k
theorem pD4_sub {P : pS} {v : Nat} (h1 : P v = true) (h2 : P (v + 1) = true) (a1 : P 143 = true) (a2 : P 144 = true) (a3 : P 153 = true) (a4 : P 154 = true) (a5 : P 155 = true) (a6 : P 156 = true) : ∀ k, pD4 v k = true → P k = true := fun k e => by
  simp only [pD4, Bool.or_eq_true] at e
  rcases e with (e | e) | e
  · exact pB_sub h1 h2 k e
  · have := rgB_t e
    rcases (by omega : k = 143 ∨ k = 144) with q | q <;> rw [q] <;> assumption
  · have := rgB_t e
    rcases (by omega : k = 153 ∨ k = 154 ∨ k = 155 ∨ k = 156) with q | q | q | q <;> rw [q] <;> assumption
def pF (k : Nat) : Bool := pZ k || Nat.beq k 135
theorem pF_X : ∀ k, pF k = true → pX k = true := fun k h => by
  rw [pF, Bool.or_eq_true] at h
  rcases h with h | h
  · simp [pX, pZ_N k h]
  · rw [Nat.eq_of_beq_eq_true h]; rfl
theorem pZ_F : ∀ k, pZ k = true → pF k = true := fun k h => by simp [pF, h]
