def pP (k : Nat) : Bool := rgB 169 176 k
theorem pP_N : ∀ k, pP k = true → pN k = true := fun k h => by
  have := rgB_t h
  simp only [pN, rgB_i (a := 158) (b := 184) (k := k) ⟨by omega, by omega⟩, Bool.or_true, Bool.true_or]
