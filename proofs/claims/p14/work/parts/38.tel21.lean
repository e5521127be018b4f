def pU (k : Nat) : Bool := Nat.beq k 11 || rgB 16 18 k
theorem pT_U : ∀ k, pT k = true → pU k = true := fun k h => by
  rw [pT, Bool.or_eq_true] at h
  rcases h with h | h
  · have : k = 11 := Nat.eq_of_beq_eq_true h
    subst this; rfl
  · have := rgB_t h
    simp [pU, rgB_i (a := 16) (b := 18) (k := k) ⟨by omega, by omega⟩]