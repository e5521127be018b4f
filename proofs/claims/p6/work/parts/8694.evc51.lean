theorem veq_cp {S : sS} {k0 k1 : Nat} {V : Int → Int} (h : veq (S.2.2.1 k0) V) : veq ((uD S k0 0 k1 0 13).2.2.1 k1) V := fun j a b => by
  rw [uD_get, if_pos ⟨rfl, by omega, by omega⟩, show (0 : Int) + (j - 0) = j by omega]; exact h j a b
