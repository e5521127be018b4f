/-! forms -/
theorem fB_c {u : sS} {ix v : Int} (h1 : u.2.2.1 257 ix = v) (h2 : ∀ t, 1 ≤ t → t ≤ 12 → u.2.2.1 257 (ix + t) = 0) (hv : -99999 ≤ v ∧ v ≤ 99999) : fB u ix := fun k a b => by
  by_cases z : k = 0
  · rw [z, Int.add_zero, h1]; exact hv
  · rw [h2 k (by omega) b]; decide
theorem fB_p {u : sS} {ix i : Int} (h : fB u ix) : fB (uL u 257 i 1) ix := fun k a b => by
  by_cases z : ix + k = i
  · rw [show (uL u 257 i 1).2.2.1 257 (ix + k) = 1 from by rw [z]; exact uL_on]; decide
  · rw [uL_ne (fun h => z h.2)]; exact h k a b
