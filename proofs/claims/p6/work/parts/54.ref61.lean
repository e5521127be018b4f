/-- how many digits were looked at, by the power of ten that is next -/
def dgs (b : Int) : Int := if b = 100000000 then 0 else if b = 10000000 then 1 else if b = 1000000 then 2 else if b = 100000 then 3 else if b = 10000 then 4 else if b = 1000 then 5 else if b = 100 then 6 else if b = 10 then 7 else if b = 1 then 8 else 9
theorem dgs_r {b : Int} (h : b = 100000000 ∨ b = 10000000 ∨ b = 1000000 ∨ b = 100000 ∨ b = 10000 ∨ b = 1000 ∨ b = 100 ∨ b = 10 ∨ b = 1 ∨ b = 0) : 0 ≤ dgs b ∧ dgs b ≤ 9 ∧ (0 < b → dgs b ≤ 8 ∧ dgs (b / 10) = dgs b + 1) ∧ (b = 0 → dgs b = 9) := by
  rcases h with q | q | q | q | q | q | q | q | q | q <;> (rw [q]; decide)
theorem divR {a b : Int} (h0 : 0 ≤ a) (hb : 0 < b) : 0 ≤ a.tdiv b ∧ a.tdiv b ≤ a := by
  rw [Int.tdiv_eq_ediv_of_nonneg h0]
  exact ⟨Int.ediv_nonneg h0 (by omega), Int.ediv_le_self b h0⟩
