def tn (j : Int) : Int := if j ≤ 0 then 1 else if j = 1 then 10 else if j = 2 then 100 else if j = 3 then 1000 else if j = 4 then 10000 else if j = 5 then 100000 else if j = 6 then 1000000 else if j = 7 then 10000000 else if j = 8 then 100000000 else 1000000000
theorem tn_0 (j : Int) : 0 < tn j := by unfold tn; repeat' split <;> omega
theorem tn_9 {j l : Int} (h : l < tn j) (_ : j ≤ 9) : l ≤ 999999999 := by unfold tn at h; repeat' split at h <;> omega
theorem tn_st {j l : Int} (h : l < tn j) (h8 : j ≤ 8) : l ≤ 99999999 ∧ ∀ d : Int, 0 ≤ d → d ≤ 9 → 0 ≤ j → 10 * l + d < tn (j + 1) := by
  refine ⟨by unfold tn at h; repeat' split at h <;> omega, fun d d0 d1 j0 => ?_⟩
  rcases (by omega : j = 0 ∨ j = 1 ∨ j = 2 ∨ j = 3 ∨ j = 4 ∨ j = 5 ∨ j = 6 ∨ j = 7 ∨ j = 8) with q | q | q | q | q | q | q | q | q <;> subst q <;> simp [tn] at h ⊢ <;> omega
