/-! The reference's dictionary -/
def cl (i j : Int) : Int := 8 * (15 * i + j)
def DKo (f : Int → Int) (pd ps hw : Int) : Prop := ∀ i j, 0 ≤ i → i ≤ pd + 1 → (i = 1 → hw = 1) → 0 ≤ j → j ≤ ps → NO f (cl i j) 6
/-- places, rows, numbers and the denominator -/
def DOK (S : sS) : Prop := ((0 ≤ S.1 231 58 ∧ S.1 231 58 ≤ 40) ∧ 0 ≤ S.1 231 59 ∧ S.1 231 59 ≤ 13) ∧ DKo (S.2.1 262) (S.1 231 58) (S.1 231 59) (S.1 231 60) ∧ NO (S.2.1 264) 0 6 ∧ 0 < nv (S.2.1 264) 0
theorem DOK.at {S : sS} (h : DOK S) {i j p : Int} (hi : 0 ≤ i ∧ i ≤ S.1 231 58 + 1) (hw : i = 1 → S.1 231 60 = 1) (hj : 0 ≤ j ∧ j ≤ S.1 231 59) (e : p = 8 * (15 * i + j)) : NO (S.2.1 262) p 6 := by rw [e]; exact h.2.1 i j hi.1 hi.2 hw hj.1 hj.2
theorem asn_1 {x : Int} : asn 1 x = -x := if_neg (by decide)
theorem asn_0 {x : Int} : asn 0 x = x := if_pos rfl