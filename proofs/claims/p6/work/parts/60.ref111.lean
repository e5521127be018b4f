theorem NO_z {f : Int → Int} {p L : Int} (h : f p = 0) (hL : 0 ≤ L) : NO f p L := by
  have a := al_e (f := f) (p := p)
  exact ⟨by omega, fun i i0 i1 => by omega, fun z => absurd (by omega : al f p = 0) z⟩
def MD (S : sS) : Prop := (0 ≤ S.1 231 46 ∧ S.1 231 46 ≤ 12) ∧ (0 ≤ S.1 231 47 ∧ S.1 231 47 ≤ 16) ∧ 0 ≤ S.1 231 63 ∧ S.1 231 63 ≤ 40
def BO (S : sS) : Prop := (∀ i, 1 ≤ i → i ≤ S.1 231 58 → 0 ≤ S.2.1 265 i ∧ S.2.1 265 i ≤ S.1 231 46 + S.1 231 63) ∧ ∀ j, 1 ≤ j → j ≤ S.1 231 59 → 0 ≤ S.2.1 266 j ∧ S.2.1 266 j ≤ S.1 231 46 + S.1 231 63
/-- the multipliers -/
def MO (S : sS) : Prop := ∀ k, 0 ≤ k → k ≤ 40 → NO (S.2.1 278) (8 * k) 6
/-- the best point -/
def BS (S : sS) : Prop := NO (S.2.1 272) 0 6 ∧ NO (S.2.1 273) 0 6 ∧ 0 < nv (S.2.1 273) 0 ∧ ∀ j, 1 ≤ j → j ≤ S.1 231 46 → NO (S.2.1 274) (8 * j) 6
theorem c8_far {a k x : Int} (ne : a ≠ k) (hx : 8 * a ≤ x ∧ x ≤ 8 * a + 6) : x < 8 * k ∨ 8 * k + 6 < x := by omega
theorem WX.out {S : sS} (h : WX S) {r : Int} (hr : 1 ≤ r ∧ r ≤ S.1 231 58) (e : S.2.1 265 r = 0) : ∃ j, 1 ≤ j ∧ j ≤ S.1 231 59 ∧ TV S (r + 1) j ≠ 0 := by
  rcases h with ⟨r0, h0, hb0, hbn, hon, hwx, hj⟩ | ⟨hn, _⟩
  · by_cases q : r = r0
    · rw [q]; exact hj
    · exact absurd e (hbn r hr.1 hr.2 q)
  · exact absurd e (hn r hr.1 hr.2)
theorem TV_z {S : sS} (hD : DOK S) {i j : Int} (hi : 0 ≤ i ∧ i ≤ S.1 231 58 + 1) (hw : i = 1 → S.1 231 60 = 1) (hj : 0 ≤ j ∧ j ≤ S.1 231 59) : TV S i j = 0 ↔ S.2.1 262 (8 * (15 * i + j)) = 0 := (hD.at hi hw hj rfl).sgn.2.2
