/-! The teller's small methods, exactly -/
theorem efn_f {nm : Int → Int} {x i : Int} (h0 : 0 ≤ i) (h : ∀ s : Int, 0 ≤ s → s < i → nm s ≠ x) (e : nm i = x) : ∀ m : Nat, i < m → efn nm x m = i := by
  intro m
  induction m with
  | zero => intro q; omega
  | succ m ih =>
    intro q
    have ed : efn nm x (m + 1) = if 0 ≤ efn nm x m then efn nm x m else if nm m = x then (m : Int) else -1 := rfl
    by_cases z : i < m
    · rw [ed, ih z, if_pos h0]
    · have em : (m : Int) = i := by omega
      have en : efn nm x m = -1 := by
        rcases efn_r (nm := nm) (x := x) m with a | a
        · exact a.1
        · exact absurd a.2.2 (h _ a.1 (by omega))
      rw [ed, en, if_neg (by decide), if_pos (by rw [em]; exact e), em]
theorem efn_0 {nm : Int → Int} {x : Int} {m : Nat} (h : ∀ s : Int, 0 ≤ s → s < m → nm s ≠ x) : efn nm x m = -1 := by
  rcases efn_r (nm := nm) (x := x) m with a | a
  · exact a.1
  · exact absurd a.2.2 (h _ a.1 a.2.1)
def vbd (f : Int → Int) : Prop := ∀ j, 0 ≤ j → j < 13 → -10000000000 ≤ f j ∧ f j ≤ 10000000000
def veq (f g : Int → Int) : Prop := ∀ j, 0 ≤ j → j < 13 → f j = g j
theorem tmul {t x : Int} (ht : t = 1 ∨ t = -1) (h : -10000000000 ≤ x ∧ x ≤ 10000000000) : -10000000000 ≤ t * x ∧ t * x ≤ 10000000000 := by
  rcases ht with e | e <;> rw [e] <;> omega
theorem grt_y {f : Int → Int} {j : Int} (h0 : 0 ≤ j) (h1 : j < 13) (h : 99999 < f j ∨ f j < -99999) : grt f := ⟨⟨j.toNat, by omega⟩, by show 99999 < f ((j.toNat : Nat) : Int) ∨ f ((j.toNat : Nat) : Int) < -99999; rw [show ((j.toNat : Nat) : Int) = j by omega]; exact h⟩
theorem grt_n {f : Int → Int} (h : ∀ j, 0 ≤ j → j < 13 → -99999 ≤ f j ∧ f j ≤ 99999) : ¬ grt f := fun ⟨j, q⟩ => by
  have := h (j.val : Int) (by omega) (by have := j.isLt; omega); omega
theorem ngrt {f : Int → Int} (h : ¬ grt f) (j : Int) (h0 : 0 ≤ j) (h1 : j < 13) : -99999 ≤ f j ∧ f j ≤ 99999 := by
  by_cases q : -99999 ≤ f j ∧ f j ≤ 99999
  · exact q
  · exact absurd (grt_y h0 h1 (by omega)) h
theorem hsv_y {f : Int → Int} {j : Int} (h0 : 1 ≤ j) (h1 : j < 13) (h : f j ≠ 0) : hsv f := ⟨⟨(j - 1).toNat, by omega⟩, by show f (((j - 1).toNat : Nat) + 1 : Int) ≠ 0; rw [show (((j - 1).toNat : Nat) : Int) + 1 = j by omega]; exact h⟩
theorem hsv_n {f : Int → Int} (h : ∀ j, 1 ≤ j → j < 13 → f j = 0) : ¬ hsv f := fun ⟨j, q⟩ => q (h _ (by omega) (by have := j.isLt; omega))
theorem veq_grt {f g : Int → Int} (h : veq f g) : grt f ↔ grt g := by
  constructor
  · rintro ⟨j, q⟩; exact ⟨j, by rw [← h (j.val : Int) (by omega) (by have := j.isLt; omega)]; exact q⟩
  · rintro ⟨j, q⟩; exact ⟨j, by rw [h (j.val : Int) (by omega) (by have := j.isLt; omega)]; exact q⟩
theorem veq_hsv {f g : Int → Int} (h : veq f g) : hsv f ↔ hsv g := by
  constructor
  · rintro ⟨j, q⟩; exact ⟨j, by rw [← h _ (by omega) (by have := j.isLt; omega)]; exact q⟩
  · rintro ⟨j, q⟩; exact ⟨j, by rw [h _ (by omega) (by have := j.isLt; omega)]; exact q⟩
theorem mulb {a b : Int} (ha : -99999 ≤ a ∧ a ≤ 99999) (hb : -99999 ≤ b ∧ b ≤ 99999) : -10000000000 ≤ a * b ∧ a * b ≤ 10000000000 := by
  have h1 : a * b ≤ 99999 * 99999 := by
    by_cases q : 0 ≤ a
    · by_cases z : 0 ≤ b
      · exact Int.mul_le_mul ha.2 hb.2 z (by decide)
      · have := Int.mul_nonneg q (show 0 ≤ -b by omega); rw [Int.mul_neg] at this; omega
    · by_cases z : 0 ≤ b
      · have := Int.mul_nonneg (show 0 ≤ -a by omega) z; rw [Int.neg_mul] at this; omega
      · have := Int.mul_le_mul (show -a ≤ 99999 by omega) (show -b ≤ 99999 by omega) (by omega) (by decide); rw [Int.neg_mul_neg] at this; exact this
  have h2 : -(a * b) ≤ 99999 * 99999 := by
    rw [← Int.neg_mul]
    by_cases q : 0 ≤ -a
    · by_cases z : 0 ≤ b
      · exact Int.mul_le_mul (show -a ≤ 99999 by omega) hb.2 z (by decide)
      · have := Int.mul_nonneg q (show 0 ≤ -b by omega); rw [Int.mul_neg] at this; omega
    · by_cases z : 0 ≤ b
      · have := Int.mul_nonneg (show 0 ≤ a by omega) z; rw [Int.neg_mul]; omega
      · have := Int.mul_le_mul (show a ≤ 99999 by omega) (show -b ≤ 99999 by omega) (by omega) (by decide); rw [Int.neg_mul]; rw [Int.mul_neg] at this; exact this
  omega
