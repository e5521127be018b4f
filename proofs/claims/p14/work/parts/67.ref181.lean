/-! cut -/
theorem cbp_0 : ∀ n, 0 < cbp n
  | 0 => by decide
  | n + 1 => by have := cbp_0 n; show 0 < 41 * cbp n; omega
theorem cbp_le : ∀ {m n : Nat}, m ≤ n → cbp m ≤ cbp n := by
  intro m n h
  induction h with
  | refl => exact Int.le_refl _
  | step _ ih => rename_i k _; have := cbp_0 k; show _ ≤ 41 * cbp k; omega
theorem ct_mul {D m r cb : Int} (hm : 0 ≤ m ∧ m < D) (hr : -cb ≤ r ∧ r ≤ cb) : -(D * cb) ≤ m * r ∧ m * r ≤ D * cb := by
  have a : m * r ≤ m * cb := Int.mul_le_mul_of_nonneg_left hr.2 hm.1
  have b : m * -cb ≤ m * r := Int.mul_le_mul_of_nonneg_left hr.1 hm.1
  have c : m * cb ≤ D * cb := Int.mul_le_mul_of_nonneg_right (by omega) (by omega)
  rw [Int.mul_neg] at b
  omega
theorem ct_add {a X y z : Int} (hy : -(a * X) ≤ y ∧ y ≤ a * X) (hz : -X ≤ z ∧ z ≤ X) : -((a + 1) * X) ≤ y + z ∧ y + z ≤ (a + 1) * X := by
  rw [Int.add_mul, Int.one_mul]; omega
theorem ct_lim {a X y : Int} (ha : a ≤ 40) (hX : 0 ≤ X) (hy : -(a * X) ≤ y ∧ y ≤ a * X) : -(40 * X) ≤ y ∧ y ≤ 40 * X := by
  have : a * X ≤ 40 * X := Int.mul_le_mul_of_nonneg_right ha hX
  omega
theorem ct_13 {D cb y : Int} (hD : 0 < D ∧ D < pw 6) (hc : 0 ≤ cb ∧ cb ≤ cbp 20) (hy : -(40 * (D * cb)) ≤ y ∧ y ≤ 40 * (D * cb)) : -pw 13 < y ∧ y < pw 13 := by
  have a : D * cb ≤ D * cbp 20 := Int.mul_le_mul_of_nonneg_left hc.2 (by omega)
  have b : D * cbp 20 ≤ pw 6 * cbp 20 := Int.mul_le_mul_of_nonneg_right (by omega) (by have := cbp_0 20; omega)
  have c : 40 * (pw 6 * cbp 20) < pw 13 := by decide
  omega
theorem ct_q {D cb a Q R : Int} (hD : 0 < D) (h : a = D * Q + R) (hR : 0 ≤ R ∧ R < D) (ha : -(40 * (D * cb)) ≤ a ∧ a ≤ 40 * (D * cb)) : -(40 * cb) ≤ Q ∧ Q ≤ 40 * cb := by
  have e : D * (40 * cb) = 40 * (D * cb) := by grind
  constructor
  · rcases (by omega : Q ≤ -(40 * cb) - 1 ∨ -(40 * cb) ≤ Q) with q | q
    · have k : D * Q ≤ D * (-(40 * cb) - 1) := Int.mul_le_mul_of_nonneg_left q (by omega)
      rw [Int.mul_sub, Int.mul_neg, Int.mul_one, e] at k
      omega
    · exact q
  · rcases (by omega : 40 * cb + 1 ≤ Q ∨ Q ≤ 40 * cb) with q | q
    · have k : D * (40 * cb + 1) ≤ D * Q := Int.mul_le_mul_of_nonneg_left q (by omega)
      rw [Int.mul_add, Int.mul_one, e] at k
      omega
    · exact q
theorem ct_7 {f : Int → Int} {p L cb : Int} {n : Nat} (h : NO f p L) (hc : cb = cbp n) (hn : n < 20) (hq : -(40 * cb) ≤ nv f p ∧ nv f p ≤ 40 * cb) : NO f p 7 ∧ nu f p ≤ cbp (n + 1) := by
  have a : cbp (n + 1) ≤ cbp 20 := cbp_le (by omega)
  have b : cbp 20 < pw 7 := by decide
  have c : cbp (n + 1) = 41 * cbp n := rfl
  have d := cbp_0 n
  refine ⟨NO.of (n := 7) h (by omega), ?_⟩
  have e := nv_abs h
  omega
/-- the multipliers of a cut -/
def MC (D : Int) (S : sS) : Prop := ∀ k, 0 ≤ k → k ≤ 40 → NO (S.2.1 278) (8 * k) 6 ∧ 0 ≤ nv (S.2.1 278) (8 * k) ∧ nv (S.2.1 278) (8 * k) < D
/-- the row of a cut, up to the column v -/
def CN (S : sS) (f : Int → Int) (v : Int) : Prop := ∀ j, 0 ≤ j → j < v → nu f (8 * (13 * (S.1 231 63 + 1) + j)) ≤ cbp ((S.1 231 69).toNat + 1)
theorem CB.cut {S u : sS} (h : CB S) (hc : S.1 231 48 = S.1 231 46 ∧ S.1 231 69 < S.1 231 68) (h46 : S.1 231 46 ≤ 12) (hRW : RW S) (h63 : S.1 231 63 ≤ 39) (h69 : 0 ≤ S.1 231 69) (e46 : u.1 231 46 = S.1 231 46) (e63 : u.1 231 63 = S.1 231 63 + 1) (e69 : u.1 231 69 = S.1 231 69 + 1) (ho : ∀ x, x < 104 * (S.1 231 63 + 1) ∨ 104 * (S.1 231 63 + 1) + 104 ≤ x → u.2.1 261 x = S.2.1 261 x) (hN : CN S (u.2.1 261) (S.1 231 46 + 1)) : CB u := fun _ k j k0 k1 j0 j1 => by
  have eq : (u.1 231 69).toNat = (S.1 231 69).toNat + 1 := by omega
  rw [eq]
  by_cases q : k = S.1 231 63 + 1
  · rw [q]; exact hN j j0 (by omega)
  · have a := h hc k j k0 (by omega) j0 (by omega)
    have n := hRW k j k0 (by omega) j0 (by omega)
    have c := (n.cg (g := u.2.1 261) (q := 8 * (13 * k + j)) (ho _ (by omega)) (fun i i0 i1 => ho _ (by have := n.1; omega))).2.2.1
    rw [c]
    exact Int.le_trans a (cbp_le (by omega))