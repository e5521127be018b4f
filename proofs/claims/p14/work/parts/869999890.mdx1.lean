/-! The reference's model by its numbers (as br4 has it) -/
def MDr (S : sS) (n mm mx : Int) (A : Int → Int → Int) (wh : Int → Int) : Prop := S.1 231 46 = n ∧ S.1 231 47 = mm ∧ S.1 231 49 = mx ∧ S.1 231 48 = wct wh n.toNat ∧ (∀ j, 0 ≤ j → j ≤ n → S.2.2.1 260 j = A 0 j) ∧ (∀ k j, 1 ≤ k → k ≤ mm → 0 ≤ j → j ≤ n → S.2.2.1 290 (13 * k + j) = A k j) ∧ ∀ j, 1 ≤ j → j ≤ n → S.2.1 259 j = wh j ∧ 0 ≤ wh j ∧ wh j ≤ 1
theorem MDr.sm {S u : sS} {n mm mx : Int} {A : Int → Int → Int} {wh : Int → Int} (h : MDr S n mm mx A wh) (e46 : u.1 231 46 = S.1 231 46) (e47 : u.1 231 47 = S.1 231 47) (e48 : u.1 231 48 = S.1 231 48) (e49 : u.1 231 49 = S.1 231 49) (a259 : u.2.1 259 = S.2.1 259) (l260 : u.2.2.1 260 = S.2.2.1 260) (l290 : u.2.2.1 290 = S.2.2.1 290) : MDr u n mm mx A wh := by
  unfold MDr; rw [e46, e47, e48, e49, a259, l260, l290]; exact h
theorem MDr.z {S : sS} {n mm mx : Int} {A : Int → Int → Int} {wh : Int → Int} {k : Int} (h : MDr S n mm mx A wh) (hk : 1 ≤ k ∧ k ≤ mm) (hn : 0 ≤ n) : S.2.2.1 290 (13 * k) = A k 0 := by
  have e := h.2.2.2.2.2.1 k 0 hk.1 hk.2 (by omega) hn
  rw [show 13 * k + 0 = 13 * k by omega] at e; exact e
