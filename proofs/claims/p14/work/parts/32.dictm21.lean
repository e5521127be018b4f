theorem tdivB {a b : Int} (h : 1 ≤ b) : (0 ≤ a → 0 ≤ a.tdiv b ∧ a.tdiv b ≤ a) ∧ (a ≤ 0 → a ≤ a.tdiv b ∧ a.tdiv b ≤ 0) := by
  have k : ∀ x : Int, 0 ≤ x → 0 ≤ x.tdiv b ∧ x.tdiv b ≤ x := fun x hx => by
    rw [Int.tdiv_eq_ediv_of_nonneg hx]
    exact ⟨Int.ediv_nonneg hx (by omega), Int.ediv_le_self _ hx⟩
  refine ⟨k a, fun q => ?_⟩
  have := k (-a) (by omega)
  rw [Int.neg_tdiv] at this
  omega
theorem mulT {t z M : Int} (h : -1 ≤ t ∧ t ≤ 1) (hz : -M ≤ z ∧ z ≤ M) : -M ≤ t * z ∧ t * z ≤ M := by
  have : t = -1 ∨ t = 0 ∨ t = 1 := by omega
  rcases this with rfl | rfl | rfl <;> omega
theorem mulB {a b A B : Int} (h1 : -A ≤ a ∧ a ≤ A) (h2 : -B ≤ b ∧ b ≤ B) : -(A * B) ≤ a * b ∧ a * b ≤ A * B := by
  have n1 : (a.natAbs : Int) ≤ A := by omega
  have n2 : (b.natAbs : Int) ≤ B := by omega
  have e : ((a * b).natAbs : Int) = (a.natAbs : Int) * (b.natAbs : Int) := by rw [Int.natAbs_mul]; exact Int.natCast_mul _ _
  have : (a.natAbs : Int) * (b.natAbs : Int) ≤ A * B := Int.mul_le_mul n1 n2 (by omega) (by omega)
  omega
section KP
variable {G : sG} {S : sS} {x y : Nat} {b : Int}
theorem cX.kA {i v : Int} (h : cX G S x y b) (hi : S.1 135 19 ≤ i) (hv : -2147483648 ≤ v ∧ v ≤ 2147483647) : cX G (uA S 140 i v) x y b := by
  refine ⟨⟨h.fi, h.ai.put hv, h.li⟩, h.2.1, ?_, ?_, h.ub, ?_⟩
  · intro o ho hx
    rw [uA_ne (fun q => by have := (big_row ho).2.1; rw [q.1] at this; revert this; decide)]
    exact h.nb o ho hx
  · intro k2 a m0 m1 m2 m3
    refine (h.ns k2 a m0 m1 m2 m3).cg (slotL7 _) (fun j j0 j1 => uA_ne (fun q => ?_))
    rw [q.1] at m2
    have : slotN 140 = 0 := rfl
    omega
  · obtain ⟨⟨n, hn⟩, hd⟩ := h.ko
    exact ⟨⟨n, hn.put (fun j j0 j1 => uA_ne (fun q => by have e : (uA S 140 i v).1 135 19 = S.1 135 19 := rfl; omega))⟩, by rw [uA_ne (fun q => absurd q.1 (by decide))]; exact hd.1, by rw [uA_ne (fun q => absurd q.1 (by decide))]; exact hd.2⟩
theorem cX.kC {k0 : Nat} {sp dp n : Int} (h : cX G S x y b) (hi : S.1 135 19 ≤ dp) (hr : ∀ j, -2147483648 ≤ S.2.1 k0 j ∧ S.2.1 k0 j ≤ 2147483647) : cX G (uC S k0 sp 140 dp n) x y b := by
  refine ⟨⟨h.fi, fun k j hk => ?_, h.li⟩, h.2.1, ?_, ?_, h.ub, ?_⟩
  · rw [uC_get]
    split
    · rename_i q
      rw [q.1]; exact hr _
    · exact h.ai k j hk
  · intro o ho hx
    rw [uC_get, if_neg (fun q => by have := (big_row ho).2.1; rw [q.1] at this; revert this; decide)]
    exact h.nb o ho hx
  · intro k2 a m0 m1 m2 m3
    refine (h.ns k2 a m0 m1 m2 m3).cg (slotL7 _) (fun j j0 j1 => if_neg (fun q => ?_))
    rw [q.1] at m2
    have : slotN 140 = 0 := rfl
    omega
  · obtain ⟨⟨n2, hn⟩, hd⟩ := h.ko
    exact ⟨⟨n2, hn.put (fun j j0 j1 => if_neg (fun q => by have e : (uC S k0 sp 140 dp n).1 135 19 = S.1 135 19 := rfl; omega))⟩, by rw [uC_get, if_neg (fun q => absurd q.1 (by decide))]; exact hd.1, by rw [uC_get, if_neg (fun q => absurd q.1 (by decide))]; exact hd.2⟩
/-- a new end of what is kept -/
theorem cX.kend {v : Int} (h : cX G S x y b) (hv : 0 ≤ v ∧ v ≤ 102220) (hk : ∃ n, KOn n (S.2.1 140) v) : cX G (uF S 135 19 v) x y b := by
  refine ⟨⟨h.fi.put (ci := 2) rfl hv, h.ai, h.li⟩, h.2.1, ?_, h.ns, ?_, ?_⟩
  · intro o ho hx
    rw [uF_ne (fun q => by rw [q.1] at ho; cases ho)]; exact h.nb o ho hx
  · intro q
    rw [uF_ne (by decide)] at q
    rw [uF_ne (by decide)]; exact h.ub q
  · obtain ⟨n, hn⟩ := hk
    exact ⟨⟨n, by rw [uF_on]; exact hn⟩, h.ko.2⟩
/-- what was kept comes back to the cells -/
theorem cX.rest {oc : Nat} {sp n : Int} (h : cX G S x 0 b) (m : dc oc) (hn : n % 112 = 0) (h0 : 0 ≤ S.2.1 140 sp) (hr : ∀ j, 0 ≤ j → j < n → -2147483648 ≤ S.2.1 140 (sp + j) ∧ S.2.1 140 (sp + j) ≤ 2147483647) (hs : ∀ a, a % 8 = 0 → 0 ≤ a → a + 7 < n → SlotOK (fun i => S.2.1 140 (sp + i)) a 6 999999999) : cX G (uC S 140 sp oc 0 n) x 0 b := by
  have ha := dic_a m
  refine ⟨⟨h.fi, fun k j hk => ?_, h.li⟩, h.2.1, ?_, ?_, h.ub, ?_⟩
  · rw [uC_get]
    split
    · rename_i q
      rw [q.1, dic_c m]
      have := hr (j - 0) (by omega) (by omega)
      exact this
    · exact h.ai k j hk
  · intro o ho hx
    rw [uC_get, if_neg (fun q => by have := (big_row ho).2.1; rw [q.1, dic_c m] at this; cases this)]
    exact h.nb o ho hx
  · intro k2 a m0 m1 m2 m3
    by_cases e : k2 = oc ∧ a < n
    · obtain ⟨e1, e2⟩ := e
      subst e1
      have s := hs a m0 m1 (by omega)
      have s2 : SlotOK ((uC S 140 sp k2 0 n).2.1 k2) a 6 999999999 := s.cg (by decide) (fun i i0 i1 => by rw [uC_get, if_pos ⟨rfl, by omega, by omega⟩, show sp + (i - 0) = sp + i by omega])
      exact dicI m s2
    · refine (h.ns k2 a m0 m1 m2 m3).cg (slotL7 _) (fun j j0 j1 => if_neg (fun q => ?_))
      exact e ⟨q.1, by omega⟩
  · obtain ⟨⟨n2, hn2⟩, hd⟩ := h.ko
    refine ⟨⟨n2, hn2.put (fun j j0 j1 => if_neg (fun q => by have := q.1; rcases m with e | e <;> omega))⟩, ?_, ?_⟩
    · rw [uC_get]; split
      · rw [show sp + ((0 : Int) - 0) = sp by omega]; exact h0
      · exact hd.1
    · rw [uC_get]; split
      · rw [show sp + ((0 : Int) - 0) = sp by omega]; exact h0
      · exact hd.2
/-- to a row of plain ints -/
theorem cX.plC {k0 k1 : Nat} {sp dp n : Int} (h : cX G S x y b) (hc : acode k1 = 0) (hr : ∀ j, dp ≤ j → j < dp + n → -2147483648 ≤ S.2.1 k0 (sp + (j - dp)) ∧ S.2.1 k0 (sp + (j - dp)) ≤ 2147483647) : cX G (uC S k0 sp k1 dp n) x y b := by
  refine ⟨⟨h.fi, fun k j hk => ?_, h.li⟩, h.2.1, ?_, ?_, h.ub, ?_⟩
  · rw [uC_get]
    split
    · rename_i q
      rw [q.1, hc]; exact hr j q.2.1 q.2.2
    · exact h.ai k j hk
  · intro o ho hx
    rw [uC_get, if_neg (fun q => by have := (big_row ho).2.1; rw [q.1, hc] at this; cases this)]
    exact h.nb o ho hx
  · intro k2 a m0 m1 m2 m3
    refine (h.ns k2 a m0 m1 m2 m3).cg (slotL7 _) (fun j j0 j1 => if_neg (fun q => ?_))
    rw [q.1, slotN0 (by rw [hc]; decide)] at m2
    omega
  · obtain ⟨⟨n2, hn⟩, hd⟩ := h.ko
    exact ⟨⟨n2, hn.put (fun j j0 j1 => if_neg (fun q => by rw [← q.1] at hc; revert hc; decide))⟩, by rw [uC_get, if_neg (fun q => by rw [← q.1] at hc; revert hc; decide)]; exact hd.1, by rw [uC_get, if_neg (fun q => by rw [← q.1] at hc; revert hc; decide)]; exact hd.2⟩
end KP
/-- a kept dictionary more -/
theorem KOn.more {n : Nat} {f g : Int → Int} {e r p q : Int} (h : KOn n f e) (he : 0 ≤ e) (hr : 0 ≤ r ∧ r ≤ 40) (hp : 0 ≤ p ∧ p ≤ 13) (hq : -1 ≤ q ∧ q ≤ 40) (hlow : ∀ i, 0 ≤ i → i < e → g i = f i) (hrng : ∀ i, -2147483648 ≤ g i ∧ g i ≤ 2147483647) (h3 : g (e + (r + 3) * 112 + r + p) = q) (h2 : g (e + (r + 3) * 112 + r + p + 1) = r) (h1 : g (e + (r + 3) * 112 + r + p + 2) = p) (h0 : 0 ≤ g e) (hs : ∀ a, a % 8 = 0 → 0 ≤ a → a + 7 < (r + 3) * 112 → SlotOK (fun i => g (e + i)) a 6 999999999) : KOn (n + 1) g (e + (r + 3) * 112 + r + p + 3) := by
  have a3 : g (e + (r + 3) * 112 + r + p + 3 - 3) = q := by rw [← h3]; congr 1; omega
  have a2 : g (e + (r + 3) * 112 + r + p + 3 - 2) = r := by rw [← h2]; congr 1; omega
  have a1 : g (e + (r + 3) * 112 + r + p + 3 - 1) = p := by rw [← h1]; congr 1; omega
  refine Or.inr ⟨by omega, by rw [a2]; exact hr, by rw [a1]; exact hp, by rw [a3]; exact hq, by rw [a1, a2]; omega, ?_, fun i _ _ => hrng i, ?_, ?_⟩
  · rw [a1, a2, show e + (r + 3) * 112 + r + p + 3 - 3 - p - r - (r + 3) * 112 = e by omega]; exact h0
  · rw [a1, a2, show e + (r + 3) * 112 + r + p + 3 - 3 - p - r - (r + 3) * 112 = e by omega]; exact hs
  · rw [a1, a2, show e + (r + 3) * 112 + r + p + 3 - 3 - p - r - (r + 3) * 112 = e by omega]; exact h.put hlow