/-! Model: o the object, o + 1 its numbers, o + 2 which are whole -/
def ModelOK (S : sS) (o : Nat) : Prop := (0 ≤ S.1 o 2 ∧ S.1 o 2 ≤ 12) ∧ (0 ≤ S.1 o 3 ∧ S.1 o 3 ≤ 16) ∧ (S.1 o 4 = 0 ∨ S.1 o 4 = 1) ∧ (∀ i : Int, 0 ≤ i → i < 221 → -2147483648 ≤ S.2.1 (o + 1) i ∧ S.2.1 (o + 1) i ≤ 2147483647) ∧ ∀ i : Int, 0 ≤ i → i < 13 → S.2.1 (o + 2) i = 0 ∨ S.2.1 (o + 2) i = 1
def ModelAt (G : sG) (S : sS) (o : Nat) : Prop := tau o = .inl 3 ∧ tau (o + 1) = .inr (.int, 221) ∧ tau (o + 2) = .inr (.boolean, 13) ∧ o + 2 < 294 ∧ S.2.2.2 o 0 = .ref (G.2.2.1 + (o + 1)) ∧ S.2.2.2 o 1 = .ref (G.2.2.1 + (o + 2))
theorem ModelAt.fr {G : sG} {S u : sS} {o : Nat} {P : Nat → Prop} (h : ModelAt G S o) (f : fr S u P) : ModelAt G u o := ⟨h.1, h.2.1, h.2.2.1, h.2.2.2.1, by rw [f.2]; exact h.2.2.2.2⟩
theorem ModelOK.fr {S u : sS} {o : Nat} {P : Nat → Prop} (h : ModelOK S o) (f : fr S u P) (h1 : ¬ P o) (h2 : ¬ P (o + 1)) (h3 : ¬ P (o + 2)) : ModelOK u o := by
  have a := f.1 o h1
  have b := f.1 (o + 1) h2
  have c := f.1 (o + 2) h3
  exact ⟨by rw [a.1]; exact h.1, by rw [a.1]; exact h.2.1, by rw [a.1]; exact h.2.2.1, fun i h0 h1 => by rw [b.2.1]; exact h.2.2.2.1 i h0 h1, fun i h0 h1 => by rw [c.2.1]; exact h.2.2.2.2 i h0 h1⟩
/-- a row's elements stay in their range when one is put -/
theorem row_put {S : sS} {k : Nat} {n lo hi i x : Int} (h : ∀ j : Int, 0 ≤ j → j < n → lo ≤ S.2.1 k j ∧ S.2.1 k j ≤ hi) (h1 : lo ≤ x) (h2 : x ≤ hi) : ∀ j : Int, 0 ≤ j → j < n → lo ≤ (uA S k i x).2.1 k j ∧ (uA S k i x).2.1 k j ≤ hi := fun j hj hj2 => by
  rw [uA_get]
  split
  · exact ⟨h1, h2⟩
  · exact h j hj hj2
theorem row_put2 {S : sS} {k : Nat} {n i x : Int} (h : ∀ j : Int, 0 ≤ j → j < n → S.2.1 k j = 0 ∨ S.2.1 k j = 1) (h1 : x = 0 ∨ x = 1) : ∀ j : Int, 0 ≤ j → j < n → (uA S k i x).2.1 k j = 0 ∨ (uA S k i x).2.1 k j = 1 := fun j hj hj2 => by
  rw [uA_get]
  split
  · exact h1
  · exact h j hj hj2
/-- other places -/
theorem row_ne {S : sS} {k k2 : Nat} {i x j : Int} (h : k2 ≠ k) : (uA S k i x).2.1 k2 j = S.2.1 k2 j := uA_ne (fun q => h q.1)