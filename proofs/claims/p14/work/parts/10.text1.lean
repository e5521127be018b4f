/-! Text: o the object, o + 1 its bytes -/
def rg (o n k : Nat) : Prop := o ≤ k ∧ k < o + n
def fr (S u : sS) (P : Nat → Prop) : Prop := (∀ k, ¬ P k → same S u k) ∧ u.2.2 = S.2.2
theorem same.trans {S T U : sS} {k : Nat} (h : same S T k) (g : same T U k) : same S U k := ⟨fun i => (g.1 i).trans (h.1 i), fun i => (g.2.1 i).trans (h.2.1 i), fun i => (g.2.2.1 i).trans (h.2.2.1 i), fun i => (g.2.2.2 i).trans (h.2.2.2 i)⟩
theorem fr.rf {S : sS} {P : Nat → Prop} : fr S S P := ⟨fun _ _ => same.rf, rfl⟩
theorem fr.F {S u : sS} {P : Nat → Prop} {k i : Nat} {x : Int} (h : fr S u P) (hk : P k) : fr S (uF u k i x) P := ⟨fun a h1 => (h.1 a h1).trans (uF_same (fun e => h1 (e ▸ hk))), h.2⟩
theorem fr.A {S u : sS} {P : Nat → Prop} {k : Nat} {i x : Int} (h : fr S u P) (hk : P k) : fr S (uA u k i x) P := ⟨fun a h1 => (h.1 a h1).trans (uA_same (fun e => h1 (e ▸ hk))), h.2⟩
theorem fr.trans {S T U : sS} {P : Nat → Prop} (h : fr S T P) (g : fr T U P) : fr S U P := ⟨fun k h1 => (h.1 k h1).trans (g.1 k h1), g.2.trans h.2⟩
theorem fr.mono {S U : sS} {P P' : Nat → Prop} (h : fr S U P) (g : ∀ k, P k → P' k) : fr S U P' := ⟨fun k h1 => h.1 k (fun q => h1 (g k q)), h.2⟩
theorem rg_in {o n i : Nat} (h : i < n) : rg o n (o + i) := ⟨by omega, by omega⟩
theorem rg_0 {o n : Nat} (h : 0 < n) : rg o n o := ⟨by omega, by omega⟩
def TextOK (S : sS) (o N : Nat) : Prop := (0 ≤ S.1 o 1 ∧ S.1 o 1 ≤ N) ∧ (S.1 o 2 = 0 ∨ S.1 o 2 = 1) ∧ ∀ i : Int, 0 ≤ i → i < N → -128 ≤ S.2.1 (o + 1) i ∧ S.2.1 (o + 1) i ≤ 127
def TextAt (G : sG) (S : sS) (o N : Nat) : Prop := tau o = .inl 10 ∧ tau (o + 1) = .inr (.byte, N) ∧ o + 1 < 294 ∧ N ≤ 30000 ∧ S.2.2.2 o 0 = .ref (G.2.2.1 + (o + 1))
theorem TextAt.fr {G : sG} {S u : sS} {o N : Nat} {P : Nat → Prop} (h : TextAt G S o N) (f : fr S u P) : TextAt G u o N := ⟨h.1, h.2.1, h.2.2.1, h.2.2.2.1, by rw [f.2]; exact h.2.2.2.2⟩
theorem TextOK.fr {S u : sS} {o N : Nat} {P : Nat → Prop} (h : TextOK S o N) (f : fr S u P) (h1 : ¬ P o) (h2 : ¬ P (o + 1)) : TextOK u o N := by
  have a := f.1 o h1
  have b := f.1 (o + 1) h2
  exact ⟨by rw [a.1]; exact h.1, by rw [a.1]; exact h.2.1, fun i h0 h1 => by rw [b.2.1]; exact h.2.2 i h0 h1⟩
theorem byte_put {S : sS} {o : Nat} {N : Nat} {i x : Int} (h : ∀ j : Int, 0 ≤ j → j < N → -128 ≤ S.2.1 (o + 1) j ∧ S.2.1 (o + 1) j ≤ 127) (h1 : -128 ≤ x) (h2 : x ≤ 127) : ∀ j : Int, 0 ≤ j → j < N → -128 ≤ (uA S (o + 1) i x).2.1 (o + 1) j ∧ (uA S (o + 1) i x).2.1 (o + 1) j ≤ 127 := fun j hj hj2 => by
  rw [uA_get]
  split
  · exact ⟨h1, h2⟩
  · exact h j hj hj2