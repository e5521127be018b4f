theorem NO.same {f g : Int → Int} {p L : Int} (h : NO f p L) (e : ∀ x, p ≤ x → x ≤ p + L → g x = f x) : NO g p L ∧ nv g p = nv f p := by
  have a := al_0 f p
  have c := h.cg (g := g) (q := p) (e p (by omega) (by have := h.1; omega)) (fun i i0 i1 => e _ (by omega) (by have := h.1; omega))
  exact ⟨c.1, c.2.1⟩
def TV (S : sS) (i j : Int) : Int := nv (S.2.1 262) (cl i j)
/-- what a pivot leaves at a cell -/
def PC (S : sS) (r s tn i j v : Int) : Prop := (i = r + 1 ∧ j = s → v = asn tn (nv (S.2.1 264) 0)) ∧ (i = r + 1 ∧ j ≠ s → v = asn tn (TV S i j)) ∧ (i ≠ r + 1 ∧ j = s → v = -asn tn (TV S i j)) ∧ (i ≠ r + 1 ∧ j ≠ s → ∃ Q R, v = asn tn Q ∧ TV S i j * TV S (r + 1) s - TV S i s * TV S (r + 1) j = nv (S.2.1 264) 0 * Q + R ∧ 0 ≤ R ∧ R < nv (S.2.1 264) 0)
theorem PC.a {S : sS} {r s tn i j v : Int} (hi : i = r + 1) (hj : j = s) (h : v = asn tn (nv (S.2.1 264) 0)) : PC S r s tn i j v := ⟨fun _ => h, fun q => absurd hj q.2, fun q => absurd hi q.1, fun q => absurd hi q.1⟩
theorem PC.b {S : sS} {r s tn i j v : Int} (hi : i = r + 1) (hj : j ≠ s) (h : v = asn tn (TV S i j)) : PC S r s tn i j v := ⟨fun q => absurd q.2 hj, fun _ => h, fun q => absurd hi q.1, fun q => absurd hi q.1⟩
theorem PC.c {S : sS} {r s tn i j v : Int} (hi : i ≠ r + 1) (hj : j = s) (h : v = -asn tn (TV S i j)) : PC S r s tn i j v := ⟨fun q => absurd q.1 hi, fun q => absurd q.1 hi, fun _ => h, fun q => absurd hj q.2⟩
theorem PC.d {S : sS} {r s tn i j v : Int} (hi : i ≠ r + 1) (hj : j ≠ s) (h : ∃ Q R, v = asn tn Q ∧ TV S i j * TV S (r + 1) s - TV S i s * TV S (r + 1) j = nv (S.2.1 264) 0 * Q + R ∧ 0 ≤ R ∧ R < nv (S.2.1 264) 0) : PC S r s tn i j v := ⟨fun q => absurd q.1 hi, fun q => absurd q.1 hi, fun q => absurd q.2 hj, fun _ => h⟩
/-- the cells ahead of (i, j) -/
def FO (S : sS) (f : Int → Int) (r s tn i j : Int) : Prop := ∀ a b, 0 ≤ a → (a < i ∨ a = i ∧ b < j) → a ≤ S.1 231 58 + 1 → (a = 1 → S.1 231 60 = 1) → 0 ≤ b → b ≤ S.1 231 59 → NO f (cl a b) 6 ∧ PC S r s tn a b (nv f (cl a b))
theorem cl_far {a b i j x : Int} (hb : 0 ≤ b ∧ b ≤ 14) (hj : 0 ≤ j ∧ j ≤ 14) (h : a < i ∨ i < a ∨ b < j ∨ j < b) (hx : cl a b ≤ x ∧ x ≤ cl a b + 6) : x < cl i j ∨ cl i j + 6 < x := by unfold cl at *; omega
theorem FO.step {S : sS} {f g : Int → Int} {r s tn i j : Int} (h : FO S f r s tn i j) (hp : S.1 231 59 ≤ 13) (hj : 0 ≤ j ∧ j ≤ 14) (ho : ∀ x, x < cl i j ∨ cl i j + 6 < x → g x = f x) (hn : NO g (cl i j) 6) (hc : PC S r s tn i j (nv g (cl i j))) : FO S g r s tn i (j + 1) := fun a b a0 ab a1 a2 b0 b1 => by
  by_cases e : a = i ∧ b = j
  · rw [e.1, e.2]; exact ⟨hn, hc⟩
  · have k := h a b a0 (by omega) a1 a2 b0 b1
    have m := k.1.same (g := g) (fun x x0 x1 => ho x (cl_far ⟨b0, by omega⟩ hj (by omega) ⟨x0, x1⟩))
    rw [m.2]; exact ⟨m.1, k.2⟩
theorem FO.row {S : sS} {f : Int → Int} {r s tn i : Int} (h : FO S f r s tn i (S.1 231 59 + 1)) : FO S f r s tn (i + 1) 0 := fun a b a0 ab a1 a2 b0 b1 => h a b a0 (by omega) a1 a2 b0 b1
theorem FO.skip {S : sS} {f : Int → Int} {r s tn : Int} (h : FO S f r s tn 1 0) (hw : S.1 231 60 = 0) : FO S f r s tn 2 0 := fun a b a0 ab a1 a2 b0 b1 => h a b a0 (by by_cases e : a = 1; have := a2 e; omega; omega) a1 a2 b0 b1
/-- cells that were brought back -/
def BK (S : sS) (f g : Int → Int) (i j : Int) : Prop := ∀ a b, 0 ≤ a → (a < i ∨ a = i ∧ b < j) → a ≤ S.1 231 58 + 1 → (a = 1 → S.1 231 60 = 1) → 0 ≤ b → b ≤ S.1 231 59 → NO g (cl a b) 6 ∧ nv g (cl a b) = nv f (cl a b)
theorem BK.step {S : sS} {f g g' : Int → Int} {i j : Int} (h : BK S f g i j) (hp : S.1 231 59 ≤ 13) (hj : 0 ≤ j ∧ j ≤ 14) (ho : ∀ x, x < cl i j ∨ cl i j + 6 < x → g' x = g x) (hn : NO g' (cl i j) 6) (hc : nv g' (cl i j) = nv f (cl i j)) : BK S f g' i (j + 1) := fun a b a0 ab a1 a2 b0 b1 => by
  by_cases e : a = i ∧ b = j
  · rw [e.1, e.2]; exact ⟨hn, hc⟩
  · have k := h a b a0 (by omega) a1 a2 b0 b1
    have m := k.1.same (g := g') (fun x x0 x1 => ho x (cl_far ⟨b0, by omega⟩ hj (by omega) ⟨x0, x1⟩))
    exact ⟨m.1, m.2.trans k.2⟩
theorem BK.row {S : sS} {f g : Int → Int} {i : Int} (h : BK S f g i (S.1 231 59 + 1)) : BK S f g (i + 1) 0 := fun a b a0 ab a1 a2 b0 b1 => h a b a0 (by omega) a1 a2 b0 b1
theorem BK.skip {S : sS} {f g : Int → Int} (h : BK S f g 1 0) (hw : S.1 231 60 = 0) : BK S f g 2 0 := fun a b a0 ab a1 a2 b0 b1 => h a b a0 (by by_cases e : a = 1; have := a2 e; omega; omega) a1 a2 b0 b1
/-- a pivot -/
def PV (S u : sS) (r s tn : Int) : Prop := (nv (u.2.1 264) 0 = asn tn (TV S (r + 1) s)) ∧ (∀ a b, 0 ≤ a → a ≤ S.1 231 58 + 1 → (a = 1 → S.1 231 60 = 1) → 0 ≤ b → b ≤ S.1 231 59 → PC S r s tn a b (TV u a b)) ∧ (∀ x, u.2.1 265 x = if x = r then S.2.1 266 s else S.2.1 265 x) ∧ ∀ x, u.2.1 266 x = if x = s then S.2.1 265 r else S.2.1 266 x
theorem DOK.pv {S u : sS} {fr : Int → Int} (h : DOK S) (e8 : u.1 231 58 = S.1 231 58) (e9 : u.1 231 59 = S.1 231 59) (e0 : u.1 231 60 = S.1 231 60) (hb : BK S fr (u.2.1 262) (S.1 231 58 + 2) 0) (hn : NO (u.2.1 264) 0 6) (hp : 0 < nv (u.2.1 264) 0) : DOK u := ⟨by rw [e8, e9]; exact h.1, by rw [e8, e9, e0]; exact fun i j i0 i1 i2 j0 j1 => (hb i j i0 (by omega) i1 i2 j0 j1).1, hn, hp⟩
theorem DOK.same {S u : sS} (h : DOK S) (e8 : u.1 231 58 = S.1 231 58) (e9 : u.1 231 59 = S.1 231 59) (e0 : u.1 231 60 = S.1 231 60) (e1 : u.2.1 262 = S.2.1 262) (e2 : u.2.1 264 = S.2.1 264) : DOK u := by unfold DOK; rw [e8, e9, e0, e1, e2]; exact h