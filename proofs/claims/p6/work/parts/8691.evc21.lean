/-! The class's table of names, as the meaning has it -/
def NRc (N : sN) (S : sS) : Prop := (N.1 = S.1 11 9 ∧ 0 ≤ N.1 ∧ N.1 ≤ 128) ∧ (∀ s, 0 ≤ s → s < N.1 → N.2.1 s = S.2.2.1 16 s) ∧ (∀ s, 0 ≤ s → s < N.1 → N.2.2.1 s 0 = fc S s 0 ∧ (N.2.2.1 s 0 = 6 → N.2.2.1 s 1 = fc S s 1 ∧ N.2.2.1 s 2 = fc S s 2) ∧ (N.2.2.1 s 0 = 2 → N.2.2.1 s 1 = fc S s 1) ∧ (N.2.2.1 s 0 = 7 ∨ N.2.2.1 s 0 = 8 → N.2.2.1 s 3 = fc S s 3 ∧ N.2.2.1 s 4 = fc S s 4) ∧ (N.2.2.1 s 0 = 7 ∨ N.2.2.1 s 0 = 8 → N.2.2.1 s 5 = fc S s 5) ∧ (N.2.2.1 s 0 = 7 → ∀ o, 0 ≤ o → o < siz N (N.2.2.1 s 3) * siz N (N.2.2.1 s 4) → 0 ≤ fc S s 5 + o ∧ fc S s 5 + o < 1728 ∧ N.2.2.2 s o = S.2.1 18 (fc S s 5 + o)))
/-- what holds of the names that were told: no name twice, sets, indexes, numbers within bounds -/
def NK (N : sN) : Prop := NDi N ∧ ∀ s, 0 ≤ s → s < N.1 → (N.2.2.1 s 0 = 2 → 0 ≤ N.2.2.1 s 1 ∧ N.2.2.1 s 1 ≤ 99999) ∧ (N.2.2.1 s 0 = 6 → 0 ≤ N.2.2.1 s 1 ∧ N.2.2.1 s 1 ≤ N.2.2.1 s 2 ∧ N.2.2.1 s 2 ≤ 99999 ∧ N.2.2.1 s 2 - N.2.2.1 s 1 ≤ 11) ∧ (N.2.2.1 s 0 = 7 ∨ N.2.2.1 s 0 = 8 → ∀ q, q = 3 ∨ q = 4 → N.2.2.1 s q = -1 ∨ (0 ≤ N.2.2.1 s q ∧ N.2.2.1 s q < N.1 ∧ N.2.2.1 (N.2.2.1 s q) 0 = 6)) ∧ (N.2.2.1 s 0 = 7 ∨ N.2.2.1 s 0 = 8 → N.2.2.1 s 3 < 0 → N.2.2.1 s 4 < 0) ∧ (N.2.2.1 s 0 = 7 → ∀ o, 0 ≤ o → o < siz N (N.2.2.1 s 3) * siz N (N.2.2.1 s 4) → -99999 ≤ N.2.2.2 s o ∧ N.2.2.2 s o ≤ 99999) ∧ (N.2.2.1 s 0 = 8 → 1 ≤ N.2.2.1 s 5 ∧ N.2.2.1 s 5 + siz N (N.2.2.1 s 3) * siz N (N.2.2.1 s 4) ≤ 13)
def TVn (k v : Int → Int) : Prop := ∀ p, k p = 3 → 0 ≤ v p ∧ v p ≤ 99999
theorem efn_cong {nm nm' : Int → Int} {x : Int} : ∀ m : Nat, (∀ s : Int, 0 ≤ s → s < m → nm s = nm' s) → efn nm x m = efn nm' x m := by
  intro m
  induction m with
  | zero => intro _; rfl
  | succ m ih =>
    intro h
    show (if 0 ≤ efn nm x m then efn nm x m else if nm m = x then (m : Int) else -1) = (if 0 ≤ efn nm' x m then efn nm' x m else if nm' m = x then (m : Int) else -1)
    rw [ih (fun s a b => h s a (by omega)), h m (by omega) (by omega)]
theorem NRc.find {N : sN} {S : sS} (h : NRc N S) (x : Int) : eFind N x = efn (S.2.2.1 16) x (S.1 11 9).toNat := by
  unfold eFind; rw [efn_cong (nm' := S.2.2.1 16) N.1.toNat (fun s a b => h.2.1 s a (by have := h.1; omega)), h.1.1]
theorem ogX_i {k : Int → Int} {p q : Int} (h : ogX k p = some q) : (k p = 3 ∧ q = p + 1) ∨ (k p = 2 ∧ ((k (p + 1) = 21 ∨ k (p + 1) = 22) ∧ k (p + 1 + 1) = 3 ∧ q = p + 1 + 1 + 1 ∨ (¬ (k (p + 1) = 21 ∨ k (p + 1) = 22)) ∧ q = p + 1)) := by
  unfold ogX at h
  by_cases c : k p = 3
  · rw [if_pos c] at h; cases h; exact .inl ⟨c, rfl⟩
  · rw [if_neg c] at h
    obtain ⟨a, h1, h⟩ := ogB h
    obtain ⟨e1, e2⟩ := ogT_lt h1
    rw [e1] at h
    right; refine ⟨e2, ?_⟩
    by_cases d : k (p + 1) = 21 ∨ k (p + 1) = 22
    · rw [if_pos d] at h; obtain ⟨e3, e4⟩ := ogT_lt h; exact .inl ⟨d, e4, e3⟩
    · rw [if_neg d] at h; cases h; exact .inr ⟨d, rfl⟩
theorem NRc.of {N : sN} {S u : sS} (h : NRc N S) (e9 : u.1 11 9 = S.1 11 9) (e16 : ∀ j, u.2.2.1 16 j = S.2.2.1 16 j) (e17 : ∀ j, u.2.1 17 j = S.2.1 17 j) (e18 : ∀ j, u.2.1 18 j = S.2.1 18 j) : NRc N u := by
  have ef : ∀ s q, fc u s q = fc S s q := fun s q => e17 _
  unfold NRc
  simp only [ef, e9, e16, e18]
  exact h
theorem NRc.fr {N : sN} {S u : sS} {P : pS} (h : NRc N S) (f : Fr S u P) (h1 : P 11 = false) (h2 : P 16 = false) (h3 : P 17 = false) (h4 : P 18 = false) : NRc N u := h.of ((f 11 h1).1 9) (fun j => (f 16 h2).2.2.1 j) (fun j => (f 17 h3).2.1 j) (fun j => (f 18 h4).2.1 j)
theorem off_lt {x y m n : Int} (hx : 0 ≤ x ∧ x < m) (hy : 0 ≤ y ∧ y < n) : 0 ≤ x * n + y ∧ x * n + y < m * n := by
  have a := Int.mul_nonneg hx.1 (show 0 ≤ n by omega)
  have b := Int.mul_le_mul_of_nonneg_right (show x + 1 ≤ m by omega) (show 0 ≤ n by omega)
  rw [Int.add_mul] at b
  omega
/-- where a par's value or a variable goes -/
theorem eV_p {N : sN} {s o c : Int} {f g : Int → Int} (h7 : N.2.2.1 s 0 = 7) (hc : N.2.2.2 s o = c) (h0 : veq f (cst 0)) (e : ∀ j, 0 ≤ j → j < 13 → g j = if j = 0 then c else f j) : veq g (eV N s o) := fun j j0 j1 => by
  unfold eV; rw [if_pos h7, hc, e j j0 j1]
  by_cases q : j = 0
  · rw [if_pos q]; exact (if_pos q).symm
  · rw [if_neg q, h0 j j0 j1]; unfold cst; rw [if_neg q, if_neg q]
theorem eV_v {N : sN} {s o i : Int} {f g : Int → Int} (h7 : N.2.2.1 s 0 ≠ 7) (hi : N.2.2.1 s 5 + o = i) (h0 : veq f (cst 0)) (e : ∀ j, 0 ≤ j → j < 13 → g j = if j = i then 1 else f j) : veq g (eV N s o) := fun j j0 j1 => by
  unfold eV; rw [if_neg h7, hi, e j j0 j1]
  by_cases q : j = i
  · rw [if_pos q]; exact (if_pos q).symm
  · rw [if_neg q, h0 j j0 j1]; unfold cst unt; rw [if_neg q]; split <;> rfl
theorem r2_83e {G : sG} {S : sS} {x y : Nat} {b i : Int} (h : cX G S x y b) (h0 : 0 ≤ i) (h1 : i < 31) : ∃ q, lr q ∧ S.2.2.2 83 i.toNat = .ref (G.2.2.1 + q) ∧ q = 84 + i.toNat := ⟨84 + i.toNat, ⟨(lr20 _ (by omega)).2.2, by omega, by omega⟩, (h.r2 _ (by omega)).2.2, rfl⟩
theorem r2_51e {G : sG} {S : sS} {x y : Nat} {b i : Int} (h : cX G S x y b) (h0 : 0 ≤ i) (h1 : i < 31) : ∃ q, lr q ∧ S.2.2.2 51 i.toNat = .ref (G.2.2.1 + q) ∧ q = 52 + i.toNat := ⟨52 + i.toNat, ⟨(lr20 _ (by omega)).2.1, by omega, by omega⟩, (h.r2 _ (by omega)).2.1, rfl⟩
theorem r2_19e {G : sG} {S : sS} {x y : Nat} {b i : Int} (h : cX G S x y b) (h0 : 0 ≤ i) (h1 : i < 31) : ∃ q, lr q ∧ S.2.2.2 19 i.toNat = .ref (G.2.2.1 + q) ∧ q = 20 + i.toNat := ⟨20 + i.toNat, ⟨(lr20 _ (by omega)).1, by omega, by omega⟩, (h.r2 _ (by omega)).1, rfl⟩
/-- the teller's references stand -/
def RK (S u : sS) : Prop := ∀ i, u.2.2.2 11 i = S.2.2.2 11 i
/-- the name that is learnt -/
def LE (S u : sS) (x so : Int) : Prop := u.1 11 9 = S.1 11 9 + 1 ∧ (∀ j, u.2.2.1 16 j = if j = S.1 11 9 then x else S.2.2.1 16 j) ∧ (∀ j, u.2.1 18 j = S.2.1 18 j) ∧ (∀ s q, 0 ≤ q → q ≤ 5 → fc u s q = if s = S.1 11 9 ∧ (q = 0 ∨ q = 3 ∨ q = 4) then (if q = 0 then so else -1) else fc S s q)
