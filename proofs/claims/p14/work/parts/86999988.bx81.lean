def pRw (k : Nat) : Bool := rgB 193 207 k
def pFk (k : Nat) : Bool := rgB 196 201 k || rgB 215 224 k
def pPT (k : Nat) : Bool := Nat.beq k 189 || rgB 193 207 k || rgB 213 224 k
def pBr (k : Nat) : Bool := rgB 188 189 k || rgB 193 207 k || rgB 219 220 k || rgB 225 227 k
def pHT (k : Nat) : Bool := rgB 188 189 k || rgB 193 207 k || rgB 213 227 k
theorem rgW_193 : ∀ k, 193 + 3 ≤ k → k ≤ 193 + 8 → pRw k = true := fun k h1 h2 => rgB_i (by omega)
theorem rgF_193 : ∀ k, 193 + 3 ≤ k → k ≤ 193 + 8 → pFk k = true := fun k h1 h2 => by unfold pFk; rw [rgB_i (a := 196) (b := 201) (k := k) (by omega), Bool.true_or]
theorem pRw_PT : ∀ k, pRw k = true → pPT k = true := fun k h => by unfold pPT; rw [show rgB 193 207 k = true from h, Bool.or_true, Bool.true_or]
theorem pRw_Br : ∀ k, pRw k = true → pBr k = true := fun k h => by unfold pBr; rw [show rgB 193 207 k = true from h, Bool.or_true, Bool.true_or, Bool.true_or]
theorem pFk_PT : ∀ k, pFk k = true → pPT k = true := fun k h => by
  unfold pFk at h; rw [Bool.or_eq_true] at h; unfold pPT
  rcases h with h | h
  · have := rgB_t h; rw [rgB_i (a := 193) (b := 207) (k := k) (by omega), Bool.or_true, Bool.true_or]
  · have := rgB_t h; rw [rgB_i (a := 213) (b := 224) (k := k) (by omega), Bool.or_true]
theorem pTq_PT : ∀ k, pTq k = true → pPT k = true := fun k h => by
  simp only [pTq, Bool.or_eq_true] at h
  unfold pPT
  rcases h with (h | h) | h
  · rw [h, Bool.true_or, Bool.true_or]
  · have := Nat.eq_of_beq_eq_true h; rw [rgB_i (a := 193) (b := 207) (k := k) (by omega), Bool.or_true, Bool.true_or]
  · have := rgB_t h; rw [rgB_i (a := 213) (b := 224) (k := k) (by omega), Bool.or_true]
theorem pPT_HT : ∀ k, pPT k = true → pHT k = true := fun k h => by
  simp only [pPT, Bool.or_eq_true] at h
  unfold pHT
  rcases h with (h | h) | h
  · have := Nat.eq_of_beq_eq_true h; rw [rgB_i (a := 188) (b := 189) (k := k) (by omega), Bool.true_or, Bool.true_or]
  · rw [h, Bool.or_true, Bool.true_or]
  · have := rgB_t h; rw [rgB_i (a := 213) (b := 227) (k := k) (by omega), Bool.or_true]
theorem pBr_HT : ∀ k, pBr k = true → pHT k = true := fun k h => by
  simp only [pBr, Bool.or_eq_true] at h
  unfold pHT
  rcases h with ((h | h) | h) | h
  · rw [h, Bool.true_or, Bool.true_or]
  · rw [h, Bool.or_true, Bool.true_or]
  · have := rgB_t h; rw [rgB_i (a := 213) (b := 227) (k := k) (by omega), Bool.or_true]
  · have := rgB_t h; rw [rgB_i (a := 213) (b := 227) (k := k) (by omega), Bool.or_true]
theorem pHT_E : ∀ k, pHT k = true → pE k = true := fun k h => by
  have a : ∀ k, k < 231 → pHT k = true → pE k = true := by decide +kernel
  refine a k ?_ h
  simp only [pHT, Bool.or_eq_true] at h
  rcases h with (h | h) | h <;> (have := rgB_t h; omega)
theorem mo_pRw {o : Nat} (m : mdl o) : pRw o = false ∧ pRw (o + 1) = false ∧ pRw (o + 2) = false := by
  have a : ∀ o, o < 231 → tau o = .inl 3 → pRw o = false ∧ pRw (o + 1) = false ∧ pRw (o + 2) = false := by decide +kernel
  exact a o (mdl_k m) m.1
/-! Rows by their values -/
def smf (ff : Int → Int) (R : Int → Int → Int) (j : Int) : Nat → Int
  | 0 => 0
  | c + 1 => smf ff R j c + ff ((c + 1 : Nat) : Int) * R ((c + 1 : Nat) : Int) j
theorem smf_st {ff : Int → Int} {R : Int → Int → Int} {j k : Int} (h : 1 ≤ k) : smf ff R j (k + 1 - 1).toNat = smf ff R j (k - 1).toNat + ff k * R k j := by
  rw [show (k + 1 - 1).toNat = (k - 1).toNat + 1 by omega]
  show smf ff R j (k - 1).toNat + ff (((k - 1).toNat + 1 : Nat) : Int) * R (((k - 1).toNat + 1 : Nat) : Int) j = _
  rw [show (((k - 1).toNat + 1 : Nat) : Int) = k by omega]
def RWv (S : sS) (n c : Int) (R : Int → Int → Int) : Prop := S.1 193 8 = n ∧ S.1 193 9 = c ∧ ∀ k j, 0 ≤ k → k ≤ c → 0 ≤ j → j ≤ n → nv (S.2.1 194) ((k * 13 + j) * 8) = R k j
def FCv (S : sS) (ff : Int → Int) : Prop := ∀ k, 1 ≤ k → k ≤ 40 → nv (S.2.1 195) (k * 8) = ff k
theorem RWv.of {S u : sS} {n c : Int} {R : Int → Int → Int} (h : RWv S n c R) (e8 : u.1 193 8 = S.1 193 8) (e9 : u.1 193 9 = S.1 193 9) (e : u.2.1 194 = S.2.1 194) : RWv u n c R := by
  unfold RWv; rw [e8, e9, e]; exact h
theorem FCv.of {S u : sS} {ff : Int → Int} (h : FCv S ff) (e : u.2.1 195 = S.2.1 195) : FCv u ff := by unfold FCv; rw [e]; exact h
theorem nvz0 {f : Int → Int} {p : Int} (h : f p = 0) : nv f p = 0 := by unfold nv; rw [sg_e.2.2 h, Int.zero_mul]
/-- a slot that stands -/
theorem nv_8 {f g : Int → Int} {p : Int} (h : -7 ≤ f p ∧ f p ≤ 7) (e : ∀ x, p ≤ x → x < p + 8 → g x = f x) : nv g p = nv f p := by
  have e0 := e p (by omega) (by omega)
  have a := al_e (f := f) (p := p)
  have ea : al g p = al f p := by unfold al; rw [e0]
  unfold nv nu
  rw [ea, show sg g p = sg f p by unfold sg; rw [e0]]
  congr 1
  exact V_cg (fun i i0 i1 => e _ (by omega) (by omega))
theorem slot7 {G : sG} {S : sS} {x : Nat} {b : Int} {k : Nat} {a : Int} (h : cX G S x 0 b) (hk : k = 194 ∨ k = 195 ∨ k = 208 ∨ k = 227) (m0 : a % 8 = 0) (m1 : 0 ≤ a) (m2 : a + 7 < slotN k) : -7 ≤ S.2.1 k a ∧ S.2.1 k a ≤ 7 := by
  have e := (h.sl (k := k) m0 m1 m2).1
  rcases hk with q | q | q | q <;> subst q <;> exact e
/-- row c + 1 is written, the others stand -/
theorem RWv.sv {G : sG} {S u : sS} {n c : Int} {R : Int → Int → Int} {x : Nat} {b a j : Int} (h : RWv S n c R) (hI : cX G S x 0 b) (hn : n ≤ 12) (hc : c ≤ 40) (ha : a = ((c + 1) * 13 + j) * 8) (hj : 0 ≤ j) (e8 : u.1 193 8 = S.1 193 8) (e9 : u.1 193 9 = S.1 193 9) (hf : ∀ y, y < a ∨ a + 8 ≤ y → u.2.1 194 y = S.2.1 194 y) : RWv u n c R := by
  refine ⟨e8.trans h.1, e9.trans h.2.1, fun k i k0 k1 i0 i1 => ?_⟩
  rw [nv_8 (slot7 hI (.inl rfl) (by omega) (by omega) (show _ < (4264 : Int) by omega)) (fun y y0 y1 => hf y (by omega))]
  exact h.2.2 k i k0 k1 i0 i1
def upf (f : Int → Int) (k x : Int) : Int → Int := fun i => if i = k then x else f i
def upR (R : Int → Int → Int) (k : Int) (x : Int → Int) : Int → Int → Int := fun i j => if i = k then x j else R i j
/-- what a limit's row holds -/
def limr (z v ab : Int) : Int → Int := fun j => if j = 0 then (if ab = 1 then -(v + 1) else v) else if j = z then (if ab = 1 then -1 else 1) else 0
theorem FCv.put {G : sG} {S u : sS} {ff : Int → Int} {x : Nat} {b k v : Int} (h : FCv S ff) (hI : cX G S x 0 b) (hk : 1 ≤ k ∧ k ≤ 40) (hv : nv (u.2.1 195) (k * 8) = v) (hf : ∀ y, y < k * 8 ∨ k * 8 + 8 ≤ y → u.2.1 195 y = S.2.1 195 y) : FCv u (upf ff k v) := by
  intro i i0 i1
  unfold upf
  by_cases q : i = k
  · rw [if_pos q, q]; exact hv
  · rw [if_neg q, nv_8 (slot7 hI (.inr (.inl rfl)) (by omega) (by omega) (show _ < (328 : Int) by omega)) (fun y y0 y1 => hf y (by omega))]
    exact h i i0 i1
/-- the new row, whole -/
theorem RWv.up {S u : sS} {n c : Int} {R : Int → Int → Int} {f : Int → Int} (h : RWv S n c R) (e8 : u.1 193 8 = n) (e9 : u.1 193 9 = c + 1) (er : u.2.1 194 = S.2.1 194) (hf : ∀ j, 0 ≤ j → j ≤ n → nv (S.2.1 194) (((c + 1) * 13 + j) * 8) = f j) : RWv u n (c + 1) (upR R (c + 1) f) := by
  refine ⟨e8, e9, fun k j k0 k1 j0 j1 => ?_⟩
  unfold upR
  rw [er]
  by_cases q : k = c + 1
  · rw [if_pos q, q]; exact hf j j0 j1
  · rw [if_neg q]; exact h.2.2 k j k0 (by omega) j0 j1
/-- the rows alone -/
def RRv (S : sS) (n c : Int) (R : Int → Int → Int) : Prop := ∀ k j, 0 ≤ k → k ≤ c → 0 ≤ j → j ≤ n → nv (S.2.1 194) ((k * 13 + j) * 8) = R k j
theorem RRv.of {S u : sS} {n c : Int} {R : Int → Int → Int} (h : RRv S n c R) (e : u.2.1 194 = S.2.1 194) : RRv u n c R := by unfold RRv; rw [e]; exact h
theorem RRv.sv {G : sG} {S u : sS} {n c : Int} {R : Int → Int → Int} {x : Nat} {b a j : Int} (h : RRv S n c R) (hI : cX G S x 0 b) (hn : n ≤ 12) (hc : c ≤ 39) (ha : a = ((c + 1) * 13 + j) * 8) (hj : 0 ≤ j) (hf : ∀ y, y < a ∨ a + 8 ≤ y → u.2.1 194 y = S.2.1 194 y) : RRv u n c R := by
  intro k i k0 k1 i0 i1
  rw [nv_8 (slot7 hI (.inl rfl) (by omega) (by omega) (show _ < (4264 : Int) by omega)) (fun y y0 y1 => hf y (by omega))]
  exact h k i k0 k1 i0 i1
theorem nv_sv {G : sG} {S u : sS} {x : Nat} {b a p : Int} (hI : cX G S x 0 b) (hp : p % 8 = 0 ∧ 0 ≤ p ∧ p + 7 < 4264) (hf : ∀ y, y < a ∨ a + 8 ≤ y → u.2.1 194 y = S.2.1 194 y) (ha : p + 8 ≤ a ∨ a + 8 ≤ p) : nv (u.2.1 194) p = nv (S.2.1 194) p :=
  nv_8 (slot7 hI (.inl rfl) hp.1 hp.2.1 (show _ < (4264 : Int) from hp.2.2)) (fun y y0 y1 => hf y (by omega))
theorem lg_B {G : sG} {S : sS} {y : Nat} {b : Int} {o : Nat} (hI : cX G S 0 y b) (ho : tau o = .inl 0) (hb : bs S o) : lgB S o ↔ lg60 (bv S o) := by
  have hs : -1 ≤ S.1 o 2 ∧ S.1 o 2 ≤ 1 := hI.fi o 2 0 (big_lt ho) ho
  have hc : 0 ≤ S.1 o 1 ∧ S.1 o 1 ≤ 32 := hI.fi o 1 0 (big_lt ho) ho
  rw [lg_bv hs hb (VR_0 hI ho)]
  exact lg_top hc (fun j => limbR hI ho j) (nbH hI ho)