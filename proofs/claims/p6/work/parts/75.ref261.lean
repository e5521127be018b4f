/-! The second reading: factors, products, sums -/
def FtC (l : Launch) (G : sG) (D : Nat) (K V Fm Wd : Int → Int) (T : Int) (N : Nat) : Prop := ∀ (S : sS) (pz q ix : Int), dX G S → S.2.1 244 = K → S.2.1 247 = V → S.2.1 245 = Fm → S.2.1 246 = Wd → S.1 231 24 = pz → (0 ≤ pz ∧ pz ≤ q ∧ q ≤ T - 1) → Hd (S.1 231 20 = 0 → gF K V N pz q) → Hd (S.1 231 20 = 0 → NX S T) → (S.1 231 20 = 0 → 3 * S.1 231 25 ≤ pz) → (0 ≤ ix ∧ ix + (39 * N) + 12 < 1820) → Met l yX12_factor (.code yX12_factor cX12_factor 3 none :: tb) (rmk D 0 0) (sPc G 294 S [.ref (G.2.2.1 + 231), .int (iv ix)]) (sQv G 294 (fun u => dX G u ∧ Fr S u (pl [231, 248, 249, 250, 251, 252, 257, 258]) ∧ FF S u (fl [20, 21, 24, 25, 42, 43]) ∧ ((pz ≤ u.1 231 24 ∧ u.1 231 24 ≤ q) ∧ NR S u (S.1 231 25) ∧ S.1 231 25 ≤ u.1 231 25 ∧ Hd (u.1 231 20 = 0 → S.1 231 20 = 0 ∧ u.1 231 24 = q ∧ u.1 231 25 = S.1 231 25 ∧ fB u ix)))) 0 0 (sF G)
def PdC (l : Launch) (G : sG) (D : Nat) (K V Fm Wd : Int → Int) (T : Int) (N : Nat) : Prop := ∀ (S : sS) (pz q ix : Int), dX G S → S.2.1 244 = K → S.2.1 247 = V → S.2.1 245 = Fm → S.2.1 246 = Wd → S.1 231 24 = pz → (0 ≤ pz ∧ pz ≤ q ∧ q ≤ T - 1) → Hd (S.1 231 20 = 0 → gP K V (gF K V N) pz q) → Hd (S.1 231 20 = 0 → NX S T) → (S.1 231 20 = 0 → 3 * S.1 231 25 ≤ pz) → (0 ≤ ix ∧ ix + (39 * N + 13) + 12 < 1820) → Met l yX12_product (.code yX12_product cX12_product 8 none :: tb) (rmk D 0 0) (sPc G 294 S [.ref (G.2.2.1 + 231), .int (iv ix)]) (sQv G 294 (fun u => dX G u ∧ Fr S u (pl [231, 248, 249, 250, 251, 252, 257, 258]) ∧ FF S u (fl [20, 21, 24, 25, 42, 43]) ∧ ((pz ≤ u.1 231 24 ∧ u.1 231 24 ≤ q) ∧ NR S u (S.1 231 25) ∧ S.1 231 25 ≤ u.1 231 25 ∧ Hd (u.1 231 20 = 0 → S.1 231 20 = 0 ∧ u.1 231 24 = q ∧ u.1 231 25 = S.1 231 25 ∧ fB u ix)))) 0 0 (sF G)
def EpC (l : Launch) (G : sG) (D : Nat) (K V Fm Wd : Int → Int) (T : Int) (N : Nat) : Prop := ∀ (S : sS) (pz q ix : Int), dX G S → S.2.1 244 = K → S.2.1 247 = V → S.2.1 245 = Fm → S.2.1 246 = Wd → S.1 231 24 = pz → (0 ≤ pz ∧ pz ≤ q ∧ q ≤ T - 1) → Hd (S.1 231 20 = 0 → gU K V (gF K V N) pz q) → Hd (S.1 231 20 = 0 → NX S T) → (S.1 231 20 = 0 → 3 * S.1 231 25 ≤ pz) → (0 ≤ ix ∧ ix + (39 * N + 26) + 12 < 1820) → Met l yX12_expression (.code yX12_expression cX12_expression 5 none :: tb) (rmk D 0 0) (sPc G 294 S [.ref (G.2.2.1 + 231), .int (iv ix)]) (sQv G 294 (fun u => dX G u ∧ Fr S u (pl [231, 248, 249, 250, 251, 252, 257, 258]) ∧ FF S u (fl [20, 21, 24, 25, 42, 43]) ∧ ((pz ≤ u.1 231 24 ∧ u.1 231 24 ≤ q) ∧ NR S u (S.1 231 25) ∧ S.1 231 25 ≤ u.1 231 25 ∧ Hd (u.1 231 20 = 0 → S.1 231 20 = 0 ∧ u.1 231 24 = q ∧ u.1 231 25 = S.1 231 25 ∧ fB u ix)))) 0 0 (sF G)
def gSm (K V : Int → Int) (n : Nat) (pz q : Int) : Prop := ∃ a, gk K 1 (pz + 1) a ∧ ∃ b, gw K V 8 a b ∧ ∃ c, gk K 1 b c ∧ ∃ d, gs K V 40 c d ∧ ∃ ed, gU K V (gF K V n) d ed ∧ gs K V 41 ed q
theorem gL_sp {st : Int → Prop} {F : Int → Int → Prop} (hF : ∀ c ed, F c ed → c < ed) {A : Prop} {pz q : Int} (h : Hd (A → gL st F pz q)) (hpq : pz ≤ q) : ∃ ed, (pz ≤ ed ∧ ed ≤ q) ∧ Hd (A → F pz ed) ∧ Hd (A → gTl st (fun c x => F (c + 1) x) ed q) := by
  by_cases a : A
  · obtain ⟨ed, f, t⟩ := h a
    have := hF _ _ f
    have := gTl_le (R := fun c x => F (c + 1) x) (fun c ed r => by have := hF _ _ r; omega) t
    exact ⟨ed, by omega, fun _ => f, fun _ => t⟩
  · exact ⟨pz, by omega, fun z => absurd z a, fun z => absurd z a⟩
theorem gP_tl {K V : Int → Int} {N : Nat} {st : Int → Prop} {c q : Int} (t : gTl st (fun c x => gF K V N (c + 1) x) c q) : c ≤ q := gTl_le (R := fun c x => gF K V N (c + 1) x) (fun c ed r => by have := gF_lt N r; omega) t
theorem gU_tl {K V : Int → Int} {N : Nat} {st : Int → Prop} {c q : Int} (t : gTl st (fun c x => gP K V (gF K V N) (c + 1) x) c q) : c ≤ q := gTl_le (R := fun c x => gP K V (gF K V N) (c + 1) x) (fun c ed r => by have := gP_lt r; omega) t
theorem fB.cg {S u : sS} {ix : Int} (h : fB S ix) (ed : u.2.2.1 257 = S.2.2.1 257) : fB u ix := fun k a b => by rw [ed]; exact h k a b
theorem gF_pos {K V : Int → Int} {N : Nat} {pz q : Int} (h : gF K V N pz q) : ∃ n, N = n + 1 := by
  cases N with
  | zero => exact (show False from h).elim
  | succ n => exact ⟨n, rfl⟩
theorem NX.add {S u : sS} {T tk so : Int} (h : NX S T) (r : nRW S u (S.1 231 25) tk so (-1) (-1) 0) (e25 : u.1 231 25 = S.1 231 25 + 1) (e32 : u.1 231 32 = S.1 231 32) (e35 : u.1 231 35 = S.1 231 35) (a253 : u.2.1 253 = S.2.1 253) (htk : 0 ≤ tk ∧ tk < T) (hso : so = 4 ∨ so = 5) : NX u T := by
  refine ⟨h.1.add r.nr e25 (by omega) (by omega) ?_, fun i i0 i1 => by rw [a253]; exact h.2.1 i i0 (by omega), by have := h.2.2; omega, by have := h.2.2; omega⟩
  obtain ⟨a, b, c, d, ed⟩ := r.at
  unfold nOK nSet
  rw [a, b, c, d, ed]
  refine ⟨htk, fun z => absurd z (by omega), fun z => absurd z (by omega), fun z => absurd z (by omega), fun z => absurd z (by omega), fun _ => by decide⟩
theorem NX.put5 {S u : sS} {T j v : Int} (h : NX S T) (h5 : S.2.1 249 j = 5) (hv : 0 ≤ v ∧ v ≤ 99999) (a248 : u.2.1 248 = S.2.1 248) (a249 : u.2.1 249 = S.2.1 249) (a250 : u.2.1 250 = S.2.1 250) (a251 : u.2.1 251 = S.2.1 251) (a252 : ∀ x, u.2.1 252 x = if x = j then v else S.2.1 252 x) (e25 : u.1 231 25 = S.1 231 25) (e32 : u.1 231 32 = S.1 231 32) (e35 : u.1 231 35 = S.1 231 35) (a253 : u.2.1 253 = S.2.1 253) : NX u T := by
  refine ⟨⟨by have := h.1.1; omega, fun i i0 i1 => ?_⟩, fun i i0 i1 => by rw [a253]; exact h.2.1 i i0 (by omega), by have := h.2.2; omega, by have := h.2.2; omega⟩
  have q := h.1.2 i i0 (by omega)
  unfold nOK nSet nIx nSz at *
  rw [a248, a249, a250, a251, e25, e32, e35, a252]
  by_cases z : i = j
  · rw [if_pos z]
    rw [z] at q ⊢
    exact ⟨q.1, q.2.1, q.2.2.1, fun y => absurd (h5.symm.trans y) (by decide), fun y => absurd (h5.symm.trans y) (by decide), fun _ => hv⟩
  · rw [if_neg z]; exact q
