/-- the models, 11 and the rows of thirteen -/
def pRm (k : Nat) : Bool := decide (k = 11 ∨ (20 ≤ k ∧ k ≤ 118) ∨ (5 ≤ k ∧ k ≤ 10) ∨ (185 ≤ k ∧ k ≤ 187) ∨ (228 ≤ k ∧ k ≤ 230))
theorem lr_Rm {q : Nat} (h : lr q) : pRm q = true := decide_eq_true (.inr (.inl ⟨h.2.1, by have := h.2.2; omega⟩))
theorem mdl_Rm {o : Nat} (m : mdl o) : pRm o = true ∧ pRm (o + 1) = true ∧ pRm (o + 2) = true := by
  have a : ∀ o, o < 231 → tau o = .inl 3 → pRm o = true ∧ pRm (o + 1) = true ∧ pRm (o + 2) = true := by decide +kernel
  exact a o (mdl_k m) m.1
theorem pEx_o {a b c k : Nat} (h : pV k = false) : pEx a b c k = false := by
  cases e : pEx a b c k with
  | false => rfl
  | true => rw [pEx_V k e] at h; cases h
/-! rows -/
section ERO
variable {T : Int} {k v : Int → Int} {N : sN} {m lk p a1 l1 b1 l2 val hi lo q x y0 : Int} {V W : Int → Int}
theorem eRo_1 (h : eU T k (eF T k v 30 N) lk p = none) : eRo T k v N m lk p = none := by unfold eRo; rw [h]; rfl
theorem eRo_2 (h : eU T k (eF T k v 30 N) lk p = some (a1, V, l1)) (h2 : eU T k (eF T k v 30 N) l1 (a1 + 1) = none) : eRo T k v N m lk p = none := by
  unfold eRo; rw [h, Option.bind_some]; show (eU T k (eF T k v 30 N) l1 (a1 + 1)).bind _ = none; rw [h2]; rfl
theorem eRo_3 (h : eU T k (eF T k v 30 N) lk p = some (a1, V, l1)) (h2 : eU T k (eF T k v 30 N) l1 (a1 + 1) = some (b1, W, l2)) (g : grt (vad V W (-1)) ∨ 16 < m + (if k a1 = 13 then 2 else 1)) : eRo T k v N m lk p = none := by
  unfold eRo; rw [h, Option.bind_some]; show (eU T k (eF T k v 30 N) l1 (a1 + 1)).bind _ = none; rw [h2, Option.bind_some]; exact if_pos g
theorem eRo_4 (h : eU T k (eF T k v 30 N) lk p = some (a1, V, l1)) (h2 : eU T k (eF T k v 30 N) l1 (a1 + 1) = some (b1, W, l2)) (g : ¬ grt (vad V W (-1))) (g2 : m + (if k a1 = 13 then 2 else 1) ≤ 16) : eRo T k v N m lk p = some (m + (if k a1 = 13 then 2 else 1), l2, b1 + 1) := by
  unfold eRo; rw [h, Option.bind_some]; show (eU T k (eF T k v 30 N) l1 (a1 + 1)).bind _ = _; rw [h2, Option.bind_some]
  exact if_neg (fun z => by rcases z with z | z; (exact g z); (have z : 16 < m + (if k a1 = 13 then 2 else 1) := z; omega))
theorem eRn_z (h : hi + 1 = val) : eRn T k v N x p (hi + 1 - val).toNat val m lk q = some (m, lk, q) := by
  rw [show (hi + 1 - val).toNat = 0 by omega]; rfl
theorem eRn_n (h : val ≤ hi) (e : eRo T k v (push N x val) m lk p = none) : eRn T k v N x p (hi + 1 - val).toNat val m lk q = none := by
  rw [show (hi + 1 - val).toNat = (hi - val).toNat + 1 by omega]; show (eRo T k v (push N x val) m lk p).bind _ = none; rw [e]; rfl
theorem eRn_s {m' lk' q' : Int} (h : val ≤ hi) (e : eRo T k v (push N x val) m lk p = some (m', lk', q')) : eRn T k v N x p (hi + 1 - val).toNat val m lk q = eRn T k v N x p (hi + 1 - (val + 1)).toNat (val + 1) m' lk' q' := by
  rw [show (hi + 1 - val).toNat = (hi + 1 - (val + 1)).toNat + 1 by omega]; show (eRo T k v (push N x val) m lk p).bind _ = _; rw [e]; rfl
theorem eRn_p (h : val ≤ hi) : eRn T k v N x p (hi + 1 - val).toNat val m lk q = eRn T k v N x p (hi + 1 - val).toNat val m lk y0 := by
  rw [show (hi + 1 - val).toNat = (hi - val).toNat + 1 by omega]; rfl
end ERO
def rN (M : sM) (x : Int) : sN := addN M.1 x (fct 10 0 0 (-1) (-1) 0) (fun _ => 0)
def rM (M : sM) (x : Int) (y : Int × Int × Int) : sM := (rN M x, M.2.1, M.2.2.1, M.2.2.2.1, M.2.2.2.2.1, y.1, M.2.2.2.2.2.2.1, y.2.1)
section EDR
variable {T : Int} {k v : Int → Int} {M : sM} {p s lo hi : Int}
theorem eDr_0 (h : eFind M.1 (v (p + 1)) ≠ -1) : eDr T k v M p = none := if_neg h
theorem eDr_1 (h : eFind M.1 (v (p + 1)) = -1) (c : k (p + 2) ≠ 17) : eDr T k v M p = (eRo T k v (rN M (v (p + 1))) M.2.2.2.2.2.1 M.2.2.2.2.2.2.2 (p + 3)).bind (fun y => some (rM M (v (p + 1)) y, y.2.2)) := by
  unfold eDr; rw [if_pos h, if_neg c]; rfl
theorem eDr_2 (h : eFind M.1 (v (p + 1)) = -1) (c : k (p + 2) = 17) (d : ¬ (eFind (rN M (v (p + 1))) (v (p + 3)) = -1 ∧ isS (rN M (v (p + 1))) (v (p + 5)))) : eDr T k v M p = none := by
  unfold rN at d; unfold eDr; rw [if_pos h, if_pos c, if_neg d]; rfl
theorem eDr_3 (h0 : 0 ≤ M.1.1) (h : eFind M.1 (v (p + 1)) = -1) (c : k (p + 2) = 17) (d : eFind (rN M (v (p + 1))) (v (p + 3)) = -1) (e : isS (rN M (v (p + 1))) (v (p + 5))) (hs : s = eFind (rN M (v (p + 1))) (v (p + 5))) (hlo : lo = M.1.2.2.1 s 1) (hhi : hi = M.1.2.2.1 s 2) : eDr T k v M p = (eRn T k v (rN M (v (p + 1))) (v (p + 3)) (p + 8) (hi + 1 - lo).toNat lo M.2.2.2.2.2.1 M.2.2.2.2.2.2.2 (p + 8)).bind (fun y => some (rM M (v (p + 1)) y, y.2.2)) := by
  have e2 : isS M.1 (v (p + 5)) := (isS_add h0 (by decide)).mp e
  have e3 : eFind M.1 (v (p + 5)) = s := by rw [hs]; exact (eFind_add_s h0 e2).symm
  unfold eDr; rw [if_pos h, if_pos c, if_pos ⟨d, e⟩, e3]
  have e4 : siz M.1 s = hi + 1 - lo := by
    unfold siz; rw [if_neg (by have := e2.1; rw [e3] at this; omega)]; omega
  rw [e4, ← hlo]; rfl
end EDR
theorem MRc.row {M : sM} {S u : sS} {G : sG} {o : Nat} {x m lk : Int} {q : Int} (h : MRc M S G o) (hn : eFind M.1 x = -1) (hN : NRc (rN M x) u) (c0 : u.1 11 10 = S.1 11 10) (c1 : u.1 11 11 = S.1 11 11) (c2 : u.1 o 2 = S.1 o 2) (c3 : u.1 o 3 = m ∧ S.1 o 3 < m ∧ m ≤ 16) (c4 : u.1 11 12 = lk ∧ 0 ≤ lk ∧ lk ≤ 20000) (rk : u.2.2.2 11 8 = S.2.2.2 11 8) : MRc (rM M x (m, lk, q)) u G o := by
  obtain ⟨hN0, hK, d0, d1, d2, d3, d4, ds, hb, hr⟩ := h
  have n1 := hN0.1
  refine ⟨hN, hK.added n1.2.1 hn NF_10, ⟨c0.trans d0.1, d0.2⟩, ⟨c1.trans d1.1, d1.2⟩, ⟨c2.trans d2.1, d2.2⟩, ⟨c3.1, by show 0 ≤ m; omega, c3.2.2⟩, c4, ?_, fun s s0 s1 z => ?_, rk.trans hr⟩
  · show M.1.1 + 1 ≤ M.2.1 + M.2.2.1 + M.2.2.2.1 + m; omega
  · have s1 : s < M.1.1 + 1 := s1
    have z : (addN M.1 x (fct 10 0 0 (-1) (-1) 0) (fun _ => 0)).2.2.1 s 0 = 7 := z
    show (addN M.1 x (fct 10 0 0 (-1) (-1) 0) (fun _ => 0)).2.2.1 s 5 + siz (addN M.1 x (fct 10 0 0 (-1) (-1) 0) (fun _ => 0)) ((addN M.1 x (fct 10 0 0 (-1) (-1) 0) (fun _ => 0)).2.2.1 s 3) * siz (addN M.1 x (fct 10 0 0 (-1) (-1) 0) (fun _ => 0)) ((addN M.1 x (fct 10 0 0 (-1) (-1) 0) (fun _ => 0)).2.2.1 s 4) ≤ 144 * M.2.2.1
    by_cases c : s = M.1.1
    · rw [c, add_n] at z; exact absurd z (by decide)
    · rw [add_o c] at z ⊢
      rw [siz_add (hK.lt n1.2.1 s0 (by omega) (.inl z) (.inl rfl)), siz_add (hK.lt n1.2.1 s0 (by omega) (.inl z) (.inr rfl))]
      exact hb s s0 (by omega) z
theorem MRc.goal {M : sM} {S u : sS} {G : sG} {o : Nat} {mx lk : Int} (h : MRc M S G o) (hN : NRc M.1 u) (c0 : u.1 11 10 = S.1 11 10) (c1 : u.1 11 11 = S.1 11 11) (c2 : u.1 o 2 = S.1 o 2) (c3 : u.1 o 3 = S.1 o 3) (c4 : u.1 11 12 = lk ∧ 0 ≤ lk ∧ lk ≤ 20000) (rk : u.2.2.2 11 8 = S.2.2.2 11 8) : MRc (M.1, M.2.1, M.2.2.1, M.2.2.2.1, M.2.2.2.2.1, M.2.2.2.2.2.1, mx, lk) u G o := by
  obtain ⟨hN0, hK, d0, d1, d2, d3, d4, ds, hb, hr⟩ := h
  exact ⟨hN, hK, ⟨c0.trans d0.1, d0.2⟩, ⟨c1.trans d1.1, d1.2⟩, ⟨c2.trans d2.1, d2.2⟩, ⟨c3.trans d3.1, d3.2⟩, c4, ds, hb, rk.trans hr⟩
/-- what one row leaves -/
def ROc (S u : sS) (N : sN) (o : Nat) (q r : Int) (X : Option (Int × Int × Int)) : Prop := (Hd (RK S u ∧ (r = 0 → u.1 11 14 ≠ 0)) ∧ 0 ≤ r ∧ r ≤ 1 ∧ u.1 11 10 = S.1 11 10 ∧ u.1 11 11 = S.1 11 11 ∧ u.1 o 2 = S.1 o 2) ∧ Hd (r = 1 → X = some (u.1 o 3, u.1 11 12, q) ∧ (S.1 o 3 < u.1 o 3 ∧ u.1 o 3 ≤ 16) ∧ (0 ≤ u.1 11 12 ∧ u.1 11 12 ≤ 20000) ∧ u.1 11 13 = q ∧ u.1 11 14 = 0 ∧ NRc N u) ∧ Hd (r = 0 → X = none)