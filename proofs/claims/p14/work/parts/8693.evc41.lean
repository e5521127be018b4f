/-! Loops of the meaning, and an index in sight -/
theorem RK_F {S u : sS} {k i : Nat} {v : Int} (h : u = uF S k i v) : RK S u := fun j => by rw [h]; rfl
theorem eB {α β : Type} {a : Option α} {f : α → Option β} {y : β} (h : a.bind f = some y) : ∃ x, a = some x ∧ f x = some y := by
  cases a with
  | none => cases h
  | some x => exact ⟨x, rfl, h⟩
abbrev RInc (R : Int → Int → Option sR) : Prop := ∀ lk p y, R lk p = some y → p < y.1
theorem eLn_s {st : Int → Prop} [DecidablePred st] {R : Int → Int → Option sR} {op : Int → (Int → Int) → (Int → Int) → Option (Int → Int)} {m : Nat} {x : sR} : eLn st R op (m + 1) x = if st x.1 then (R x.2.2 (x.1 + 1)).bind (fun y => (op x.1 x.2.1 y.2.1).bind (fun z => eLn st R op m (y.1, z, y.2.2))) else some x := rfl
theorem eLn_le {st : Int → Prop} [DecidablePred st] {R : Int → Int → Option sR} {op : Int → (Int → Int) → (Int → Int) → Option (Int → Int)} (hR : RInc R) : ∀ (m : Nat) (x y : sR), eLn st R op m x = some y → x.1 ≤ y.1 := by
  intro m
  induction m with
  | zero => intro x y h; cases h
  | succ m ih =>
    intro x y h
    rw [eLn_s] at h
    by_cases c : st x.1
    · rw [if_pos c] at h
      obtain ⟨a, h1, h⟩ := eB h; obtain ⟨z, h2, h⟩ := eB h
      have q1 := hR _ _ _ h1; have q2 : a.1 ≤ y.1 := ih (a.1, z, a.2.2) y h; omega
    · rw [if_neg c] at h; cases h; exact Int.le_refl _
theorem eLn_mono {st : Int → Prop} [DecidablePred st] {R : Int → Int → Option sR} {op : Int → (Int → Int) → (Int → Int) → Option (Int → Int)} {T : Int} (hT : ∀ p, st p → p < T) (hR : RInc R) : ∀ (n m : Nat) (x : sR), (T - x.1).toNat + 1 ≤ n → (T - x.1).toNat + 1 ≤ m → eLn st R op n x = eLn st R op m x := by
  intro n
  induction n with
  | zero => intro m x h _; omega
  | succ n ih =>
    intro m x h h'
    cases m with
    | zero => omega
    | succ m =>
      rw [eLn_s, eLn_s]
      by_cases c : st x.1
      · rw [if_pos c, if_pos c]
        cases e : R x.2.2 (x.1 + 1) with
        | none => rfl
        | some y =>
          rw [Option.bind_some, Option.bind_some]
          cases o : op x.1 x.2.1 y.2.1 with
          | none => rfl
          | some z =>
            rw [Option.bind_some, Option.bind_some]
            have h1 := hT _ c; have h2 := hR _ _ _ e
            exact ih m (y.1, z, y.2.2) (show (T - y.1).toNat + 1 ≤ n by omega) (show (T - y.1).toNat + 1 ≤ m by omega)
      · rw [if_neg c, if_neg c]
theorem eL_no {st : Int → Prop} [DecidablePred st] {R : Int → Int → Option sR} {op : Int → (Int → Int) → (Int → Int) → Option (Int → Int)} {T p lk : Int} {V : Int → Int} (c : ¬ st p) : eL T st R op (p, V, lk) = some (p, V, lk) := by
  unfold eL; rw [eLn_s]; exact if_neg c
theorem eL_f1 {st : Int → Prop} [DecidablePred st] {R : Int → Int → Option sR} {op : Int → (Int → Int) → (Int → Int) → Option (Int → Int)} {T p lk : Int} {V : Int → Int} (c : st p) (e : R lk (p + 1) = none) : eL T st R op (p, V, lk) = none := by
  unfold eL; rw [eLn_s, if_pos c]; show (R lk (p + 1)).bind _ = none; rw [e]; rfl
theorem eL_f2 {st : Int → Prop} [DecidablePred st] {R : Int → Int → Option sR} {op : Int → (Int → Int) → (Int → Int) → Option (Int → Int)} {T p lk : Int} {V : Int → Int} {y : sR} (c : st p) (e : R lk (p + 1) = some y) (o : op p V y.2.1 = none) : eL T st R op (p, V, lk) = none := by
  unfold eL; rw [eLn_s, if_pos c]; show (R lk (p + 1)).bind _ = none; rw [e, Option.bind_some]; show (op p V y.2.1).bind _ = none; rw [o]; rfl
theorem eL_so {st : Int → Prop} [DecidablePred st] {R : Int → Int → Option sR} {op : Int → (Int → Int) → (Int → Int) → Option (Int → Int)} {T p lk : Int} {V : Int → Int} {y : sR} {z : Int → Int} (hT : ∀ p, st p → p < T) (hR : RInc R) (c : st p) (e : R lk (p + 1) = some y) (o : op p V y.2.1 = some z) : eL T st R op (p, V, lk) = eL T st R op (y.1, z, y.2.2) := by
  have h1 := hT _ c; have h2 := hR _ _ _ e
  show eLn st R op ((T - p).toNat + 1) (p, V, lk) = eLn st R op ((T - y.1).toNat + 1) (y.1, z, y.2.2)
  rw [eLn_s, if_pos c]; show (R lk (p + 1)).bind _ = _; rw [e, Option.bind_some]; show (op p V y.2.1).bind _ = _; rw [o, Option.bind_some]
  exact eLn_mono hT hR _ _ (y.1, z, y.2.2) (show (T - y.1).toNat + 1 ≤ (T - p).toNat by omega) (show (T - y.1).toNat + 1 ≤ (T - y.1).toNat + 1 by omega)
theorem eL_le {st : Int → Prop} [DecidablePred st] {R : Int → Int → Option sR} {op : Int → (Int → Int) → (Int → Int) → Option (Int → Int)} {T : Int} {x y : sR} (hR : RInc R) (h : eL T st R op x = some y) : x.1 ≤ y.1 := eLn_le hR _ x y h
theorem eP_inc {T : Int} {k : Int → Int} {F : Int → Int → Option sR} (hF : RInc F) : RInc (eP T k F) := fun lk p y h => by
  obtain ⟨a, h1, h2⟩ := eB h
  have q1 := hF _ _ _ h1; have q2 := eL_le hF h2; omega
theorem eU_inc {T : Int} {k : Int → Int} {F : Int → Int → Option sR} (hF : RInc F) : RInc (eU T k F) := fun lk p y h => by
  obtain ⟨a, h1, h2⟩ := eB h
  have q1 := eP_inc hF _ _ _ h1; have q2 := eL_le (eP_inc hF) h2; omega
theorem eSn_s {E : Int → Int → Option sR} {x : Int} {m : Nat} {val lk pos : Int} {acc : Int → Int} : eSn E x (m + 1) val acc lk pos = (E val lk).bind (fun y => if grt (vad acc y.2.1 1) then none else eSn E x m (val + 1) (vad acc y.2.1 1) y.2.2 y.1) := rfl
theorem eSn_le {E : Int → Int → Option sR} {x p0 : Int} (hE : ∀ val lk y, E val lk = some y → p0 ≤ y.1) : ∀ (m : Nat) (val : Int) (acc : Int → Int) (lk pos : Int) (y : sR), p0 ≤ pos → eSn E x m val acc lk pos = some y → p0 ≤ y.1 := by
  intro m
  induction m with
  | zero => intro val acc lk pos y hp h; cases h; exact hp
  | succ m ih =>
    intro val acc lk pos y hp h
    rw [eSn_s] at h
    obtain ⟨a, h1, h⟩ := eB h
    by_cases c : grt (vad acc a.2.1 1)
    · rw [if_pos c] at h; cases h
    · rw [if_neg c] at h; exact ih _ _ _ _ _ (hE _ _ _ h1) h
theorem eI_inc {k v : Int → Int} {N : sN} {p : Int} {y : Int × Int} (h : eI k v N p = some y) : p < y.2 := by
  unfold eI at h
  by_cases c : k p = 3
  · rw [if_pos c] at h; cases h; show p < p + 1; omega
  · rw [if_neg c] at h
    by_cases d : 0 ≤ eFind N (v p) ∧ N.2.2.1 (eFind N (v p)) 0 = 2
    · rw [if_pos d] at h
      by_cases e1 : k (p + 1) = 21
      · rw [if_pos e1] at h; cases h; show p < p + 1 + 1 + 1; omega
      · rw [if_neg e1] at h
        by_cases e2 : k (p + 1) = 22
        · rw [if_pos e2] at h; cases h; show p < p + 1 + 1 + 1; omega
        · rw [if_neg e2] at h; cases h; show p < p + 1; omega
    · rw [if_neg d] at h; cases h
theorem eN_inc {k v : Int → Int} {N : sN} {lk p : Int} {y : sR} (h : eN k v N lk p = some y) : p < y.1 := by
  unfold eN at h
  by_cases c : 0 ≤ eFind N (v p) ∧ N.2.2.1 (eFind N (v p)) 0 = 2
  · rw [if_pos c] at h
    by_cases d : k (p + 1) = 17
    · rw [if_pos d] at h; cases h
    · rw [if_neg d] at h; cases h; show p < p + 1; omega
  · rw [if_neg c] at h
    by_cases c2 : 0 ≤ eFind N (v p) ∧ (N.2.2.1 (eFind N (v p)) 0 = 7 ∨ N.2.2.1 (eFind N (v p)) 0 = 8)
    · rw [if_pos c2] at h
      by_cases d : k (p + 1) = 17
      · rw [if_pos d] at h
        obtain ⟨a, h1, h⟩ := eB h
        have q1 := eI_inc h1
        by_cases d2 : k a.2 = 16
        · rw [if_pos d2] at h
          obtain ⟨b, h2, h⟩ := eB h
          have q2 := eI_inc h2
          split at h
          · cases h; show p < b.2 + 1; omega
          · cases h
        · rw [if_neg d2] at h
          split at h
          · cases h; show p < a.2 + 1; omega
          · cases h
      · rw [if_neg d] at h
        split at h
        · cases h; show p < p + 1; omega
        · cases h
    · rw [if_neg c2] at h; cases h
/-! eF, by its cases -/
section EF
variable {T : Int} {k v : Int → Int} {n : Nat} {N : sN} {lk p : Int}
theorem eF_s : eF T k v (n + 1) N lk p = if 20000 < lk + 1 then none else if k p = 3 then some (p + 1, cst (v p), lk + 1) else if k p = 22 then (eF T k v n N (lk + 1) (p + 1)).bind (fun y => some (y.1, vad (cst 0) y.2.1 (-1), y.2.2)) else if k p = 19 then (eU T k (eF T k v n N) (lk + 1) (p + 1)).bind (fun y => some (y.1 + 1, y.2.1, y.2.2)) else if k p = 11 then (if eFind N (v (p + 1)) = -1 ∧ 0 ≤ eFind N (v (p + 3)) ∧ N.2.2.1 (eFind N (v (p + 3))) 0 = 6 then (eSn (fun val lk => eU T k (eF T k v n (push N (v (p + 1)) val)) lk (p + 5)) 0 (siz N (eFind N (v (p + 3)))).toNat (N.2.2.1 (eFind N (v (p + 3))) 1) (cst 0) (lk + 1) (p + 5)).bind (fun y => some (y.1 + 1, y.2.1, y.2.2)) else none) else eN k v N (lk + 1) p := rfl
end EF
theorem eF_inc {T : Int} {k v : Int → Int} : ∀ (n : Nat) (N : sN), RInc (eF T k v n N) := by
  intro n
  induction n with
  | zero => intro N lk p y h; cases h
  | succ n ih =>
    intro N lk p y h
    rw [eF_s] at h
    by_cases c0 : 20000 < lk + 1
    · rw [if_pos c0] at h; cases h
    rw [if_neg c0] at h
    by_cases c1 : k p = 3
    · rw [if_pos c1] at h; cases h; show p < p + 1; omega
    rw [if_neg c1] at h
    by_cases c2 : k p = 22
    · rw [if_pos c2] at h; obtain ⟨a, h1, h⟩ := eB h; have q := ih N _ _ _ h1; cases h; show p < a.1; omega
    rw [if_neg c2] at h
    by_cases c3 : k p = 19
    · rw [if_pos c3] at h; obtain ⟨a, h1, h⟩ := eB h; have q := eU_inc (ih N) _ _ _ h1; cases h; show p < a.1 + 1; omega
    rw [if_neg c3] at h
    by_cases c4 : k p = 11
    · rw [if_pos c4] at h
      by_cases d : eFind N (v (p + 1)) = -1 ∧ 0 ≤ eFind N (v (p + 3)) ∧ N.2.2.1 (eFind N (v (p + 3))) 0 = 6
      · rw [if_pos d] at h
        obtain ⟨a, h1, h⟩ := eB h
        have q := eSn_le (p0 := p + 5) (fun val lk y h => by have := eU_inc (ih (push N (v (p + 1)) val)) _ _ _ h; omega) _ _ _ _ _ _ (Int.le_refl _) h1
        cases h; show p < a.1 + 1; omega
      · rw [if_neg d] at h; cases h
    rw [if_neg c4] at h; exact eN_inc h
/-! an index in sight -/
theorem siz_push {N : sN} {x w t : Int} (h : t < N.1) : siz (push N x w) t = siz N t := by
  unfold siz
  by_cases c : t < 0
  · rw [if_pos c, if_pos c]
  · rw [if_neg c, if_neg c]
    show (if t = N.1 then _ else N.2.2.1 t 2) - (if t = N.1 then _ else N.2.2.1 t 1) + 1 = _
    rw [if_neg (by omega), if_neg (by omega)]
theorem NK.lt {N : sN} {s q : Int} (hK : NK N) (h0 : 0 ≤ N.1) (s0 : 0 ≤ s) (s1 : s < N.1) (hs : N.2.2.1 s 0 = 7 ∨ N.2.2.1 s 0 = 8) (hq : q = 3 ∨ q = 4) : N.2.2.1 s q < N.1 := by
  rcases (hK.2 s s0 s1).2.2.1 hs q hq with a | a <;> omega
theorem NRc.pushed {N : sN} {S u : sS} {x : Int} (h : NRc N S) (hK : NK N) (hl : LE S u x 2) (hc : N.1 < 128) : NRc (push N x (fc u (S.1 11 9) 1)) u := by
  have e9 := hl.1; have h1 := h.1
  refine ⟨⟨by show N.1 + 1 = _; omega, by show 0 ≤ N.1 + 1; omega, by show N.1 + 1 ≤ 128; omega⟩, fun s a b => ?_, fun s a b => ?_⟩
  · have b : s < N.1 + 1 := b
    show (if s = N.1 then x else N.2.1 s) = _
    rw [hl.2.1 s]
    by_cases c : s = N.1
    · rw [if_pos c, if_pos (by omega)]
    · rw [if_neg c, if_neg (by omega)]; exact h.2.1 s a (by omega)
  · have b : s < N.1 + 1 := b
    by_cases c : s = N.1
    · have f0 : (push N x (fc u (S.1 11 9) 1)).2.2.1 s 0 = 2 := by
        show (if s = N.1 then (if (0 : Int) = 0 then 2 else _) else _) = _
        rw [if_pos c, if_pos rfl]
      have f1 : (push N x (fc u (S.1 11 9) 1)).2.2.1 s 1 = fc u (S.1 11 9) 1 := by
        show (if s = N.1 then (if (1 : Int) = 0 then 2 else if (1 : Int) = 1 then _ else _) else _) = _
        rw [if_pos c, if_neg (by decide), if_pos rfl]
      have g0 : fc u s 0 = 2 := by rw [hl.2.2.2 s 0 (by decide) (by decide), if_pos ⟨by omega, .inl rfl⟩, if_pos rfl]
      exact ⟨f0.trans g0.symm, fun z => absurd (f0.symm.trans z) (by decide), fun _ => f1.trans (by rw [c, h1.1]), fun z => by rw [f0] at z; omega, fun z => by rw [f0] at z; omega, fun z => absurd (f0.symm.trans z) (by decide)⟩
    · have hs := h.2.2 s a (by omega)
      have ef : (push N x (fc u (S.1 11 9) 1)).2.2.1 s = N.2.2.1 s := funext (fun q => if_neg c)
      have eu : ∀ q, 0 ≤ q → q ≤ 5 → fc u s q = fc S s q := fun q q0 q5 => by rw [hl.2.2.2 s q q0 q5, if_neg (by omega)]
      rw [ef, eu 0 (by decide) (by decide), eu 1 (by decide) (by decide), eu 2 (by decide) (by decide), eu 3 (by decide) (by decide), eu 4 (by decide) (by decide), eu 5 (by decide) (by decide)]
      refine ⟨hs.1, hs.2.1, hs.2.2.1, hs.2.2.2.1, hs.2.2.2.2.1, fun z o o0 o1 => ?_⟩
      rw [siz_push (hK.lt h1.2.1 a (by omega) (.inl z) (.inl rfl)), siz_push (hK.lt h1.2.1 a (by omega) (.inl z) (.inr rfl))] at o1
      rw [hl.2.2.1]; exact hs.2.2.2.2.2 z o o0 o1
theorem NRc.low {N : sN} {S u : sS} {x w val s0 : Int} (h : NRc (push N x w) S) (hK : NK N) (h0 : 0 ≤ N.1) (hs0 : s0 = N.1) (e : u = uA S 17 (s0 * 6 + 1) val) : NRc (push N x val) u := by
  have e17 : ∀ s q, 0 ≤ q → q ≤ 5 → fc u s q = if s = N.1 ∧ q = 1 then val else fc S s q := fun s q q0 q5 => by rw [e, hs0, fc_u (by omega) (by omega)]
  have e18 : ∀ j, u.2.1 18 j = S.2.1 18 j := fun j => by rw [e]; exact uA_ne (fun h => absurd h.1 (by decide))
  have e9 : u.1 11 9 = S.1 11 9 := by rw [e]; rfl
  have e16 : ∀ j, u.2.2.1 16 j = S.2.2.1 16 j := fun j => by rw [e]; rfl
  refine ⟨⟨by rw [e9]; exact h.1.1, h.1.2⟩, fun s a b => by rw [e16]; exact h.2.1 s a b, fun s a b => ?_⟩
  have b' : s < N.1 + 1 := b
  have hs := h.2.2 s a b
  by_cases c : s = N.1
  · have f0 : ∀ w, (push N x w).2.2.1 s 0 = 2 := fun w => by
      show (if s = N.1 then (if (0 : Int) = 0 then 2 else _) else _) = _
      rw [if_pos c, if_pos rfl]
    have f1 : (push N x val).2.2.1 s 1 = val := by
      show (if s = N.1 then (if (1 : Int) = 0 then 2 else if (1 : Int) = 1 then _ else _) else _) = _
      rw [if_pos c, if_neg (by decide), if_pos rfl]
    have g0 : fc u s 0 = 2 := by rw [e17 s 0 (by decide) (by decide), if_neg (by omega), ← hs.1]; exact f0 w
    have g1 : fc u s 1 = val := by rw [e17 s 1 (by decide) (by decide), if_pos ⟨c, rfl⟩]
    exact ⟨(f0 val).trans g0.symm, fun z => absurd ((f0 val).symm.trans z) (by decide), fun _ => f1.trans g1.symm, fun z => by rw [f0 val] at z; omega, fun z => by rw [f0 val] at z; omega, fun z => absurd ((f0 val).symm.trans z) (by decide)⟩
  · have ef : ∀ w, (push N x w).2.2.1 s = N.2.2.1 s := fun w => funext (fun q => if_neg c)
    have eu : ∀ q, 0 ≤ q → q ≤ 5 → fc u s q = fc S s q := fun q q0 q5 => by rw [e17 s q q0 q5, if_neg (by omega)]
    rw [ef w] at hs
    rw [ef val, eu 0 (by decide) (by decide), eu 1 (by decide) (by decide), eu 2 (by decide) (by decide), eu 3 (by decide) (by decide), eu 4 (by decide) (by decide), eu 5 (by decide) (by decide)]
    refine ⟨hs.1, hs.2.1, hs.2.2.1, hs.2.2.2.1, hs.2.2.2.2.1, fun z o o0 o1 => ?_⟩
    have l3 := hK.lt (q := 3) h0 a (by omega) (.inl z) (.inl rfl); have l4 := hK.lt (q := 4) h0 a (by omega) (.inl z) (.inr rfl)
    rw [siz_push l3, siz_push l4] at o1
    have q := hs.2.2.2.2.2 z o o0 (by rw [siz_push l3, siz_push l4]; exact o1)
    rw [e18]; exact q
theorem NRc.pop {N : sN} {S u : sS} {x w : Int} (h : NRc (push N x w) S) (hK : NK N) (h0 : 0 ≤ N.1) (e9 : u.1 11 9 = S.1 11 9 - 1) (e16 : ∀ j, u.2.2.1 16 j = S.2.2.1 16 j) (e17 : ∀ j, u.2.1 17 j = S.2.1 17 j) (e18 : ∀ j, u.2.1 18 j = S.2.1 18 j) : NRc N u := by
  have h1 : N.1 + 1 = S.1 11 9 := h.1.1
  have h2 : N.1 + 1 ≤ 128 := h.1.2.2
  refine ⟨⟨by omega, h0, by omega⟩, fun s a b => ?_, fun s a b => ?_⟩
  · have q := h.2.1 s a (show s < N.1 + 1 by omega)
    rw [e16, ← q]; exact (if_neg (by omega)).symm
  · have hs := h.2.2 s a (show s < N.1 + 1 by omega)
    have ef : (push N x w).2.2.1 s = N.2.2.1 s := funext (fun q => if_neg (by omega))
    have eu : ∀ q, fc u s q = fc S s q := fun q => e17 _
    rw [ef] at hs
    rw [eu 0, eu 1, eu 2, eu 3, eu 4, eu 5]
    refine ⟨hs.1, hs.2.1, hs.2.2.1, hs.2.2.2.1, hs.2.2.2.2.1, fun z o o0 o1 => ?_⟩
    have l3 := hK.lt (q := 3) h0 a b (.inl z) (.inl rfl); have l4 := hK.lt (q := 4) h0 a b (.inl z) (.inr rfl)
    have q := hs.2.2.2.2.2 z o o0 (by rw [siz_push l3, siz_push l4]; exact o1)
    rw [e18]; exact q
theorem NK.pushed {N : sN} {x w : Int} (hK : NK N) (h0 : 0 ≤ N.1) (hn : eFind N x = -1) (hw : 0 ≤ w ∧ w ≤ 99999) : NK (push N x w) := by
  have hno : ∀ s, 0 ≤ s → s < N.1 → N.2.1 s ≠ x := by
    rcases eFind_r (x := x) h0 with a | a
    · exact a.2
    · exact absurd a.1 (by omega)
  have ef : ∀ s, s ≠ N.1 → (push N x w).2.2.1 s = N.2.2.1 s := fun s c => funext (fun q => if_neg c)
  refine ⟨fun s t s0 s1 t0 t1 e => ?_, fun s s0 s1 => ?_⟩
  · have s1 : s < N.1 + 1 := s1; have t1 : t < N.1 + 1 := t1
    have e : (if s = N.1 then x else N.2.1 s) = (if t = N.1 then x else N.2.1 t) := e
    by_cases c : s = N.1
    · by_cases d : t = N.1
      · omega
      · rw [if_pos c, if_neg d] at e; exact absurd e.symm (hno t t0 (by omega))
    · by_cases d : t = N.1
      · rw [if_neg c, if_pos d] at e; exact absurd e (hno s s0 (by omega))
      · rw [if_neg c, if_neg d] at e; exact hK.1 s t s0 (by omega) t0 (by omega) e
  · have s1 : s < N.1 + 1 := s1
    by_cases c : s = N.1
    · have f0 : (push N x w).2.2.1 s 0 = 2 := by
        show (if s = N.1 then (if (0 : Int) = 0 then 2 else _) else _) = _
        rw [if_pos c, if_pos rfl]
      have f1 : (push N x w).2.2.1 s 1 = w := by
        show (if s = N.1 then (if (1 : Int) = 0 then 2 else if (1 : Int) = 1 then _ else _) else _) = _
        rw [if_pos c, if_neg (by decide), if_pos rfl]
      rw [f0, f1]
      exact ⟨fun _ => hw, fun z => absurd z (by decide), fun z => by omega, fun z => by omega, fun z => absurd z (by decide), fun z => absurd z (by decide)⟩
    · have hs := hK.2 s s0 (by omega)
      rw [ef s c]
      refine ⟨hs.1, hs.2.1, fun z q hq => ?_, hs.2.2.2.1, fun z o o0 o1 => ?_, fun z => ?_⟩
      · rcases hs.2.2.1 z q hq with a | a
        · exact .inl a
        · refine .inr ⟨a.1, (by show _ < N.1 + 1; omega), ?_⟩
          rw [ef _ (by omega)]; exact a.2.2
      · have l3 := hK.lt (q := 3) h0 s0 (by omega) (.inl z) (.inl rfl); have l4 := hK.lt (q := 4) h0 s0 (by omega) (.inl z) (.inr rfl)
        rw [siz_push l3, siz_push l4] at o1
        exact hs.2.2.2.2.1 z o o0 o1
      · have l3 := hK.lt (q := 3) h0 s0 (by omega) (.inr z) (.inl rfl); have l4 := hK.lt (q := 4) h0 s0 (by omega) (.inr z) (.inr rfl)
        rw [siz_push l3, siz_push l4]; exact hs.2.2.2.2.2 z
/-! sums -/
def eS0 (T : Int) (k v : Int → Int) (n : Nat) (N : sN) (p : Int) : Int → Int → Option sR := fun val lk => eU T k (eF T k v n (push N (v (p + 1)) val)) lk (p + 5)
def eSq (T : Int) (k v : Int → Int) (n : Nat) (N : sN) (p : Int) (m : Nat) (val : Int) (V : Int → Int) (lk pos : Int) : Option sR := (eSn (eS0 T k v n N p) 0 m val V lk pos).bind (fun y => some (y.1 + 1, y.2.1, y.2.2))
def eSm (T : Int) (k v : Int → Int) (n : Nat) (N : sN) (lk p : Int) : Option sR := if eFind N (v (p + 1)) = -1 ∧ 0 ≤ eFind N (v (p + 3)) ∧ N.2.2.1 (eFind N (v (p + 3))) 0 = 6 then eSq T k v n N p (siz N (eFind N (v (p + 3)))).toNat (N.2.2.1 (eFind N (v (p + 3))) 1) (cst 0) lk (p + 5) else none
section ES
variable {T : Int} {k v : Int → Int} {n : Nat} {N : sN} {lk lk' p val hi lo q q1 : Int} {V V1 : Int → Int}
theorem eSq_z (h : hi + 1 = val) : eSq T k v n N p (hi + 1 - val).toNat val V lk q = some (q + 1, V, lk) := by
  rw [show (hi + 1 - val).toNat = 0 by omega]; rfl
theorem eSq_n (h : val ≤ hi) (e : eU T k (eF T k v n (push N (v (p + 1)) val)) lk (p + 5) = none) : eSq T k v n N p (hi + 1 - val).toNat val V lk q = none := by
  unfold eSq; rw [show (hi + 1 - val).toNat = (hi - val).toNat + 1 by omega, eSn_s]; show ((eU T k (eF T k v n (push N (v (p + 1)) val)) lk (p + 5)).bind _).bind _ = none; rw [e]; rfl
theorem eSq_g (h : val ≤ hi) (e : eU T k (eF T k v n (push N (v (p + 1)) val)) lk (p + 5) = some (q1, V1, lk')) (g : grt (vad V V1 1)) : eSq T k v n N p (hi + 1 - val).toNat val V lk q = none := by
  unfold eSq; rw [show (hi + 1 - val).toNat = (hi - val).toNat + 1 by omega, eSn_s]; show ((eU T k (eF T k v n (push N (v (p + 1)) val)) lk (p + 5)).bind _).bind _ = none; rw [e, Option.bind_some, if_pos g]; rfl
theorem eSq_s (h : val ≤ hi) (e : eU T k (eF T k v n (push N (v (p + 1)) val)) lk (p + 5) = some (q1, V1, lk')) (g : ¬ grt (vad V V1 1)) : eSq T k v n N p (hi + 1 - val).toNat val V lk q = eSq T k v n N p (hi + 1 - (val + 1)).toNat (val + 1) (vad V V1 1) lk' q1 := by
  unfold eSq; rw [show (hi + 1 - val).toNat = (hi + 1 - (val + 1)).toNat + 1 by omega, eSn_s]; show ((eU T k (eF T k v n (push N (v (p + 1)) val)) lk (p + 5)).bind _).bind _ = _; rw [e, Option.bind_some, if_neg g]
theorem eSm_n (h : ¬ (eFind N (v (p + 1)) = -1 ∧ 0 ≤ eFind N (v (p + 3)) ∧ N.2.2.1 (eFind N (v (p + 3))) 0 = 6)) : eSm T k v n N lk p = none := if_neg h
theorem eSm_y {s : Int} (h1 : eFind N (v (p + 1)) = -1) (h2 : eFind N (v (p + 3)) = s) (h3 : 0 ≤ s) (h6 : N.2.2.1 s 0 = 6) (hlo : lo = N.2.2.1 s 1) (hhi : hi = N.2.2.1 s 2) (hl : lo ≤ hi) : eSm T k v n N lk p = eSq T k v n N p (hi + 1 - lo).toNat lo (cst 0) lk q1 := by
  unfold eSm; rw [h2, if_pos ⟨h1, h3, h6⟩]
  have e : siz N s = hi + 1 - lo := by unfold siz; rw [if_neg (by omega)]; omega
  rw [e, ← hlo]; unfold eSq; rw [show (hi + 1 - lo).toNat = (hi - lo).toNat + 1 by omega]; rfl
theorem eF_much (h : 20000 < lk + 1) : eF T k v (n + 1) N lk p = none := by rw [eF_s, if_pos h]
theorem eF_num (h : lk + 1 ≤ 20000) (c : k p = 3) : eF T k v (n + 1) N lk p = some (p + 1, cst (v p), lk + 1) := by rw [eF_s, if_neg (by omega), if_pos c]
theorem eF_neg (h : lk + 1 ≤ 20000) (c : k p = 22) : eF T k v (n + 1) N lk p = (eF T k v n N (lk + 1) (p + 1)).bind (fun y => some (y.1, vad (cst 0) y.2.1 (-1), y.2.2)) := by rw [eF_s, if_neg (by omega), if_neg (by omega), if_pos c]
theorem eF_in (h : lk + 1 ≤ 20000) (c : k p = 19) : eF T k v (n + 1) N lk p = (eU T k (eF T k v n N) (lk + 1) (p + 1)).bind (fun y => some (y.1 + 1, y.2.1, y.2.2)) := by rw [eF_s, if_neg (by omega), if_neg (by omega), if_neg (by omega), if_pos c]
theorem eF_sum (h : lk + 1 ≤ 20000) (c : k p = 11) : eF T k v (n + 1) N lk p = eSm T k v n N (lk + 1) p := by rw [eF_s, if_neg (by omega), if_neg (by omega), if_neg (by omega), if_neg (by omega), if_pos c]; rfl
theorem eF_nam (h : lk + 1 ≤ 20000) (c : k p = 2) : eF T k v (n + 1) N lk p = eN k v N (lk + 1) p := by rw [eF_s, if_neg (by omega), if_neg (by omega), if_neg (by omega), if_neg (by omega), if_neg (by omega)]
theorem eF_bad {s : Int} (c : k p = 2) (e : eFind N (v p) = s) (h : ¬ ((0 ≤ s ∧ N.2.2.1 s 0 = 2 ∧ k (p + 1) ≠ 17) ∨ (0 ≤ s ∧ (N.2.2.1 s 0 = 7 ∨ N.2.2.1 s 0 = 8)))) : eF T k v (n + 1) N lk p = none := by
  by_cases d : 20000 < lk + 1
  · exact eF_much d
  · rw [eF_nam (by omega) c]; unfold eN; rw [e]
    by_cases a : 0 ≤ s ∧ N.2.2.1 s 0 = 2
    · rw [if_pos a]
      by_cases b : k (p + 1) = 17
      · rw [if_pos b]
      · exact absurd (.inl ⟨a.1, a.2, b⟩) h
    · rw [if_neg a, if_neg (fun z => h (.inr z))]
end ES
theorem NRc.set6 {N : sN} {S : sS} {x w s : Int} (h : NRc (push N x w) S) (s0 : 0 ≤ s) (s1 : s < N.1) (h6 : N.2.2.1 s 0 = 6) : fc S s 1 = N.2.2.1 s 1 ∧ fc S s 2 = N.2.2.1 s 2 := by
  have hs := (h.2.2 s s0 (show s < N.1 + 1 by omega)).2.1
  have ef : (push N x w).2.2.1 s = N.2.2.1 s := funext (fun q => if_neg (by omega))
  rw [ef] at hs; exact ⟨(hs h6).1.symm, (hs h6).2.symm⟩
theorem vbd_ad {f g h : Int → Int} {t : Int} (hf : vb9 f) (hg : vb9 g) (ht : t = 1 ∨ t = -1) (e : veq h (vad f g t)) : vbd h := fun j a b => by
  rw [e j a b]; have := hf j a b; have := hg j a b; unfold vad; rcases ht with z | z <;> rw [z] <;> omega
theorem hsv_0 {f : Int → Int} (h : ¬ hsv f) (j : Int) (h0 : 1 ≤ j) (h1 : j < 13) : f j = 0 := by
  by_cases q : f j = 0
  · exact q
  · exact absurd (hsv_y h0 h1 q) h
theorem vbd_ml {f g h : Int → Int} (hf : vb9 f) (hg : vb9 g) (hn : ¬ (hsv f ∧ hsv g)) (e : veq h (vml f g)) : vbd h := fun j a b => by
  rw [e j a b]; unfold vml
  by_cases z : j = 0
  · rw [if_pos z]; have := mulb (hf 0 (by decide) (by decide)) (hg 0 (by decide) (by decide)); omega
  · rw [if_neg z]
    have m1 := mulb (hf j a b) (hg 0 (by decide) (by decide)); have m2 := mulb (hf 0 (by decide) (by decide)) (hg j a b)
    by_cases c : hsv f
    · have e2 := hsv_0 (fun y => hn ⟨c, y⟩) j (by omega) b
      rw [e2, Int.mul_zero]; omega
    · have e2 := hsv_0 c j (by omega) b
      rw [e2, Int.zero_mul]; omega
theorem veq_vml {f f' g g' : Int → Int} (h : veq f f') (h' : veq g g') : veq (vml f g) (vml f' g') := fun j a b => by
  unfold vml; rw [h j a b, h' j a b, h 0 (by decide) (by decide), h' 0 (by decide) (by decide)]
theorem EO.cg {S U u : sS} {N : sN} {q r : Int} {X Y : Option sR} {row : Nat} (h : EO U u N q r X row) (e : X = Y) (k : RK S U) (e1 : U.1 11 10 = S.1 11 10) (e2 : U.1 11 11 = S.1 11 11) : EO S u N q r Y row := ⟨⟨⟨fun i => (h.1.1.1 i).trans (k i), h.1.1.2⟩, h.1.2.1, h.1.2.2.1, h.1.2.2.2.1.trans e1, h.1.2.2.2.2.trans e2⟩, e ▸ h.2⟩
theorem ogF_i {T : Int} {k : Int → Int} {n : Nat} {p q : Int} (h : ogF T k (n + 1) p = some q) : (k p = 3 ∧ q = p + 1) ∨ (k p = 22 ∧ ogF T k n (p + 1) = some q) ∨ (k p = 19 ∧ ∃ q1, ogU T k (ogF T k n) (p + 1) = some q1 ∧ k q1 = 20 ∧ q = q1 + 1) ∨ (k p = 11 ∧ ∃ q1, ogU T k (ogF T k n) (p + 5) = some q1 ∧ k q1 = 20 ∧ q = q1 + 1) ∨ (k p = 2 ∧ ((k (p + 1) = 17 ∧ ogXs k (p + 1 + 1) = some q) ∨ (k (p + 1) ≠ 17 ∧ q = p + 1))) := by
  have h : (if k p = 3 then some (p + 1) else if k p = 22 then ogF T k n (p + 1) else if k p = 19 then (ogU T k (ogF T k n) (p + 1)).bind (ogT k 20) else if k p = 11 then (ogT k 2 (p + 1)).bind (fun a => (ogT k 12 a).bind (fun b => (ogT k 2 b).bind (fun c => (ogT k 19 c).bind (fun d => (ogU T k (ogF T k n) d).bind (ogT k 20))))) else if k p = 2 then (if k (p + 1) = 17 then ogXs k (p + 1 + 1) else some (p + 1)) else none) = some q := h
  by_cases c1 : k p = 3
  · rw [if_pos c1] at h; cases h; exact .inl ⟨c1, rfl⟩
  rw [if_neg c1] at h
  by_cases c2 : k p = 22
  · rw [if_pos c2] at h; exact .inr (.inl ⟨c2, h⟩)
  rw [if_neg c2] at h
  by_cases c3 : k p = 19
  · rw [if_pos c3] at h; obtain ⟨x, h1, h2⟩ := ogB h; have := ogT_lt h2; exact .inr (.inr (.inl ⟨c3, x, h1, this.2, this.1⟩))
  rw [if_neg c3] at h
  by_cases c4 : k p = 11
  · rw [if_pos c4] at h
    obtain ⟨a, h1, h⟩ := ogB h; obtain ⟨b, h2, h⟩ := ogB h; obtain ⟨c, h3, h⟩ := ogB h; obtain ⟨d, h4, h⟩ := ogB h; obtain ⟨x, h5, h⟩ := ogB h
    have e1 := ogT_lt h1; have e2 := ogT_lt h2; have e3 := ogT_lt h3; have e4 := ogT_lt h4; have e5 := ogT_lt h
    rw [show d = p + 5 by omega] at h5
    exact .inr (.inr (.inr (.inl ⟨c4, x, h5, e5.2, e5.1⟩)))
  rw [if_neg c4] at h
  by_cases c5 : k p = 2
  · rw [if_pos c5] at h
    by_cases c6 : k (p + 1) = 17
    · rw [if_pos c6] at h; exact .inr (.inr (.inr (.inr ⟨c5, .inl ⟨c6, h⟩⟩)))
    · rw [if_neg c6] at h; cases h; exact .inr (.inr (.inr (.inr ⟨c5, .inr ⟨c6, rfl⟩⟩)))
  · rw [if_neg c5] at h; cases h
theorem ogU_k {T : Int} {k : Int → Int} {n : Nat} {p q : Int} (h : ogU T k (ogF T k n) p = some q) : k p ≠ 0 := by
  obtain ⟨a, h1, _⟩ := ogB h; obtain ⟨b, h2, _⟩ := ogB h1; exact ogF_k h2
theorem ogU_n {T : Int} {k : Int → Int} {n : Nat} {p q : Int} (h : ogU T k (ogF T k n) p = some q) : 1 ≤ n := by
  obtain ⟨a, h1, _⟩ := ogB h; obtain ⟨b, h2, _⟩ := ogB h1
  cases n with
  | zero => cases h2
  | succ n => omega
theorem ogW_ii {T : Int} {st : Int → Prop} [DecidablePred st] {R : Int → Option Int} {p q : Int} (hT : ∀ p, st p → p < T) (hR : ∀ p q, st p → R p = some q → p < q) (c : st p) (h : ogW T st R p = some q) : ∃ x, R p = some x ∧ ogW T st R x = some q := by
  rw [ogW_st hT hR c] at h; exact ogB h
theorem ogW_q {T : Int} {st : Int → Prop} [DecidablePred st] {R : Int → Option Int} {p q : Int} (c : ¬ st p) (h : ogW T st R p = some q) : p = q := by
  rw [ogW_no c] at h; cases h; rfl
theorem oMul_n {a b : Int → Int} (h : hsv a ∧ hsv b) : oMul a b = none := if_pos h
theorem oMul_g {a b : Int → Int} (h : ¬ (hsv a ∧ hsv b)) (g : grt (vml a b)) : oMul a b = none := by unfold oMul; rw [if_neg h, if_pos g]
theorem oMul_s {a b : Int → Int} (h : ¬ (hsv a ∧ hsv b)) (g : ¬ grt (vml a b)) : oMul a b = some (vml a b) := by unfold oMul; rw [if_neg h, if_neg g]
theorem oAdd_g {k : Int → Int} {p t : Int} {a b : Int → Int} (e : (if k p = 21 then (1 : Int) else -1) = t) (g : grt (vad a b t)) : oAdd k p a b = none := by unfold oAdd; rw [e, if_pos g]
theorem oAdd_s {k : Int → Int} {p t : Int} {a b : Int → Int} (e : (if k p = 21 then (1 : Int) else -1) = t) (g : ¬ grt (vad a b t)) : oAdd k p a b = some (vad a b t) := by unfold oAdd; rw [e, if_neg g]
set_option maxRecDepth 100000 in
set_option maxHeartbeats 4000000 in
theorem e_X9_number (l : Launch) (G : sG) (S : sS) {tk : Int} (hI : cX G S 0 0 0) (htk : -2147483648 ≤ tk ∧ tk ≤ 2147483647) (hnv : 0 ≤ vd S tk ∧ vd S tk ≤ 99999) : Met l yX9_number (.code yX9_number cX9_number 2 (some .int) :: tb) (rmk 2 0 0) (sPc G 294 S [.ref (G.2.2.1 + 11), .int (iv tk)]) (sQi G 294 (fun r u => u = S ∧ (r = vd S tk))) 0 0 (sF G) := by
  refine sEnter (by decide) (Nat.le_of_ble_eq_true rfl) ?_
  intro p e s m args below meth c Cx hr hlk hnm hW ls hl
  have Cx : sC G p m c cX9_number 2 s args RX9 := Cx
  obtain ⟨hx, hb, hml, hown, hts⟩ := id Cx.1
  have hL : sL G [] := sL_nil
  have hl : lv_has ls 2 [(0, .ref (G.2.2.1 + 11)), (1, .int (iv tk))] := hl
  have hW0 := hW
  refine lv_aload_n hx hb dX9_number_0 rfl (lv_at hl 0 rfl) ?_
  refine g_X9_14 Cx hW (k := 11) (by decide) rfl (v := .ref (G.2.2.1 + 12)) (rf_11_0 hI) dX9_number_1 ?_
  refine lv_iload_n hx hb dX9_number_4 rfl (lv_at hl 1 rfl) ?_
  refine sBl (sV (As := [.int (iv tk)]) (rest := []) (k := 12) Cx (s_X8_value l G S (k := tk) hI (by omega)) (c_X9_124 Cx rfl rfl (rmk_ok (by omega) (by decide))) hW (by decide) rfl rfl rfl hl.1 rfl (Nat.le_of_ble_eq_true rfl) dX9_number_5 ⟨Nat.le_of_ble_eq_true rfl, Nat.le_of_ble_eq_true rfl⟩) hL (fun r_3 u_1 H locs k_2 hW hL => ?_)
  obtain ⟨eu_1, xu_1⟩ := k_2
  rw [eu_1] at hW
  refine r_l2i hx hb dX9_number_8 ?_
  exact sIret Cx hr hlk hW hL ⟨rfl, xu_1.1⟩ dX9_number_9

set_option maxRecDepth 100000 in
set_option maxHeartbeats 4000000 in
theorem e_X9_summed (l : Launch) (G : sG) (S : sS) {N : sN} {k v : Int → Int} {T pz q dd : Int} {dn qF n d1 D : Nat} {q1 : Int} (hI : cX G S 0 0 0) (hdd : 0 ≤ dd ∧ dd ≤ 29) (hN : Hd (NRc N S)) (hK : Hd (NK N)) (hTV : Hd (TVn k v)) (hkv : Hd (KV S k v T)) (hfk : S.1 11 14 = 0) (hat : S.1 11 13 = pz) (hpz : 0 ≤ pz ∧ pz ≤ 2000) (hlk : 0 ≤ S.1 11 12 ∧ S.1 11 12 ≤ 20000) (hdn : dd = (dn : Int)) (h1 : d1 < D) (h4 : 8 ≤ D) (hn : (n : Int) = 29 - dd) (hnm : N.1 + n ≤ 127) (hqF : qF = 84 + dn) (hE : EX l G d1 (dd + 1) (dn + 1)) (hgx : Hd (ogU T k (ogF T k n) (pz + 5) = some q1)) (hq : q = q1 + 1) (hq1 : 0 ≤ q1 ∧ q1 ≤ 2001) (hp5 : pz + 5 ≤ 2001) (hz : Hd (veq (S.2.2.1 qF) (cst 0))) : Met l yX9_summed (.code yX9_summed cX9_summed 7 (some .boolean) :: tb) (rmk D 0 0) (sPc G 294 S [.ref (G.2.2.1 + 11), .int (iv dd)]) (sQi G 294 (fun r u => cX G u 0 0 0 ∧ Fr S u (pEx (dn + 1) (dn + 1) dn) ∧ (EO S u N q r (eSm T k v n N (S.1 11 12) pz) qF))) 0 0 (sF G) := by
  refine sEnter (by decide) (Nat.le_of_ble_eq_true rfl) ?_
  intro p e s m args below meth c Cx hr hlk hnm hW ls hl
  have Cx : sC G p m c cX9_summed 7 s args RX9 := Cx
  obtain ⟨hx, hb, hml, hown, hts⟩ := id Cx.1
  have hL : sL G [] := sL_nil
  have hl : lv_has ls 7 [(0, .ref (G.2.2.1 + 11)), (1, .int (iv dd))] := hl
  have hW0 := hW
  obtain ⟨qT, hqT⟩ : ∃ z : Nat, z = 20 + (dn + 1) := ⟨_, rfl⟩
  have lqF := lr_83 hqF (by omega)
  have lqT := lr_19 hqT (by omega)
  have hkn : 0 ≤ S.1 11 9 ∧ S.1 11 9 ≤ 128 := hI.fi 11 9 9 (by decide) rfl
  have hTb : 0 ≤ S.1 12 3 ∧ S.1 12 3 ≤ 2001 := hI.fi 12 3 8 (by decide) rfl
  have hTe := hkv.2.2
  have hN1 := hN.1
  refine lv_aload_n hx hb dX9_summed_0 rfl (lv_at hl 0 rfl) ?_
  have q_1 : (-2147483648) ≤ S.1 11 13 ∧ S.1 11 13 ≤ 2147483647 := hI.fi 11 13 9 (by decide) rfl
  refine g_X9_89 Cx hW (k := 11) (by decide) rfl (v := S.1 11 13) rfl dX9_summed_1 ?_
  refine lv_istore_n (lv' := [(2, .int (iv (S.1 11 13))), (0, .ref (G.2.2.1 + 11)), (1, .int (iv dd))]) hx hb dX9_summed_4 rfl hl (by decide) rfl (fun ls hl => ?_)
  refine lv_aload_n hx hb dX9_summed_5 rfl (lv_at hl 1 rfl) ?_
  refine lv_aload_n hx hb dX9_summed_6 rfl (lv_at hl 1 rfl) ?_
  refine g_X9_14 Cx hW (k := 11) (by decide) rfl (v := .ref (G.2.2.1 + 12)) (rf_11_0 hI) dX9_summed_7 ?_
  refine lv_aload_n hx hb dX9_summed_10 rfl (lv_at hl 1 rfl) ?_
  refine g_X9_89 Cx hW (k := 11) (by decide) rfl (v := S.1 11 13) rfl dX9_summed_11 ?_
  refine lv_iconst (v := iv 3) hx hb dX9_summed_14 (by decide) ?_
  refine r_iadd hx hb dX9_summed_15 ?_
  refine sBl (sV (As := [.int (iv ((S.1 11 13) + 3))]) (rest := [.ref (G.2.2.1 + 11)]) (k := 12) Cx (s_X8_value l G S (k := (S.1 11 13) + 3) hI (by omega)) (c_X9_124 Cx rfl rfl (rmk_ok (by omega) (by decide))) hW (by decide) rfl rfl rfl hl.1 rfl (Nat.le_of_ble_eq_true rfl) dX9_summed_16 ⟨Nat.le_of_ble_eq_true rfl, Nat.le_of_ble_eq_true rfl⟩) hL (fun r_4 u_2 H locs k_3 hW hL => ?_)
  obtain ⟨eu_2, xu_2⟩ := k_3
  rw [eu_2] at hW
  have vx3 : r_4 = v (pz + 3) := (by rw [← hkv.2.1]; exact xu_2.1.trans (congrArg (vd S) (by omega)))
  have q_5 : 0 ≤ S.1 11 9 ∧ S.1 11 9 ≤ 128 := hI.fi 11 9 9 (by decide) rfl
  refine sBi (sV (As := [.long (jv r_4)]) (rest := []) (k := 11) Cx (e_X9_find l G S (nm := r_4) hI (by omega)) (c_X9_128 Cx rfl rfl (rmk_ok (by omega) (by decide))) hW (by decide) rfl rfl rfl hl.1 rfl (Nat.le_of_ble_eq_true rfl) dX9_summed_19 ⟨Nat.le_of_ble_eq_true rfl, Nat.le_of_ble_eq_true rfl⟩) hL (fun r_8 u_6 H locs k_7 hW hL => ?_)
  obtain ⟨eu_6, xu_6⟩ := k_7
  rw [eu_6] at hW
  have f0 : r_8 = eFind N (v (pz + 3)) := (by rw [hN.find, ← vx3]; exact xu_6.2)
  refine lv_istore_n (lv' := [(3, .int (iv r_8)), (2, .int (iv (S.1 11 13))), (0, .ref (G.2.2.1 + 11)), (1, .int (iv dd))]) hx hb dX9_summed_22 rfl hl (by decide) rfl (fun ls hl => ?_)
  refine lv_aload_n hx hb dX9_summed_23 rfl (lv_at hl 2 rfl) ?_
  refine lv_aload_n hx hb dX9_summed_24 rfl (lv_at hl 2 rfl) ?_
  refine g_X9_89 Cx hW (k := 11) (by decide) rfl (v := S.1 11 13) rfl dX9_summed_25 ?_
  refine lv_iconst (v := iv 1) hx hb dX9_summed_28 (by decide) ?_
  refine r_iadd hx hb dX9_summed_29 ?_
  refine lv_iconst (v := iv 2) hx hb dX9_summed_30 (by decide) ?_
  have q_9 : 0 ≤ S.1 11 10 ∧ S.1 11 10 ≤ 8 := hI.fi 11 10 9 (by decide) rfl
  have q_10 : 0 ≤ S.1 11 11 ∧ S.1 11 11 ≤ 12 := hI.fi 11 11 9 (by decide) rfl
  have q_11 : (-2147483648) ≤ S.1 11 12 ∧ S.1 11 12 ≤ 2147483647 := hI.fi 11 12 9 (by decide) rfl
  have q_12 : 0 ≤ S.1 11 14 ∧ S.1 11 14 ≤ 7 := hI.fi 11 14 9 (by decide) rfl
  refine sBi (sV (As := [.int (iv ((S.1 11 13) + 1)), .int (iv 2)]) (rest := []) (k := 11) Cx (e_X9_learn l G S (tk := (S.1 11 13) + 1) (so := 2) hI (by omega) (by omega)) (c_X9_140 Cx rfl rfl (rmk_ok (by omega) (by decide))) hW (by decide) rfl rfl rfl hl.1 rfl (Nat.le_of_ble_eq_true rfl) dX9_summed_31 ⟨Nat.le_of_ble_eq_true rfl, Nat.le_of_ble_eq_true rfl⟩) hL (fun r_15 u_13 H locs k_14 hW hL => ?_)
  obtain ⟨iu_13, fu_13, xu_13⟩ := k_14
  have F_16 := (Fr.rf : Fr S S (pEx (dn + 1) (dn + 1) dn)).trans (fu_13.to pT_Ex)
  have F_17 := (Fr.rf : Fr S S (pEx (dn + 1) (dn + 1) (dn + 1))).trans (fu_13.to pT_Ex)
  have zt : vd S (S.1 11 13 + 1) = v (pz + 1) := (by rw [hkv.2.1, hat])
  refine lv_istore (lv' := [(4, .int (iv r_15)), (3, .int (iv r_8)), (2, .int (iv (S.1 11 13))), (0, .ref (G.2.2.1 + 11)), (1, .int (iv dd))]) hx hb dX9_summed_34 hl (by decide) rfl (fun ls hl => ?_)
  refine lv_iload hx hb dX9_summed_36 (lv_at hl 0 rfl) ?_
  refine r_if_ge (tgt := 43) hx hb ⟨(by omega), (by omega)⟩ dX9_summed_38 (by decide) (fun c_18 => ?_) (fun c_18 => ?_)
  · obtain ⟨hr0, h14, hne, hle⟩ := xu_13.2.1 (by omega)
    rw [zt] at hne hle
    have hfn : eFind N (v (pz + 1)) = -1 := (by rw [hN.find]; exact hne)
    have hp0 := NRc.pushed hN hK hle (by omega)
    have hpf : ∀ s, 0 ≤ s → s < N.1 → fc u_13 s 0 = N.2.2.1 s 0 := (fun s a b => by rw [← (hp0.2.2 s a (show s < N.1 + 1 by omega)).1]; exact if_neg (by omega))
    refine lv_aload_n hx hb dX9_summed_43 rfl (lv_at hl 3 rfl) ?_
    refine lv_iload_n hx hb dX9_summed_44 rfl (lv_at hl 1 rfl) ?_
    refine lv_bipush (v := iv 6) hx hb dX9_summed_45 (by decide) ?_
    refine sBi (sV (As := [.int (iv r_8), .int (iv 6)]) (rest := []) (k := 11) Cx (e_X9_isSort l G u_13 (s0 := r_8) (k := 6) iu_13 (by omega) (by omega)) (c_X9_146 Cx rfl rfl (rmk_ok (by omega) (by decide))) hW (by decide) rfl rfl rfl hl.1 rfl (Nat.le_of_ble_eq_true rfl) dX9_summed_47 ⟨Nat.le_of_ble_eq_true rfl, Nat.le_of_ble_eq_true rfl⟩) hL (fun r_21 u_19 H locs k_20 hW hL => ?_)
    obtain ⟨eu_19, xu_19⟩ := k_20
    rw [eu_19] at hW
    refine r_if_ne (tgt := 65) hx hb ⟨(by omega), (by omega)⟩ dX9_summed_50 (by decide) (fun c_22 => ?_) (fun c_22 => ?_)
    · have hs6 := xu_19.2.1 (by omega)
      have hsN : 0 ≤ r_8 ∧ r_8 < N.1 := ⟨hs6.1, by omega⟩
      have h6 : N.2.2.1 r_8 0 = 6 := (hpf _ hsN.1 hsN.2).symm.trans hs6.2
      have hb6 := (hK.2 _ hsN.1 hsN.2).2.1 h6
      have he6 := hp0.set6 hsN.1 hsN.2 h6
      refine lv_aload_n hx hb dX9_summed_65 rfl (lv_at hl 3 rfl) ?_
      refine lv_iload_n hx hb dX9_summed_66 rfl (lv_at hl 1 rfl) ?_
      refine lv_iconst (v := iv 2) hx hb dX9_summed_67 (by decide) ?_
      refine sBi (sV (As := [.int (iv r_8), .int (iv 2)]) (rest := []) (k := 11) Cx (s_X9_fact l G u_13 (s0 := r_8) (q := 2) iu_13 (by omega) (by omega)) (c_X9_120 Cx rfl rfl (rmk_ok (by omega) (by decide))) hW (by decide) rfl rfl rfl hl.1 rfl (Nat.le_of_ble_eq_true rfl) dX9_summed_68 ⟨Nat.le_of_ble_eq_true rfl, Nat.le_of_ble_eq_true rfl⟩) hL (fun r_25 u_23 H locs k_24 hW hL => ?_)
      obtain ⟨eu_23, xu_23⟩ := k_24
      rw [eu_23] at hW
      have yu_23 := xu_23.2
      unfold fr8 at yu_23
      have ehi : r_25 = N.2.2.1 r_8 2 := xu_23.1.trans he6.2
      refine lv_istore (lv' := [(5, .int (iv r_25)), (4, .int (iv r_15)), (3, .int (iv r_8)), (2, .int (iv (S.1 11 13))), (0, .ref (G.2.2.1 + 11)), (1, .int (iv dd))]) hx hb dX9_summed_71 hl (by decide) rfl (fun ls hl => ?_)
      refine lv_aload_n hx hb dX9_summed_73 rfl (lv_at hl 4 rfl) ?_
      refine lv_iload_n hx hb dX9_summed_74 rfl (lv_at hl 2 rfl) ?_
      refine lv_iconst (v := iv 1) hx hb dX9_summed_75 (by decide) ?_
      refine sBi (sV (As := [.int (iv r_8), .int (iv 1)]) (rest := []) (k := 11) Cx (s_X9_fact l G u_13 (s0 := r_8) (q := 1) iu_13 (by omega) (by omega)) (c_X9_120 Cx rfl rfl (rmk_ok (by omega) (by decide))) hW (by decide) rfl rfl rfl hl.1 rfl (Nat.le_of_ble_eq_true rfl) dX9_summed_76 ⟨Nat.le_of_ble_eq_true rfl, Nat.le_of_ble_eq_true rfl⟩) hL (fun r_28 u_26 H locs k_27 hW hL => ?_)
      obtain ⟨eu_26, xu_26⟩ := k_27
      rw [eu_26] at hW
      have yu_26 := xu_26.2
      unfold fr8 at yu_26
      have elo : r_28 = N.2.2.1 r_8 1 := xu_26.1.trans he6.1
      have q_29 : 0 ≤ u_13.1 11 10 ∧ u_13.1 11 10 ≤ 8 := iu_13.fi 11 10 9 (by decide) rfl
      have q_30 : 0 ≤ u_13.1 11 11 ∧ u_13.1 11 11 ≤ 12 := iu_13.fi 11 11 9 (by decide) rfl
      have q_31 : (-2147483648) ≤ u_13.1 11 12 ∧ u_13.1 11 12 ≤ 2147483647 := iu_13.fi 11 12 9 (by decide) rfl
      have q_32 : (-2147483648) ≤ u_13.1 11 13 ∧ u_13.1 11 13 ≤ 2147483647 := iu_13.fi 11 13 9 (by decide) rfl
      have q_33 : 0 ≤ u_13.1 11 14 ∧ u_13.1 11 14 ≤ 7 := iu_13.fi 11 14 9 (by decide) rfl
      have q_34 : 0 ≤ u_13.1 11 9 ∧ u_13.1 11 9 ≤ 128 := iu_13.fi 11 9 9 (by decide) rfl
      refine lv_istore (lv' := [(6, .int (iv r_28)), (5, .int (iv r_25)), (4, .int (iv r_15)), (3, .int (iv r_8)), (2, .int (iv (S.1 11 13))), (0, .ref (G.2.2.1 + 11)), (1, .int (iv dd))]) hx hb dX9_summed_79 hl (by decide) rfl (fun ls hl => ?_)
      have loop_81 : ∀ (fuel : Nat) (S81 : sS) (va : Int) (H : Heap) (locs : List Loc) (ls : Array Slot), (r_25 + 1 - va).toNat < fuel → (cX G S81 0 0 0) → (Fr S S81 (pEx (dn + 1) (dn + 1) dn)) → (Fr u_13 S81 (pEx (dn + 1) (dn + 1) dn)) → (Hd (RK S S81)) → (r_28 ≤ va ∧ va ≤ r_25 + 1) → (Hd (r_28 < va → S81.1 11 13 = q1)) → (S81.1 11 14 = 0 ∧ S81.1 11 10 = S.1 11 10 ∧ S81.1 11 11 = S.1 11 11) → (0 ≤ S81.1 11 12 ∧ S81.1 11 12 ≤ 20000) → (Hd (∃ w, NRc (push N (v (pz + 1)) w) S81)) → (Hd (∃ V, eSm T k v n N (S.1 11 12) pz = eSq T k v n N pz (r_25 + 1 - va).toNat va V (S81.1 11 12) q1 ∧ veq (S81.2.2.1 qF) V ∧ vb9 V)) → sW G 294 S81 H → sL G locs → lv_has ls 7 [(6, .int (iv va)), (5, .int (iv r_25)), (4, .int (iv r_15)), (3, .int (iv r_8)), (2, .int (iv (S.1 11 13))), (0, .ref (G.2.2.1 + 11)), (1, .int (iv dd))] → W p l e (rmk D 0 0) s m args below meth c H locs 0 0 (MQ below (sQi G 294 (fun r u => cX G u 0 0 0 ∧ Fr S u (pEx (dn + 1) (dn + 1) dn) ∧ (EO S u N q r (eSm T k v n N (S.1 11 12) pz) qF))) args s 0 0 (sF G)) (F0 m 81 ls []) := by
        intro fuel
        induction fuel with
        | zero => intro S81 va H locs ls hmeas hI81 hFm81 hL81_ hRK hva hpo hf81 hl81 hNP hSU hW hL hl; exact absurd hmeas (Nat.not_lt_zero _)
        | succ fuel ih_81 =>
          intro S81 va H locs ls hmeas hI81 hFm81 hL81_ hRK hva hpo hf81 hl81 hNP hSU hW hL hl
          obtain ⟨w0, hNw⟩ := hNP
          obtain ⟨V, eV0, wV, bV⟩ := hSU
          have hk81 : N.1 + 1 = S81.1 11 9 := hNw.1.1
          refine lv_iload hx hb dX9_summed_81 (lv_at hl 0 rfl) ?_
          refine lv_iload hx hb dX9_summed_83 (lv_at hl 1 rfl) ?_
          refine r_icmp_gt (tgt := 160) hx hb ⟨(by omega), (by omega)⟩ ⟨(by omega), (by omega)⟩ dX9_summed_85 (by decide) (fun c_35 => ?_) (fun c_35 => ?_)
          · refine lv_aload_n hx hb dX9_summed_160 rfl (lv_at hl 5 rfl) ?_
            have q_36 : 0 ≤ S81.1 11 9 ∧ S81.1 11 9 ≤ 128 := hI81.fi 11 9 9 (by decide) rfl
            refine sBv (sV (As := []) (rest := []) (k := 11) Cx (s_X9_forgetLast l G S81  hI81 (by omega)) (c_X9_176 Cx rfl rfl (rmk_ok (by omega) (by decide))) hW (by decide) rfl rfl rfl hl.1 rfl (Nat.le_of_ble_eq_true rfl) dX9_summed_161 ⟨Nat.le_of_ble_eq_true rfl, Nat.le_of_ble_eq_true rfl⟩) hL (fun u_37 H locs k_38 hW hL => ?_)
            obtain ⟨iu_37, fu_37, xu_37⟩ := k_38
            have F_39 := hFm81.trans (fu_37.to (p1_sub (pEx_y (by omega))))
            have F_40 := hL81_.trans (fu_37.to (p1_sub (pEx_y (by omega))))
            have F_41 := (Fr.rf : Fr S81 S81 pR3).trans (fu_37.to (p1_sub rfl))
            have F_42 := (Fr.rf : Fr S81 S81 (pEx (dn + 1) (dn + 1) (dn + 1))).trans (fu_37.to (p1_sub (pEx_y (by omega))))
            have g9 : u_37.1 11 9 = S81.1 11 9 - 1 := (by rw [xu_37]; exact uF_on)
            have g10 : u_37.1 11 10 = S81.1 11 10 := (by rw [xu_37]; exact uF_i (by decide))
            have g11 : u_37.1 11 11 = S81.1 11 11 := (by rw [xu_37]; exact uF_i (by decide))
            have g12 : u_37.1 11 12 = S81.1 11 12 := (by rw [xu_37]; exact uF_i (by decide))
            have g13 : u_37.1 11 13 = S81.1 11 13 := (by rw [xu_37]; exact uF_i (by decide))
            have g14 : u_37.1 11 14 = S81.1 11 14 := (by rw [xu_37]; exact uF_i (by decide))
            have hpq := hpo (by omega)
            refine lv_aload_n hx hb dX9_summed_164 rfl (lv_at hl 5 rfl) ?_
            refine lv_dup hx hb dX9_summed_165 rfl ?_
            have q_43 : (-2147483648) ≤ u_37.1 11 13 ∧ u_37.1 11 13 ≤ 2147483647 := iu_37.fi 11 13 9 (by decide) rfl
            refine g_X9_89 Cx hW (k := 11) (by decide) rfl (v := u_37.1 11 13) rfl dX9_summed_166 ?_
            refine lv_iconst (v := iv 1) hx hb dX9_summed_169 (by decide) ?_
            refine r_iadd hx hb dX9_summed_170 ?_
            refine p_X9_89 Cx hW hL (k := 11) (by decide) rfl dX9_summed_171 (fun H locs hW hL => ?_)
            have F_44 : Fr S (uF u_37 11 13 ((u_37.1 11 13) + 1)) (pEx (dn + 1) (dn + 1) dn) := F_39.F (pEx_y (by omega))
            have F_45 : Fr u_13 (uF u_37 11 13 ((u_37.1 11 13) + 1)) (pEx (dn + 1) (dn + 1) dn) := F_40.F (pEx_y (by omega))
            have F_46 : Fr S81 (uF u_37 11 13 ((u_37.1 11 13) + 1)) pR3 := F_41.F rfl
            have F_47 : Fr S81 (uF u_37 11 13 ((u_37.1 11 13) + 1)) (pEx (dn + 1) (dn + 1) (dn + 1)) := F_42.F (pEx_y (by omega))
            have i_48 : cX G (uF u_37 11 13 ((u_37.1 11 13) + 1)) 0 0 0 := iu_37.F rfl rfl (show (-2147483648) ≤ (u_37.1 11 13) + 1 ∧ (u_37.1 11 13) + 1 ≤ 2147483647 from ⟨by omega, by omega⟩)
            refine lv_iconst (v := iv 1) hx hb dX9_summed_174 (by decide) ?_
            have q_49 : 0 ≤ u_37.1 11 10 ∧ u_37.1 11 10 ≤ 8 := iu_37.fi 11 10 9 (by decide) rfl
            have lk_50 : (uF u_37 11 13 ((u_37.1 11 13) + 1)).1 11 10 = u_37.1 11 10 := uF_ne (fun h => absurd h.2 (by decide))
            have q_51 : 0 ≤ u_37.1 11 11 ∧ u_37.1 11 11 ≤ 12 := iu_37.fi 11 11 9 (by decide) rfl
            have lk_52 : (uF u_37 11 13 ((u_37.1 11 13) + 1)).1 11 11 = u_37.1 11 11 := uF_ne (fun h => absurd h.2 (by decide))
            have q_53 : (-2147483648) ≤ u_37.1 11 12 ∧ u_37.1 11 12 ≤ 2147483647 := iu_37.fi 11 12 9 (by decide) rfl
            have lk_54 : (uF u_37 11 13 ((u_37.1 11 13) + 1)).1 11 12 = u_37.1 11 12 := uF_ne (fun h => absurd h.2 (by decide))
            have lk_55 : (uF u_37 11 13 ((u_37.1 11 13) + 1)).1 11 13 = (u_37.1 11 13) + 1 := uF_on
            have q_56 : 0 ≤ u_37.1 11 14 ∧ u_37.1 11 14 ≤ 7 := iu_37.fi 11 14 9 (by decide) rfl
            have lk_57 : (uF u_37 11 13 ((u_37.1 11 13) + 1)).1 11 14 = u_37.1 11 14 := uF_ne (fun h => absurd h.2 (by decide))
            have q_58 : 0 ≤ u_37.1 11 9 ∧ u_37.1 11 9 ≤ 128 := iu_37.fi 11 9 9 (by decide) rfl
            have lk_59 : (uF u_37 11 13 ((u_37.1 11 13) + 1)).1 11 9 = u_37.1 11 9 := uF_ne (fun h => absurd h.2 (by decide))
            have nr_60 : NRc N (uF u_37 11 13 ((u_37.1 11 13) + 1)) := hNw.pop hK (by omega) (by omega) (fun j => (F_46 16 rfl).2.2.1 j) (fun j => (F_46 17 rfl).2.1 j) (fun j => (F_46 18 rfl).2.1 j)
            exact sZret Cx hr hlk hW hL (by omega) ⟨i_48, F_44, ⟨⟨⟨(fun i => (((RK_F xu_37) i).trans (hRK i))), (fun h => absurd h (by decide))⟩, by omega, by omega, by omega, by omega⟩, (fun _ => ⟨V, (by rw [eV0, eSq_z (by omega), show (uF u_37 11 13 ((u_37.1 11 13) + 1)).1 11 12 = S81.1 11 12 by omega, show q = q1 + 1 by omega]), (veq_tr (fun j a b => (F_47 qF (pEx_n (by omega))).2.2.1 j) wV), bV, ⟨by omega, by omega⟩, (by omega), (by omega), nr_60⟩), (fun h => absurd h (by decide))⟩⟩ dX9_summed_175
          · refine lv_aload_n hx hb dX9_summed_88 rfl (lv_at hl 5 rfl) ?_
            refine lv_iload hx hb dX9_summed_89 (lv_at hl 2 rfl) ?_
            refine lv_iconst (v := iv 1) hx hb dX9_summed_91 (by decide) ?_
            refine lv_iload hx hb dX9_summed_92 (lv_at hl 0 rfl) ?_
            refine sBv (sV (As := [.int (iv r_15), .int (iv 1), .int (iv va)]) (rest := []) (k := 11) Cx (s_X9_setFact l G S81 (s0 := r_15) (q := 1) (v := va) hI81 (by omega) (by omega) (by unfold fr8; omega) (by omega)) (c_X9_136 Cx rfl rfl (rmk_ok (by omega) (by decide))) hW (by decide) rfl rfl rfl hl.1 rfl (Nat.le_of_ble_eq_true rfl) dX9_summed_94 ⟨Nat.le_of_ble_eq_true rfl, Nat.le_of_ble_eq_true rfl⟩) hL (fun u_61 H locs k_62 hW hL => ?_)
            obtain ⟨iu_61, fu_61, xu_61⟩ := k_62
            have F_63 := hFm81.trans (fu_61.to (p1_sub (pEx_y (by omega))))
            have F_64 := hL81_.trans (fu_61.to (p1_sub (pEx_y (by omega))))
            have F_65 := (Fr.rf : Fr S81 S81 (pEx (dn + 1) (dn + 1) (dn + 1))).trans (fu_61.to (p1_sub (pEx_y (by omega))))
            have hnv : NRc (push N (v (pz + 1)) va) u_61 := hNw.low hK (by omega) (by omega) xu_61
            have hKv : NK (push N (v (pz + 1)) va) := NK.pushed hK (by omega) hfn (by omega)
            have s9u_61 : u_61.1 11 9 = S81.1 11 9 := (by rw [xu_61]; rfl)
            have s10u_61 : u_61.1 11 10 = S81.1 11 10 := (by rw [xu_61]; rfl)
            have s11u_61 : u_61.1 11 11 = S81.1 11 11 := (by rw [xu_61]; rfl)
            have s12u_61 : u_61.1 11 12 = S81.1 11 12 := (by rw [xu_61]; rfl)
            have s13u_61 : u_61.1 11 13 = S81.1 11 13 := (by rw [xu_61]; rfl)
            have s14u_61 : u_61.1 11 14 = S81.1 11 14 := (by rw [xu_61]; rfl)
            refine lv_aload_n hx hb dX9_summed_97 rfl (lv_at hl 5 rfl) ?_
            refine lv_iload_n hx hb dX9_summed_98 rfl (lv_at hl 4 rfl) ?_
            refine lv_iconst (v := iv 5) hx hb dX9_summed_99 (by decide) ?_
            refine r_iadd hx hb dX9_summed_100 ?_
            refine p_X9_89 Cx hW hL (k := 11) (by decide) rfl dX9_summed_101 (fun H locs hW hL => ?_)
            have F_66 : Fr S (uF u_61 11 13 ((S.1 11 13) + 5)) (pEx (dn + 1) (dn + 1) dn) := F_63.F (pEx_y (by omega))
            have F_67 : Fr u_13 (uF u_61 11 13 ((S.1 11 13) + 5)) (pEx (dn + 1) (dn + 1) dn) := F_64.F (pEx_y (by omega))
            have F_68 : Fr S81 (uF u_61 11 13 ((S.1 11 13) + 5)) (pEx (dn + 1) (dn + 1) (dn + 1)) := F_65.F (pEx_y (by omega))
            have F_69 : Fr u_61 (uF u_61 11 13 ((S.1 11 13) + 5)) pR3 := (Fr.rf : Fr u_61 u_61 pR3).F rfl
            have i_70 : cX G (uF u_61 11 13 ((S.1 11 13) + 5)) 0 0 0 := iu_61.F rfl rfl (show (-2147483648) ≤ (S.1 11 13) + 5 ∧ (S.1 11 13) + 5 ≤ 2147483647 from ⟨by omega, by omega⟩)
            refine lv_aload_n hx hb dX9_summed_104 rfl (lv_at hl 5 rfl) ?_
            refine lv_iload_n hx hb dX9_summed_105 rfl (lv_at hl 6 rfl) ?_
            refine lv_iconst (v := iv 1) hx hb dX9_summed_106 (by decide) ?_
            refine r_iadd hx hb dX9_summed_107 ?_
            have q_71 : 0 ≤ S81.1 11 10 ∧ S81.1 11 10 ≤ 8 := hI81.fi 11 10 9 (by decide) rfl
            have lk_72 : (uF u_61 11 13 ((S.1 11 13) + 5)).1 11 10 = S81.1 11 10 := (uF_ne (fun h => absurd h.2 (by decide))).trans ((fu_61 11 rfl).1 10)
            have q_73 : 0 ≤ S81.1 11 11 ∧ S81.1 11 11 ≤ 12 := hI81.fi 11 11 9 (by decide) rfl
            have lk_74 : (uF u_61 11 13 ((S.1 11 13) + 5)).1 11 11 = S81.1 11 11 := (uF_ne (fun h => absurd h.2 (by decide))).trans ((fu_61 11 rfl).1 11)
            have q_75 : (-2147483648) ≤ S81.1 11 12 ∧ S81.1 11 12 ≤ 2147483647 := hI81.fi 11 12 9 (by decide) rfl
            have lk_76 : (uF u_61 11 13 ((S.1 11 13) + 5)).1 11 12 = S81.1 11 12 := (uF_ne (fun h => absurd h.2 (by decide))).trans ((fu_61 11 rfl).1 12)
            have lk_77 : (uF u_61 11 13 ((S.1 11 13) + 5)).1 11 13 = (S.1 11 13) + 5 := uF_on
            have q_78 : 0 ≤ S81.1 11 14 ∧ S81.1 11 14 ≤ 7 := hI81.fi 11 14 9 (by decide) rfl
            have lk_79 : (uF u_61 11 13 ((S.1 11 13) + 5)).1 11 14 = S81.1 11 14 := (uF_ne (fun h => absurd h.2 (by decide))).trans ((fu_61 11 rfl).1 14)
            have q_80 : 0 ≤ S81.1 11 9 ∧ S81.1 11 9 ≤ 128 := hI81.fi 11 9 9 (by decide) rfl
            have lk_81 : (uF u_61 11 13 ((S.1 11 13) + 5)).1 11 9 = S81.1 11 9 := (uF_ne (fun h => absurd h.2 (by decide))).trans ((fu_61 11 rfl).1 9)
            have nr_82 : NRc (push N (v (pz + 1)) va) (uF u_61 11 13 ((S.1 11 13) + 5)) := hnv.of (by omega) (fun j => (F_69 16 rfl).2.2.1 j) (fun j => (F_69 17 rfl).2.1 j) (fun j => (F_69 18 rfl).2.1 j)
            have kv_83 : KV (uF u_61 11 13 ((S.1 11 13) + 5)) k v T := hkv.fr F_66 (pEx_n (by omega)) (pEx_n (by omega)) (pEx_n (by omega))
            refine sBi (sV (As := [.int (iv (dd + 1))]) (rest := []) (k := 11) Cx (hE (uF u_61 11 13 ((S.1 11 13) + 5)) (push N (v (pz + 1)) va) k v T (pz + 5) q1 n i_70 ⟨nr_82, hKv, hTV, kv_83, (by omega), (by omega), (by omega), ⟨by omega, by omega⟩⟩ (by omega) (show N.1 + 1 + (n : Int) ≤ 128 by omega) (by omega) hgx) (c_X9_166 Cx rfl rfl (rmk_ok (by omega) (by decide))) hW (by decide) rfl rfl rfl hl.1 rfl (Nat.le_of_ble_eq_true rfl) dX9_summed_108 ⟨Nat.le_of_ble_eq_true rfl, Nat.le_of_ble_eq_true rfl⟩) hL (fun r_86 u_84 H locs k_85 hW hL => ?_)
            obtain ⟨iu_84, fu_84, xu_84⟩ := k_85
            have yu_84 := xu_84.1.2
            have F_87 := F_66.trans (fu_84.to (pEx_s (by omega) (by omega) (by omega)))
            have F_88 := F_67.trans (fu_84.to (pEx_s (by omega) (by omega) (by omega)))
            have F_89 := F_68.trans fu_84
            refine r_if_ne (tgt := 116) hx hb ⟨(by omega), (by omega)⟩ dX9_summed_111 (by decide) (fun c_90 => ?_) (fun c_90 => ?_)
            · obtain ⟨V1, e1, w1, b1, l1, pp1, f1, n1⟩ := xu_84.2.1 (by omega)
              rw [← hqT] at w1
              rw [show (uF u_61 11 13 ((S.1 11 13) + 5)).1 11 12 = S81.1 11 12 by omega] at e1
              refine lv_aload_n hx hb dX9_summed_116 rfl (lv_at hl 5 rfl) ?_
              refine g_X9_37 Cx hW (k := 11) (by decide) rfl (v := .ref (G.2.2.1 + 83)) (rf_11_6 iu_84) dX9_summed_117 ?_
              refine lv_iload_n hx hb dX9_summed_120 rfl (lv_at hl 6 rfl) ?_
              refine rAald Cx hW (k := 83) (by decide) rfl (by decide) (by omega) (by omega) (r2_83f iu_84 hqF (by omega) (by omega)) dX9_summed_121 ?_
              refine lv_aload_n hx hb dX9_summed_122 rfl (lv_at hl 5 rfl) ?_
              refine g_X9_31 Cx hW (k := 11) (by decide) rfl (v := .ref (G.2.2.1 + 19)) (rf_11_4 iu_84) dX9_summed_123 ?_
              refine lv_iload_n hx hb dX9_summed_126 rfl (lv_at hl 6 rfl) ?_
              refine lv_iconst (v := iv 1) hx hb dX9_summed_127 (by decide) ?_
              refine r_iadd hx hb dX9_summed_128 ?_
              refine rAald Cx hW (k := 19) (by decide) rfl (by decide) (by omega) (by omega) (r2_19f iu_84 hqT (by omega) (by omega)) dX9_summed_129 ?_
              refine lv_iconst (v := iv 1) hx hb dX9_summed_130 (by decide) ?_
              refine sBv (sSt (As := [.ref (G.2.2.1 + qF), .ref (G.2.2.1 + qT), .int (iv 1)]) (rest := []) Cx (e_X9_addTo l G u_84 (qa := qF) (qb := qT) (t := 1) iu_84 lqF lqT (by omega) (by omega) (bV.eq (veq_tr (fun j a b => (F_89 qF (pEx_n (by omega))).2.2.1 j) wV)).bd (b1.eq w1).bd) (c_X9_185 Cx rfl rfl (rmk_ok (by omega) (by decide))) hW rfl hl.1 rfl (Nat.le_of_ble_eq_true rfl) dX9_summed_131 ⟨Nat.le_of_ble_eq_true rfl, Nat.le_of_ble_eq_true rfl⟩) hL (fun u_91 H locs k_92 hW hL => ?_)
              obtain ⟨iu_91, fu_91, xu_91⟩ := k_92
              have F_93 := F_87.trans (fu_91.to (p1_sub (pEx_y (by omega))))
              have F_94 := F_88.trans (fu_91.to (p1_sub (pEx_y (by omega))))
              have F_95 := (Fr.rf : Fr u_84 u_84 pR3).trans (fu_91.to (p1_sub (lr_R lqF)))
              have wS : veq (u_91.2.2.1 qF) (vad V V1 1) := veq_tr xu_91 (veq_vad (veq_tr (fun j a b => (F_89 qF (pEx_n (by omega))).2.2.1 j) wV) w1)
              refine lv_aload_n hx hb dX9_summed_134 rfl (lv_at hl 5 rfl) ?_
              refine g_X9_37 Cx hW (k := 11) (by decide) rfl (v := .ref (G.2.2.1 + 83)) (rf_11_6 iu_91) dX9_summed_135 ?_
              refine lv_iload_n hx hb dX9_summed_138 rfl (lv_at hl 6 rfl) ?_
              refine rAald Cx hW (k := 83) (by decide) rfl (by decide) (by omega) (by omega) (r2_83f iu_91 hqF (by omega) (by omega)) dX9_summed_139 ?_
              refine sBi (sSt (As := [.ref (G.2.2.1 + qF)]) (rest := []) Cx (e_X9_isGreat l G u_91 (qa := qF) iu_91 lqF (vbd_ad bV b1 (.inl rfl) wS)) (c_X9_189 Cx rfl rfl (rmk_ok (by omega) (by decide))) hW rfl hl.1 rfl (Nat.le_of_ble_eq_true rfl) dX9_summed_140 ⟨Nat.le_of_ble_eq_true rfl, Nat.le_of_ble_eq_true rfl⟩) hL (fun r_98 u_96 H locs k_97 hW hL => ?_)
              obtain ⟨eu_96, xu_96⟩ := k_97
              rw [eu_96] at hW
              refine r_if_eq (tgt := 154) hx hb ⟨(by omega), (by omega)⟩ dX9_summed_143 (by decide) (fun c_99 => ?_) (fun c_99 => ?_)
              · have ngr : ¬ grt (vad V V1 1) := (fun z => xu_96.2.2 (by omega) ((veq_grt wS).mpr z))
                refine lv_iinc (v := iv (va + 1)) (lv' := [(6, .int (iv (va + 1))), (5, .int (iv r_25)), (4, .int (iv r_15)), (3, .int (iv r_8)), (2, .int (iv (S.1 11 13))), (0, .ref (G.2.2.1 + 11)), (1, .int (iv dd))]) hx hb dX9_summed_154 hl (k := 0) rfl ((Int32.ofInt_add _ _).symm) (by decide) rfl (fun ls hl => ?_)
                refine lv_goto (tgt := 81) hx hb dX9_summed_157 (by decide) ?_
                have q_100 : 0 ≤ u_84.1 11 10 ∧ u_84.1 11 10 ≤ 8 := iu_84.fi 11 10 9 (by decide) rfl
                have lk_101 : u_91.1 11 10 = u_84.1 11 10 := (fu_91 11 (p1_no (tau_ne (rfl : tau 11 = .inl 9) lqF.1 (fun h => by cases h)))).1 10
                have q_102 : 0 ≤ u_84.1 11 11 ∧ u_84.1 11 11 ≤ 12 := iu_84.fi 11 11 9 (by decide) rfl
                have lk_103 : u_91.1 11 11 = u_84.1 11 11 := (fu_91 11 (p1_no (tau_ne (rfl : tau 11 = .inl 9) lqF.1 (fun h => by cases h)))).1 11
                have q_104 : (-2147483648) ≤ u_84.1 11 12 ∧ u_84.1 11 12 ≤ 2147483647 := iu_84.fi 11 12 9 (by decide) rfl
                have lk_105 : u_91.1 11 12 = u_84.1 11 12 := (fu_91 11 (p1_no (tau_ne (rfl : tau 11 = .inl 9) lqF.1 (fun h => by cases h)))).1 12
                have q_106 : (-2147483648) ≤ u_84.1 11 13 ∧ u_84.1 11 13 ≤ 2147483647 := iu_84.fi 11 13 9 (by decide) rfl
                have lk_107 : u_91.1 11 13 = u_84.1 11 13 := (fu_91 11 (p1_no (tau_ne (rfl : tau 11 = .inl 9) lqF.1 (fun h => by cases h)))).1 13
                have q_108 : 0 ≤ u_84.1 11 14 ∧ u_84.1 11 14 ≤ 7 := iu_84.fi 11 14 9 (by decide) rfl
                have lk_109 : u_91.1 11 14 = u_84.1 11 14 := (fu_91 11 (p1_no (tau_ne (rfl : tau 11 = .inl 9) lqF.1 (fun h => by cases h)))).1 14
                have q_110 : 0 ≤ u_84.1 11 9 ∧ u_84.1 11 9 ≤ 128 := iu_84.fi 11 9 9 (by decide) rfl
                have lk_111 : u_91.1 11 9 = u_84.1 11 9 := (fu_91 11 (p1_no (tau_ne (rfl : tau 11 = .inl 9) lqF.1 (fun h => by cases h)))).1 9
                have nr_112 : NRc (push N (v (pz + 1)) va) u_91 := n1.of (by omega) (fun j => (F_95 16 rfl).2.2.1 j) (fun j => (F_95 17 rfl).2.1 j) (fun j => (F_95 18 rfl).2.1 j)
                exact ih_81 u_91 (va + 1) _ _ _ (by omega) iu_91 F_93 F_94 (fun i => (((fu_91 11 (p1_no (tau_ne (rfl : tau 11 = .inl 9) lqF.1 (fun h => by cases h)))).2.2.2 i).trans ((xu_84.1.1.1 i).trans (((fu_61 11 rfl).2.2.2 i).trans (hRK i))))) (by omega) (fun _ => by omega) (by omega) (by omega) ⟨_, nr_112⟩ ⟨vad V V1 1, (by rw [eV0, eSq_s (by omega) e1 ngr, show u_91.1 11 12 = u_84.1 11 12 by omega]), wS, vb9_n ngr⟩ hW hL (lv_sub hl [0, 1, 2, 3, 4, 5, 6] rfl)
              · refine lv_aload_n hx hb dX9_summed_146 rfl (lv_at hl 5 rfl) ?_
                refine lv_bipush (v := iv 6) hx hb dX9_summed_147 (by decide) ?_
                refine lv_iload_n hx hb dX9_summed_149 rfl (lv_at hl 4 rfl) ?_
                have q_113 : (-2147483648) ≤ u_84.1 11 13 ∧ u_84.1 11 13 ≤ 2147483647 := iu_84.fi 11 13 9 (by decide) rfl
                have lk_114 : u_91.1 11 13 = u_84.1 11 13 := (fu_91 11 (p1_no (tau_ne (rfl : tau 11 = .inl 9) lqF.1 (fun h => by cases h)))).1 13
                have q_115 : 0 ≤ u_84.1 11 9 ∧ u_84.1 11 9 ≤ 128 := iu_84.fi 11 9 9 (by decide) rfl
                have lk_116 : u_91.1 11 9 = u_84.1 11 9 := (fu_91 11 (p1_no (tau_ne (rfl : tau 11 = .inl 9) lqF.1 (fun h => by cases h)))).1 9
                have q_117 : 0 ≤ u_84.1 11 10 ∧ u_84.1 11 10 ≤ 8 := iu_84.fi 11 10 9 (by decide) rfl
                have lk_118 : u_91.1 11 10 = u_84.1 11 10 := (fu_91 11 (p1_no (tau_ne (rfl : tau 11 = .inl 9) lqF.1 (fun h => by cases h)))).1 10
                have q_119 : 0 ≤ u_84.1 11 11 ∧ u_84.1 11 11 ≤ 12 := iu_84.fi 11 11 9 (by decide) rfl
                have lk_120 : u_91.1 11 11 = u_84.1 11 11 := (fu_91 11 (p1_no (tau_ne (rfl : tau 11 = .inl 9) lqF.1 (fun h => by cases h)))).1 11
                have q_121 : (-2147483648) ≤ u_84.1 11 12 ∧ u_84.1 11 12 ≤ 2147483647 := iu_84.fi 11 12 9 (by decide) rfl
                have lk_122 : u_91.1 11 12 = u_84.1 11 12 := (fu_91 11 (p1_no (tau_ne (rfl : tau 11 = .inl 9) lqF.1 (fun h => by cases h)))).1 12
                refine sBi (sV (As := [.int (iv 6), .int (iv (S.1 11 13))]) (rest := []) (k := 11) Cx (e_X9_fail l G u_91 (k := 6) (tk := S.1 11 13) iu_91 (by omega) (by omega)) (c_X9_132 Cx rfl rfl (rmk_ok (by omega) (by decide))) hW (by decide) rfl rfl rfl hl.1 rfl (Nat.le_of_ble_eq_true rfl) dX9_summed_150 ⟨Nat.le_of_ble_eq_true rfl, Nat.le_of_ble_eq_true rfl⟩) hL (fun r_125 u_123 H locs k_124 hW hL => ?_)
                obtain ⟨iu_123, fu_123, xu_123⟩ := k_124
                have F_126 := F_93.trans (fu_123.to (p1_sub (pEx_y (by omega))))
                have F_127 := F_94.trans (fu_123.to (p1_sub (pEx_y (by omega))))
                have F_128 := F_95.trans (fu_123.to (p1_sub rfl))
                have q_129 : 0 ≤ u_123.1 11 10 ∧ u_123.1 11 10 ≤ 8 := iu_123.fi 11 10 9 (by decide) rfl
                have q_130 : 0 ≤ u_123.1 11 11 ∧ u_123.1 11 11 ≤ 12 := iu_123.fi 11 11 9 (by decide) rfl
                have q_131 : (-2147483648) ≤ u_123.1 11 12 ∧ u_123.1 11 12 ≤ 2147483647 := iu_123.fi 11 12 9 (by decide) rfl
                have q_132 : (-2147483648) ≤ u_123.1 11 13 ∧ u_123.1 11 13 ≤ 2147483647 := iu_123.fi 11 13 9 (by decide) rfl
                have q_133 : 0 ≤ u_123.1 11 14 ∧ u_123.1 11 14 ≤ 7 := iu_123.fi 11 14 9 (by decide) rfl
                have q_134 : 0 ≤ u_123.1 11 9 ∧ u_123.1 11 9 ≤ 128 := iu_123.fi 11 9 9 (by decide) rfl
                exact sZret Cx hr hlk hW hL (by omega) ⟨iu_123, F_126, ⟨⟨⟨(fun i => ((xu_123.2.2.2.2.2.2.2 i).trans (((fu_91 11 (p1_no (tau_ne (rfl : tau 11 = .inl 9) lqF.1 (fun h => by cases h)))).2.2.2 i).trans ((xu_84.1.1.1 i).trans (((fu_61 11 rfl).2.2.2 i).trans (hRK i)))))), (fun _ => by first | omega | exact xu_123.1.1.2 (by omega))⟩, by omega, by omega, by omega, by omega⟩, (fun h => absurd h (by omega)), (fun _ => (by rw [eV0]; exact eSq_g (by omega) e1 ((veq_grt wS).mp (xu_96.2.1 (by omega)))))⟩⟩ dX9_summed_153
            · refine lv_iconst (v := iv 0) hx hb dX9_summed_114 (by decide) ?_
              have q_135 : 0 ≤ u_84.1 11 10 ∧ u_84.1 11 10 ≤ 8 := iu_84.fi 11 10 9 (by decide) rfl
              have q_136 : 0 ≤ u_84.1 11 11 ∧ u_84.1 11 11 ≤ 12 := iu_84.fi 11 11 9 (by decide) rfl
              have q_137 : (-2147483648) ≤ u_84.1 11 12 ∧ u_84.1 11 12 ≤ 2147483647 := iu_84.fi 11 12 9 (by decide) rfl
              have q_138 : (-2147483648) ≤ u_84.1 11 13 ∧ u_84.1 11 13 ≤ 2147483647 := iu_84.fi 11 13 9 (by decide) rfl
              have q_139 : 0 ≤ u_84.1 11 14 ∧ u_84.1 11 14 ≤ 7 := iu_84.fi 11 14 9 (by decide) rfl
              have q_140 : 0 ≤ u_84.1 11 9 ∧ u_84.1 11 9 ≤ 128 := iu_84.fi 11 9 9 (by decide) rfl
              exact sZret Cx hr hlk hW hL (by omega) ⟨iu_84, F_87, ⟨⟨⟨(fun i => ((xu_84.1.1.1 i).trans (((fu_61 11 rfl).2.2.2 i).trans (hRK i)))), (fun _ => by first | omega | exact xu_84.1.1.2 (by omega))⟩, by omega, by omega, by omega, by omega⟩, (fun h => absurd h (by omega)), (fun _ => (by rw [eV0]; have q0 := xu_84.2.2 (by omega); rw [show (uF u_61 11 13 ((S.1 11 13) + 5)).1 11 12 = S81.1 11 12 by omega] at q0; exact eSq_n (by omega) q0))⟩⟩ dX9_summed_115
      exact loop_81 (_ + 1) u_13 r_28 _ _ _ (Nat.lt_succ_self _) iu_13 F_16 Fr.rf (fun i => (xu_13.1.1.1 i)) (by omega) (fun z => absurd z (by omega)) (by omega) (by omega) ⟨_, hp0⟩ ⟨cst 0, (by rw [show u_13.1 11 12 = S.1 11 12 by omega]; exact eSm_y hfn f0.symm hsN.1 h6 elo ehi (by omega)), (veq_tr (fun j a b => (F_17 qF (pEx_n (by omega))).2.2.1 j) hz), vb9_cst (by decide)⟩ hW hL (lv_sub hl [0, 1, 2, 3, 4, 5, 6] rfl)
    · refine lv_aload_n hx hb dX9_summed_53 rfl (lv_at hl 3 rfl) ?_
      refine lv_iconst (v := iv 2) hx hb dX9_summed_54 (by decide) ?_
      refine lv_aload_n hx hb dX9_summed_55 rfl (lv_at hl 3 rfl) ?_
      have q_141 : (-2147483648) ≤ u_13.1 11 13 ∧ u_13.1 11 13 ≤ 2147483647 := iu_13.fi 11 13 9 (by decide) rfl
      refine g_X9_89 Cx hW (k := 11) (by decide) rfl (v := u_13.1 11 13) rfl dX9_summed_56 ?_
      refine lv_iconst (v := iv 3) hx hb dX9_summed_59 (by decide) ?_
      refine r_iadd hx hb dX9_summed_60 ?_
      have q_142 : 0 ≤ u_13.1 11 9 ∧ u_13.1 11 9 ≤ 128 := iu_13.fi 11 9 9 (by decide) rfl
      have q_143 : 0 ≤ u_13.1 11 10 ∧ u_13.1 11 10 ≤ 8 := iu_13.fi 11 10 9 (by decide) rfl
      have q_144 : 0 ≤ u_13.1 11 11 ∧ u_13.1 11 11 ≤ 12 := iu_13.fi 11 11 9 (by decide) rfl
      have q_145 : (-2147483648) ≤ u_13.1 11 12 ∧ u_13.1 11 12 ≤ 2147483647 := iu_13.fi 11 12 9 (by decide) rfl
      refine sBi (sV (As := [.int (iv 2), .int (iv ((u_13.1 11 13) + 3))]) (rest := []) (k := 11) Cx (e_X9_fail l G u_13 (k := 2) (tk := (u_13.1 11 13) + 3) iu_13 (by omega) (by omega)) (c_X9_132 Cx rfl rfl (rmk_ok (by omega) (by decide))) hW (by decide) rfl rfl rfl hl.1 rfl (Nat.le_of_ble_eq_true rfl) dX9_summed_61 ⟨Nat.le_of_ble_eq_true rfl, Nat.le_of_ble_eq_true rfl⟩) hL (fun r_148 u_146 H locs k_147 hW hL => ?_)
      obtain ⟨iu_146, fu_146, xu_146⟩ := k_147
      have F_149 := F_16.trans (fu_146.to (p1_sub (pEx_y (by omega))))
      have F_150 := F_17.trans (fu_146.to (p1_sub (pEx_y (by omega))))
      have F_151 := (Fr.rf : Fr u_13 u_13 pR3).trans (fu_146.to (p1_sub rfl))
      have q_152 : 0 ≤ u_146.1 11 10 ∧ u_146.1 11 10 ≤ 8 := iu_146.fi 11 10 9 (by decide) rfl
      have q_153 : 0 ≤ u_146.1 11 11 ∧ u_146.1 11 11 ≤ 12 := iu_146.fi 11 11 9 (by decide) rfl
      have q_154 : (-2147483648) ≤ u_146.1 11 12 ∧ u_146.1 11 12 ≤ 2147483647 := iu_146.fi 11 12 9 (by decide) rfl
      have q_155 : (-2147483648) ≤ u_146.1 11 13 ∧ u_146.1 11 13 ≤ 2147483647 := iu_146.fi 11 13 9 (by decide) rfl
      have q_156 : 0 ≤ u_146.1 11 14 ∧ u_146.1 11 14 ≤ 7 := iu_146.fi 11 14 9 (by decide) rfl
      have q_157 : 0 ≤ u_146.1 11 9 ∧ u_146.1 11 9 ≤ 128 := iu_146.fi 11 9 9 (by decide) rfl
      exact sZret Cx hr hlk hW hL (by omega) ⟨iu_146, F_149, ⟨⟨⟨(fun i => ((xu_146.2.2.2.2.2.2.2 i).trans (xu_13.1.1.1 i))), (fun _ => by first | omega | exact xu_146.1.1.2 (by omega))⟩, by omega, by omega, by omega, by omega⟩, (fun h => absurd h (by omega)), (fun _ => (eSm_n (fun z => xu_19.2.2 (by omega) (by rw [f0]; exact ⟨z.2.1, (hpf _ z.2.1 (by rw [← f0]; have := xu_6.1; omega)).trans z.2.2⟩))))⟩⟩ dX9_summed_64
  · refine lv_iconst (v := iv 0) hx hb dX9_summed_41 (by decide) ?_
    have q_158 : 0 ≤ u_13.1 11 10 ∧ u_13.1 11 10 ≤ 8 := iu_13.fi 11 10 9 (by decide) rfl
    have q_159 : 0 ≤ u_13.1 11 11 ∧ u_13.1 11 11 ≤ 12 := iu_13.fi 11 11 9 (by decide) rfl
    have q_160 : (-2147483648) ≤ u_13.1 11 12 ∧ u_13.1 11 12 ≤ 2147483647 := iu_13.fi 11 12 9 (by decide) rfl
    have q_161 : (-2147483648) ≤ u_13.1 11 13 ∧ u_13.1 11 13 ≤ 2147483647 := iu_13.fi 11 13 9 (by decide) rfl
    have q_162 : 0 ≤ u_13.1 11 14 ∧ u_13.1 11 14 ≤ 7 := iu_13.fi 11 14 9 (by decide) rfl
    have q_163 : 0 ≤ u_13.1 11 9 ∧ u_13.1 11 9 ≤ 128 := iu_13.fi 11 9 9 (by decide) rfl
    exact sZret Cx hr hlk hW hL (by omega) ⟨iu_13, F_16, ⟨⟨⟨(fun i => (xu_13.1.1.1 i)), (fun _ => by first | omega | exact xu_13.1.1.2 (by omega))⟩, by omega, by omega, by omega, by omega⟩, (fun h => absurd h (by omega)), (fun _ => (by have q0 : 0 ≤ eFind N (v (pz + 1)) := (by rw [hN.find]; rcases xu_13.2.2 (by omega) with z | z; (rw [zt] at z; exact z); (exfalso; omega)); exact eSm_n (fun z => by have z1 := z.1; omega)))⟩⟩ dX9_summed_42

set_option maxRecDepth 100000 in
set_option maxHeartbeats 4000000 in
theorem e_X9_factor (l : Launch) (G : sG) (S : sS) {N : sN} {k v : Int → Int} {T pz q dd : Int} {dn qF n d1 d2 dm D : Nat} (hI : cX G S 0 0 0) (hdd : 0 ≤ dd ∧ dd ≤ 29) (hN : Hd (NRc N S)) (hK : Hd (NK N)) (hTV : Hd (TVn k v)) (hkv : Hd (KV S k v T)) (hfk : S.1 11 14 = 0) (hat : S.1 11 13 = pz) (hpz : 0 ≤ pz ∧ pz ≤ 2000) (hlk : 0 ≤ S.1 11 12 ∧ S.1 11 12 ≤ 20000) (hdn : dd = (dn : Int)) (h1 : d1 < dm) (h2 : d2 < dm) (hm : dm < D) (h8 : 8 ≤ dm) (hE : EX l G d1 (dd + 1) (dn + 1)) (hF : FX l G d2 (dd + 1) (dn + 1)) (hn : (n : Int) = 29 - dd) (hnm : N.1 + n ≤ 127) (hqF : qF = 84 + dn) (hgf : Hd (ogF T k (n + 1) pz = some q)) (hqb : q ≤ 2001) : Met l yX9_factor (.code yX9_factor cX9_factor 4 (some .boolean) :: tb) (rmk D 0 0) (sPc G 294 S [.ref (G.2.2.1 + 11), .int (iv dd)]) (sQi G 294 (fun r u => cX G u 0 0 0 ∧ Fr S u (pEx (dn + 1) (dn + 1) dn) ∧ (EO S u N q r (eF T k v (n + 1) N (S.1 11 12) pz) qF))) 0 0 (sF G) := by
  refine sEnter (by decide) (Nat.le_of_ble_eq_true rfl) ?_
  intro p e s m args below meth c Cx hr hlk hnm hW ls hl
  have Cx : sC G p m c cX9_factor 4 s args RX9 := Cx
  obtain ⟨hx, hb, hml, hown, hts⟩ := id Cx.1
  have hL : sL G [] := sL_nil
  have hl : lv_has ls 4 [(0, .ref (G.2.2.1 + 11)), (1, .int (iv dd))] := hl
  have hW0 := hW
  have lqF := lr_83 hqF (by omega)
  have hkn : 0 ≤ S.1 11 9 ∧ S.1 11 9 ≤ 128 := hI.fi 11 9 9 (by decide) rfl
  have hTb : 0 ≤ S.1 12 3 ∧ S.1 12 3 ≤ 2001 := hI.fi 12 3 8 (by decide) rfl
  have hTe := hkv.2.2
  have hN1 := hN.1
  refine lv_iload_n hx hb dX9_factor_0 rfl (lv_at hl 1 rfl) ?_
  refine lv_bipush (v := iv 30) hx hb dX9_factor_1 (by decide) ?_
  refine r_icmp_lt (tgt := 16) hx hb ⟨(by omega), (by omega)⟩ ⟨(by omega), (by omega)⟩ dX9_factor_3 (by decide) (fun c_1 => ?_) (fun c_1 => ?_)
  · refine lv_aload_n hx hb dX9_factor_16 rfl (lv_at hl 0 rfl) ?_
    refine g_X9_14 Cx hW (k := 11) (by decide) rfl (v := .ref (G.2.2.1 + 12)) (rf_11_0 hI) dX9_factor_17 ?_
    refine lv_aload_n hx hb dX9_factor_20 rfl (lv_at hl 0 rfl) ?_
    have q_2 : (-2147483648) ≤ S.1 11 13 ∧ S.1 11 13 ≤ 2147483647 := hI.fi 11 13 9 (by decide) rfl
    refine g_X9_89 Cx hW (k := 11) (by decide) rfl (v := S.1 11 13) rfl dX9_factor_21 ?_
    refine sBi (sV (As := [.int (iv (S.1 11 13))]) (rest := []) (k := 12) Cx (s_X8_kind l G S (k := S.1 11 13) hI (by omega)) (c_X9_95 Cx rfl rfl (rmk_ok (by omega) (by decide))) hW (by decide) rfl rfl rfl hl.1 rfl (Nat.le_of_ble_eq_true rfl) dX9_factor_24 ⟨Nat.le_of_ble_eq_true rfl, Nat.le_of_ble_eq_true rfl⟩) hL (fun r_5 u_3 H locs k_4 hW hL => ?_)
    obtain ⟨eu_3, xu_3⟩ := k_4
    rw [eu_3] at hW
    have k0 : r_5 = k pz := (by rw [← hkv.1]; exact xu_3.1.trans (congrArg (kd S) (by omega)))
    refine lv_istore_n (lv' := [(2, .int (iv r_5)), (0, .ref (G.2.2.1 + 11)), (1, .int (iv dd))]) hx hb dX9_factor_27 rfl hl (by decide) rfl (fun ls hl => ?_)
    refine lv_iconst (v := iv (-1)) hx hb dX9_factor_28 (by decide) ?_
    refine lv_istore_n (lv' := [(3, .int (iv ((-1)))), (2, .int (iv r_5)), (0, .ref (G.2.2.1 + 11)), (1, .int (iv dd))]) hx hb dX9_factor_29 rfl hl (by decide) rfl (fun ls hl => ?_)
    refine lv_iload_n hx hb dX9_factor_30 rfl (lv_at hl 1 rfl) ?_
    refine lv_iconst (v := iv 2) hx hb dX9_factor_31 (by decide) ?_
    refine r_icmp_ne (tgt := 69) hx hb ⟨(by omega), (by omega)⟩ ⟨(by omega), (by omega)⟩ dX9_factor_32 (by decide) (fun c_6 => ?_) (fun c_6 => ?_)
    · refine lv_aload_n hx hb dX9_factor_69 rfl (lv_at hl 2 rfl) ?_
      refine lv_dup hx hb dX9_factor_70 rfl ?_
      have q_7 : (-2147483648) ≤ S.1 11 12 ∧ S.1 11 12 ≤ 2147483647 := hI.fi 11 12 9 (by decide) rfl
      refine g_X9_86 Cx hW (k := 11) (by decide) rfl (v := S.1 11 12) rfl dX9_factor_71 ?_
      refine lv_iconst (v := iv 1) hx hb dX9_factor_74 (by decide) ?_
      refine r_iadd hx hb dX9_factor_75 ?_
      refine p_X9_86 Cx hW hL (k := 11) (by decide) rfl dX9_factor_76 (fun H locs hW hL => ?_)
      have F_8 : Fr S (uF S 11 12 ((S.1 11 12) + 1)) (pEx (dn + 1) (dn + 1) dn) := (Fr.rf : Fr S S (pEx (dn + 1) (dn + 1) dn)).F (pEx_y (by omega))
      have F_9 : Fr S (uF S 11 12 ((S.1 11 12) + 1)) pR3 := (Fr.rf : Fr S S pR3).F rfl
      have i_10 : cX G (uF S 11 12 ((S.1 11 12) + 1)) 0 0 0 := hI.F rfl rfl (show (-2147483648) ≤ (S.1 11 12) + 1 ∧ (S.1 11 12) + 1 ≤ 2147483647 from ⟨by omega, by omega⟩)
      refine lv_aload_n hx hb dX9_factor_79 rfl (lv_at hl 2 rfl) ?_
      refine g_X9_86 Cx hW (k := 11) (by decide) rfl (v := (S.1 11 12) + 1) uF_on dX9_factor_80 ?_
      refine lv_sipush (v := iv 20000) hx hb dX9_factor_83 (by decide) ?_
      refine r_icmp_le (tgt := 100) hx hb ⟨(by omega), (by omega)⟩ ⟨(by omega), (by omega)⟩ dX9_factor_86 (by decide) (fun c_11 => ?_) (fun c_11 => ?_)
      · refine lv_aload_n hx hb dX9_factor_100 rfl (lv_at hl 2 rfl) ?_
        refine g_X9_37 Cx hW (k := 11) (by decide) rfl (v := .ref (G.2.2.1 + 83)) (rf_11_6 i_10) dX9_factor_101 ?_
        refine lv_iload_n hx hb dX9_factor_104 rfl (lv_at hl 3 rfl) ?_
        refine rAald Cx hW (k := 83) (by decide) rfl (by decide) (by omega) (by omega) (r2_83f i_10 hqF (by omega) (by omega)) dX9_factor_105 ?_
        refine lv_lconst (v := jv 0) hx hb dX9_factor_106 (by decide) ?_
        refine sBv (sSt (As := [.ref (G.2.2.1 + qF), .long (jv 0)]) (rest := []) Cx (e_J7_fill l G (uF S 11 12 ((S.1 11 12) + 1)) (qa := qF) i_10 lqF) (c_X9_224 Cx rfl rfl (rmk_ok (by omega) (by decide))) hW rfl hl.1 rfl (Nat.le_of_ble_eq_true rfl) dX9_factor_107 ⟨Nat.le_of_ble_eq_true rfl, Nat.le_of_ble_eq_true rfl⟩) hL (fun u_12 H locs k_13 hW hL => ?_)
        obtain ⟨iu_12, fu_12, xu_12⟩ := k_13
        have F_14 := F_8.trans (fu_12.to (p1_sub (pEx_y (by omega))))
        have F_15 := F_9.trans (fu_12.to (p1_sub (lr_R lqF)))
        refine lv_iload_n hx hb dX9_factor_110 rfl (lv_at hl 1 rfl) ?_
        by_cases c_16 : r_5 = 2
        · refine lv_lookup (off := 41) (tgt := 152) hx hb dX9_factor_111 (by decide) (by rw [c_16]; decide) (by decide) ?_
          exfalso; omega
        by_cases c_17 : r_5 = 11
        · refine lv_lookup (off := 60) (tgt := 171) hx hb dX9_factor_111 (by decide) (by rw [c_17]; decide) (by decide) ?_
          obtain ⟨q1, hgx, hq20, hqq⟩ := (show ∃ q1, ogU T k (ogF T k n) (pz + 5) = some q1 ∧ k q1 = 20 ∧ q = q1 + 1 from (by have gi := ogF_i hgf; rcases gi with g | g | g | g | g; (exfalso; have g1 := g.1; omega); (exfalso; have g1 := g.1; omega); (exfalso; have g1 := g.1; omega); (exact g.2); (exfalso; have g1 := g.1; omega)))
          have hq2 := hkv.lt hq20 (by decide); have hq3 := hkv.lt rfl (ogU_k hgx); have hq4 := ogU_inc (ogF_inc n) _ _ hgx
          refine lv_aload_n hx hb dX9_factor_171 rfl (lv_at hl 2 rfl) ?_
          refine lv_iload_n hx hb dX9_factor_172 rfl (lv_at hl 3 rfl) ?_
          have q_18 : 0 ≤ S.1 11 10 ∧ S.1 11 10 ≤ 8 := hI.fi 11 10 9 (by decide) rfl
          have lk_19 : u_12.1 11 10 = S.1 11 10 := ((fu_12 11 (p1_no (tau_ne (rfl : tau 11 = .inl 9) lqF.1 (fun h => by cases h)))).1 10).trans (uF_ne (fun h => absurd h.2 (by decide)))
          have q_20 : 0 ≤ S.1 11 11 ∧ S.1 11 11 ≤ 12 := hI.fi 11 11 9 (by decide) rfl
          have lk_21 : u_12.1 11 11 = S.1 11 11 := ((fu_12 11 (p1_no (tau_ne (rfl : tau 11 = .inl 9) lqF.1 (fun h => by cases h)))).1 11).trans (uF_ne (fun h => absurd h.2 (by decide)))
          have lk_22 : u_12.1 11 12 = (S.1 11 12) + 1 := ((fu_12 11 (p1_no (tau_ne (rfl : tau 11 = .inl 9) lqF.1 (fun h => by cases h)))).1 12).trans (uF_on)
          have lk_23 : u_12.1 11 13 = S.1 11 13 := ((fu_12 11 (p1_no (tau_ne (rfl : tau 11 = .inl 9) lqF.1 (fun h => by cases h)))).1 13).trans (uF_ne (fun h => absurd h.2 (by decide)))
          have q_24 : 0 ≤ S.1 11 14 ∧ S.1 11 14 ≤ 7 := hI.fi 11 14 9 (by decide) rfl
          have lk_25 : u_12.1 11 14 = S.1 11 14 := ((fu_12 11 (p1_no (tau_ne (rfl : tau 11 = .inl 9) lqF.1 (fun h => by cases h)))).1 14).trans (uF_ne (fun h => absurd h.2 (by decide)))
          have q_26 : 0 ≤ S.1 11 9 ∧ S.1 11 9 ≤ 128 := hI.fi 11 9 9 (by decide) rfl
          have lk_27 : u_12.1 11 9 = S.1 11 9 := ((fu_12 11 (p1_no (tau_ne (rfl : tau 11 = .inl 9) lqF.1 (fun h => by cases h)))).1 9).trans (uF_ne (fun h => absurd h.2 (by decide)))
          have nr_28 : NRc N u_12 := hN.of (by omega) (fun j => (F_15 16 rfl).2.2.1 j) (fun j => (F_15 17 rfl).2.1 j) (fun j => (F_15 18 rfl).2.1 j)
          have kv_29 : KV u_12 k v T := hkv.fr F_14 (pEx_n (by omega)) (pEx_n (by omega)) (pEx_n (by omega))
          refine sBi (sV (As := [.int (iv dd)]) (rest := []) (k := 11) Cx (e_X9_summed l G u_12 (dd := dd) (N := N) (k := k) (v := v) (T := T) (pz := pz) (q := q) (dn := dn) (qF := qF) (n := n) (d1 := d1) (D := dm) (q1 := q1) iu_12 (by omega) nr_28 hK hTV kv_29 (by omega) (by omega) (by omega) (by omega) (by omega) (by omega) (by omega) (by omega) (by omega) (by omega) hE hgx (by omega) (by omega) (by omega) (veq_tr (fun j a b => ((Fr.rf : Fr u_12 u_12 (p1 11)) qF (p1_no (tau_ne lqF.1 (rfl : tau 11 = .inl 9) (fun h => by cases h)))).2.2.1 j) xu_12)) (c_X9_239 Cx rfl rfl (rmk_ok (by omega) (by decide))) hW (by decide) rfl rfl rfl hl.1 rfl (Nat.le_of_ble_eq_true rfl) dX9_factor_173 ⟨Nat.le_of_ble_eq_true rfl, Nat.le_of_ble_eq_true rfl⟩) hL (fun r_32 u_30 H locs k_31 hW hL => ?_)
          obtain ⟨iu_30, fu_30, xu_30⟩ := k_31
          have F_33 := F_14.trans fu_30
          have yu_30 := xu_30.1.2
          have q_34 : 0 ≤ u_30.1 11 10 ∧ u_30.1 11 10 ≤ 8 := iu_30.fi 11 10 9 (by decide) rfl
          have q_35 : 0 ≤ u_30.1 11 11 ∧ u_30.1 11 11 ≤ 12 := iu_30.fi 11 11 9 (by decide) rfl
          have q_36 : (-2147483648) ≤ u_30.1 11 12 ∧ u_30.1 11 12 ≤ 2147483647 := iu_30.fi 11 12 9 (by decide) rfl
          have q_37 : (-2147483648) ≤ u_30.1 11 13 ∧ u_30.1 11 13 ≤ 2147483647 := iu_30.fi 11 13 9 (by decide) rfl
          have q_38 : 0 ≤ u_30.1 11 14 ∧ u_30.1 11 14 ≤ 7 := iu_30.fi 11 14 9 (by decide) rfl
          have q_39 : 0 ≤ u_30.1 11 9 ∧ u_30.1 11 9 ≤ 128 := iu_30.fi 11 9 9 (by decide) rfl
          exact sZret Cx hr hlk hW hL (by omega) ⟨iu_30, F_33, (xu_30.cg (by rw [show u_12.1 11 12 = S.1 11 12 + 1 by omega]; exact (eF_sum (by omega) (by omega)).symm) (fun i => ((fu_12 11 (p1_no (tau_ne (rfl : tau 11 = .inl 9) lqF.1 (fun h => by cases h)))).2.2.2 i)) (by omega) (by omega))⟩ dX9_factor_176
        by_cases c_40 : r_5 = 19
        · refine lv_lookup (off := 54) (tgt := 165) hx hb dX9_factor_111 (by decide) (by rw [c_40]; decide) (by decide) ?_
          obtain ⟨q1, hgx, hq20, hqq⟩ := (show ∃ q1, ogU T k (ogF T k n) (pz + 1) = some q1 ∧ k q1 = 20 ∧ q = q1 + 1 from (by have gi := ogF_i hgf; rcases gi with g | g | g | g | g; (exfalso; have g1 := g.1; omega); (exfalso; have g1 := g.1; omega); (exact g.2); (exfalso; have g1 := g.1; omega); (exfalso; have g1 := g.1; omega)))
          have hq2 := hkv.lt hq20 (by decide); have hq3 := hkv.lt rfl (ogU_k hgx); have hq4 := ogU_inc (ogF_inc n) _ _ hgx
          refine lv_aload_n hx hb dX9_factor_165 rfl (lv_at hl 2 rfl) ?_
          refine lv_iload_n hx hb dX9_factor_166 rfl (lv_at hl 3 rfl) ?_
          have q_41 : 0 ≤ S.1 11 10 ∧ S.1 11 10 ≤ 8 := hI.fi 11 10 9 (by decide) rfl
          have lk_42 : u_12.1 11 10 = S.1 11 10 := ((fu_12 11 (p1_no (tau_ne (rfl : tau 11 = .inl 9) lqF.1 (fun h => by cases h)))).1 10).trans (uF_ne (fun h => absurd h.2 (by decide)))
          have q_43 : 0 ≤ S.1 11 11 ∧ S.1 11 11 ≤ 12 := hI.fi 11 11 9 (by decide) rfl
          have lk_44 : u_12.1 11 11 = S.1 11 11 := ((fu_12 11 (p1_no (tau_ne (rfl : tau 11 = .inl 9) lqF.1 (fun h => by cases h)))).1 11).trans (uF_ne (fun h => absurd h.2 (by decide)))
          have lk_45 : u_12.1 11 12 = (S.1 11 12) + 1 := ((fu_12 11 (p1_no (tau_ne (rfl : tau 11 = .inl 9) lqF.1 (fun h => by cases h)))).1 12).trans (uF_on)
          have lk_46 : u_12.1 11 13 = S.1 11 13 := ((fu_12 11 (p1_no (tau_ne (rfl : tau 11 = .inl 9) lqF.1 (fun h => by cases h)))).1 13).trans (uF_ne (fun h => absurd h.2 (by decide)))
          have q_47 : 0 ≤ S.1 11 14 ∧ S.1 11 14 ≤ 7 := hI.fi 11 14 9 (by decide) rfl
          have lk_48 : u_12.1 11 14 = S.1 11 14 := ((fu_12 11 (p1_no (tau_ne (rfl : tau 11 = .inl 9) lqF.1 (fun h => by cases h)))).1 14).trans (uF_ne (fun h => absurd h.2 (by decide)))
          have q_49 : 0 ≤ S.1 11 9 ∧ S.1 11 9 ≤ 128 := hI.fi 11 9 9 (by decide) rfl
          have lk_50 : u_12.1 11 9 = S.1 11 9 := ((fu_12 11 (p1_no (tau_ne (rfl : tau 11 = .inl 9) lqF.1 (fun h => by cases h)))).1 9).trans (uF_ne (fun h => absurd h.2 (by decide)))
          have nr_51 : NRc N u_12 := hN.of (by omega) (fun j => (F_15 16 rfl).2.2.1 j) (fun j => (F_15 17 rfl).2.1 j) (fun j => (F_15 18 rfl).2.1 j)
          have kv_52 : KV u_12 k v T := hkv.fr F_14 (pEx_n (by omega)) (pEx_n (by omega)) (pEx_n (by omega))
          refine sBi (sV (As := [.int (iv dd)]) (rest := []) (k := 11) Cx (e_X9_inner l G u_12 (dd := dd) (N := N) (k := k) (v := v) (T := T) (pz := pz) (q := q) (dn := dn) (qF := qF) (n := n) (d1 := d1) (D := dm) (q1 := q1) iu_12 (by omega) nr_51 hK hTV kv_52 (by omega) (by omega) (by omega) (by omega) (by omega) (by omega) (by omega) (by omega) (by omega) (by omega) hE hgx (by omega) (by omega) (veq_tr (fun j a b => ((Fr.rf : Fr u_12 u_12 (p1 11)) qF (p1_no (tau_ne lqF.1 (rfl : tau 11 = .inl 9) (fun h => by cases h)))).2.2.1 j) xu_12)) (c_X9_236 Cx rfl rfl (rmk_ok (by omega) (by decide))) hW (by decide) rfl rfl rfl hl.1 rfl (Nat.le_of_ble_eq_true rfl) dX9_factor_167 ⟨Nat.le_of_ble_eq_true rfl, Nat.le_of_ble_eq_true rfl⟩) hL (fun r_55 u_53 H locs k_54 hW hL => ?_)
          obtain ⟨iu_53, fu_53, xu_53⟩ := k_54
          have F_56 := F_14.trans fu_53
          have yu_53 := xu_53.1.2
          have q_57 : 0 ≤ u_53.1 11 10 ∧ u_53.1 11 10 ≤ 8 := iu_53.fi 11 10 9 (by decide) rfl
          have q_58 : 0 ≤ u_53.1 11 11 ∧ u_53.1 11 11 ≤ 12 := iu_53.fi 11 11 9 (by decide) rfl
          have q_59 : (-2147483648) ≤ u_53.1 11 12 ∧ u_53.1 11 12 ≤ 2147483647 := iu_53.fi 11 12 9 (by decide) rfl
          have q_60 : (-2147483648) ≤ u_53.1 11 13 ∧ u_53.1 11 13 ≤ 2147483647 := iu_53.fi 11 13 9 (by decide) rfl
          have q_61 : 0 ≤ u_53.1 11 14 ∧ u_53.1 11 14 ≤ 7 := iu_53.fi 11 14 9 (by decide) rfl
          have q_62 : 0 ≤ u_53.1 11 9 ∧ u_53.1 11 9 ≤ 128 := iu_53.fi 11 9 9 (by decide) rfl
          exact sZret Cx hr hlk hW hL (by omega) ⟨iu_53, F_56, (xu_53.cg (by rw [show u_12.1 11 12 = S.1 11 12 + 1 by omega]; exact (eF_in (by omega) (by omega)).symm) (fun i => ((fu_12 11 (p1_no (tau_ne (rfl : tau 11 = .inl 9) lqF.1 (fun h => by cases h)))).2.2.2 i)) (by omega) (by omega))⟩ dX9_factor_170
        by_cases c_63 : r_5 = 22
        · refine lv_lookup (off := 48) (tgt := 159) hx hb dX9_factor_111 (by decide) (by rw [c_63]; decide) (by decide) ?_
          have hgx := (show ogF T k n (pz + 1) = some q from (by have gi := ogF_i hgf; rcases gi with g | g | g | g | g; (exfalso; have g1 := g.1; omega); (exact g.2); (exfalso; have g1 := g.1; omega); (exfalso; have g1 := g.1; omega); (exfalso; have g1 := g.1; omega)))
          refine lv_aload_n hx hb dX9_factor_159 rfl (lv_at hl 2 rfl) ?_
          refine lv_iload_n hx hb dX9_factor_160 rfl (lv_at hl 3 rfl) ?_
          have q_64 : 0 ≤ S.1 11 10 ∧ S.1 11 10 ≤ 8 := hI.fi 11 10 9 (by decide) rfl
          have lk_65 : u_12.1 11 10 = S.1 11 10 := ((fu_12 11 (p1_no (tau_ne (rfl : tau 11 = .inl 9) lqF.1 (fun h => by cases h)))).1 10).trans (uF_ne (fun h => absurd h.2 (by decide)))
          have q_66 : 0 ≤ S.1 11 11 ∧ S.1 11 11 ≤ 12 := hI.fi 11 11 9 (by decide) rfl
          have lk_67 : u_12.1 11 11 = S.1 11 11 := ((fu_12 11 (p1_no (tau_ne (rfl : tau 11 = .inl 9) lqF.1 (fun h => by cases h)))).1 11).trans (uF_ne (fun h => absurd h.2 (by decide)))
          have lk_68 : u_12.1 11 12 = (S.1 11 12) + 1 := ((fu_12 11 (p1_no (tau_ne (rfl : tau 11 = .inl 9) lqF.1 (fun h => by cases h)))).1 12).trans (uF_on)
          have lk_69 : u_12.1 11 13 = S.1 11 13 := ((fu_12 11 (p1_no (tau_ne (rfl : tau 11 = .inl 9) lqF.1 (fun h => by cases h)))).1 13).trans (uF_ne (fun h => absurd h.2 (by decide)))
          have q_70 : 0 ≤ S.1 11 14 ∧ S.1 11 14 ≤ 7 := hI.fi 11 14 9 (by decide) rfl
          have lk_71 : u_12.1 11 14 = S.1 11 14 := ((fu_12 11 (p1_no (tau_ne (rfl : tau 11 = .inl 9) lqF.1 (fun h => by cases h)))).1 14).trans (uF_ne (fun h => absurd h.2 (by decide)))
          have q_72 : 0 ≤ S.1 11 9 ∧ S.1 11 9 ≤ 128 := hI.fi 11 9 9 (by decide) rfl
          have lk_73 : u_12.1 11 9 = S.1 11 9 := ((fu_12 11 (p1_no (tau_ne (rfl : tau 11 = .inl 9) lqF.1 (fun h => by cases h)))).1 9).trans (uF_ne (fun h => absurd h.2 (by decide)))
          have nr_74 : NRc N u_12 := hN.of (by omega) (fun j => (F_15 16 rfl).2.2.1 j) (fun j => (F_15 17 rfl).2.1 j) (fun j => (F_15 18 rfl).2.1 j)
          have kv_75 : KV u_12 k v T := hkv.fr F_14 (pEx_n (by omega)) (pEx_n (by omega)) (pEx_n (by omega))
          refine sBi (sV (As := [.int (iv dd)]) (rest := []) (k := 11) Cx (e_X9_negated l G u_12 (dd := dd) (N := N) (k := k) (v := v) (T := T) (pz := pz) (q := q) (dn := dn) (qF := qF) (n := n) (d1 := d2) (D := dm) iu_12 (by omega) nr_74 hK hTV kv_75 (by omega) (by omega) (by omega) (by omega) (by omega) (by omega) (by omega) (by omega) (by omega) (by omega) hF hgx (by omega) (veq_tr (fun j a b => ((Fr.rf : Fr u_12 u_12 (p1 11)) qF (p1_no (tau_ne lqF.1 (rfl : tau 11 = .inl 9) (fun h => by cases h)))).2.2.1 j) xu_12)) (c_X9_233 Cx rfl rfl (rmk_ok (by omega) (by decide))) hW (by decide) rfl rfl rfl hl.1 rfl (Nat.le_of_ble_eq_true rfl) dX9_factor_161 ⟨Nat.le_of_ble_eq_true rfl, Nat.le_of_ble_eq_true rfl⟩) hL (fun r_78 u_76 H locs k_77 hW hL => ?_)
          obtain ⟨iu_76, fu_76, xu_76⟩ := k_77
          have F_79 := F_14.trans fu_76
          have yu_76 := xu_76.1.2
          have q_80 : 0 ≤ u_76.1 11 10 ∧ u_76.1 11 10 ≤ 8 := iu_76.fi 11 10 9 (by decide) rfl
          have q_81 : 0 ≤ u_76.1 11 11 ∧ u_76.1 11 11 ≤ 12 := iu_76.fi 11 11 9 (by decide) rfl
          have q_82 : (-2147483648) ≤ u_76.1 11 12 ∧ u_76.1 11 12 ≤ 2147483647 := iu_76.fi 11 12 9 (by decide) rfl
          have q_83 : (-2147483648) ≤ u_76.1 11 13 ∧ u_76.1 11 13 ≤ 2147483647 := iu_76.fi 11 13 9 (by decide) rfl
          have q_84 : 0 ≤ u_76.1 11 14 ∧ u_76.1 11 14 ≤ 7 := iu_76.fi 11 14 9 (by decide) rfl
          have q_85 : 0 ≤ u_76.1 11 9 ∧ u_76.1 11 9 ≤ 128 := iu_76.fi 11 9 9 (by decide) rfl
          exact sZret Cx hr hlk hW hL (by omega) ⟨iu_76, F_79, (xu_76.cg (by rw [show u_12.1 11 12 = S.1 11 12 + 1 by omega]; exact (eF_neg (by omega) (by omega)).symm) (fun i => ((fu_12 11 (p1_no (tau_ne (rfl : tau 11 = .inl 9) lqF.1 (fun h => by cases h)))).2.2.2 i)) (by omega) (by omega))⟩ dX9_factor_164
        refine lv_lookup (off := 66) (tgt := 177) hx hb dX9_factor_111 (by decide) (by rw [iv_toInt ⟨(by omega), (by omega)⟩]; exact lk_out (by simp [List.forall_mem_cons]; omega)) (by decide) ?_
        have hgx := (show q = pz + 1 ∧ k pz = 3 from (by have gi := ogF_i hgf; rcases gi with g | g | g | g | g; (exact ⟨g.2, g.1⟩); (exfalso; have g1 := g.1; omega); (exfalso; have g1 := g.1; omega); (exfalso; have g1 := g.1; omega); (exfalso; have g1 := g.1; omega)))
        refine lv_aload_n hx hb dX9_factor_177 rfl (lv_at hl 2 rfl) ?_
        refine g_X9_37 Cx hW (k := 11) (by decide) rfl (v := .ref (G.2.2.1 + 83)) (rf_11_6 iu_12) dX9_factor_178 ?_
        refine lv_iload_n hx hb dX9_factor_181 rfl (lv_at hl 3 rfl) ?_
        refine rAald Cx hW (k := 83) (by decide) rfl (by decide) (by omega) (by omega) (r2_83f iu_12 hqF (by omega) (by omega)) dX9_factor_182 ?_
        refine lv_iconst (v := iv 0) hx hb dX9_factor_183 (by decide) ?_
        refine lv_aload_n hx hb dX9_factor_184 rfl (lv_at hl 2 rfl) ?_
        refine lv_aload_n hx hb dX9_factor_185 rfl (lv_at hl 2 rfl) ?_
        refine g_X9_89 Cx hW (k := 11) (by decide) rfl (v := S.1 11 13) (((fu_12 11 (p1_no (tau_ne (rfl : tau 11 = .inl 9) lqF.1 (fun h => by cases h)))).1 13).trans (uF_ne (fun h => absurd h.2 (by decide)))) dX9_factor_186 ?_
        have kv_86 : KV u_12 k v T := hkv.fr F_14 (pEx_n (by omega)) (pEx_n (by omega)) (pEx_n (by omega))
        refine sBi (sV (As := [.int (iv (S.1 11 13))]) (rest := [.int (iv 0), .ref (G.2.2.1 + qF)]) (k := 11) Cx (e_X9_number l G u_12 (tk := S.1 11 13) iu_12 (by omega) (by rw [kv_86.2.1, show S.1 11 13 = pz by omega]; exact hTV pz hgx.2)) (c_X9_143 Cx rfl rfl (rmk_ok (by omega) (by decide))) hW (by decide) rfl rfl rfl hl.1 rfl (Nat.le_of_ble_eq_true rfl) dX9_factor_189 ⟨Nat.le_of_ble_eq_true rfl, Nat.le_of_ble_eq_true rfl⟩) hL (fun r_89 u_87 H locs k_88 hW hL => ?_)
        obtain ⟨eu_87, xu_87⟩ := k_88
        rw [eu_87] at hW
        have nv : r_89 = v pz := (by rw [← kv_86.2.1]; exact xu_87.trans (congrArg (vd _) (by omega)))
        have nvb := hTV pz hgx.2
        refine r_i2l hx hb ⟨(by omega), (by omega)⟩ dX9_factor_192 ?_
        refine rLast Cx hW hL (k := qF) (lr_l lqF) lqF.1 (by decide) (by omega) (by omega) dX9_factor_193 (fun H locs hW hL => ?_)
        have F_90 : Fr S (uL u_12 qF 0 r_89) (pEx (dn + 1) (dn + 1) dn) := F_14.L (pEx_y (by omega))
        have F_91 : Fr S (uL u_12 qF 0 r_89) pR3 := F_15.L (lr_R lqF)
        have i_92 : cX G (uL u_12 qF 0 r_89) 0 0 0 := iu_12.L ⟨by omega, by omega⟩
        refine lv_aload_n hx hb dX9_factor_194 rfl (lv_at hl 2 rfl) ?_
        refine lv_dup hx hb dX9_factor_195 rfl ?_
        refine g_X9_89 Cx hW (k := 11) (by decide) rfl (v := S.1 11 13) ((uL_f).trans (((fu_12 11 (p1_no (tau_ne (rfl : tau 11 = .inl 9) lqF.1 (fun h => by cases h)))).1 13).trans (uF_ne (fun h => absurd h.2 (by decide))))) dX9_factor_196 ?_
        refine lv_iconst (v := iv 1) hx hb dX9_factor_199 (by decide) ?_
        refine r_iadd hx hb dX9_factor_200 ?_
        refine p_X9_89 Cx hW hL (k := 11) (by decide) rfl dX9_factor_201 (fun H locs hW hL => ?_)
        have F_93 : Fr S (uF (uL u_12 qF 0 r_89) 11 13 ((S.1 11 13) + 1)) (pEx (dn + 1) (dn + 1) dn) := F_90.F (pEx_y (by omega))
        have F_94 : Fr S (uF (uL u_12 qF 0 r_89) 11 13 ((S.1 11 13) + 1)) pR3 := F_91.F rfl
        have i_95 : cX G (uF (uL u_12 qF 0 r_89) 11 13 ((S.1 11 13) + 1)) 0 0 0 := i_92.F rfl rfl (show (-2147483648) ≤ (S.1 11 13) + 1 ∧ (S.1 11 13) + 1 ≤ 2147483647 from ⟨by omega, by omega⟩)
        refine lv_iconst (v := iv 1) hx hb dX9_factor_204 (by decide) ?_
        have q_96 : 0 ≤ S.1 11 10 ∧ S.1 11 10 ≤ 8 := hI.fi 11 10 9 (by decide) rfl
        have lk_97 : (uF (uL u_12 qF 0 r_89) 11 13 ((S.1 11 13) + 1)).1 11 10 = S.1 11 10 := (uF_ne (fun h => absurd h.2 (by decide))).trans ((uL_f).trans (((fu_12 11 (p1_no (tau_ne (rfl : tau 11 = .inl 9) lqF.1 (fun h => by cases h)))).1 10).trans (uF_ne (fun h => absurd h.2 (by decide)))))
        have q_98 : 0 ≤ S.1 11 11 ∧ S.1 11 11 ≤ 12 := hI.fi 11 11 9 (by decide) rfl
        have lk_99 : (uF (uL u_12 qF 0 r_89) 11 13 ((S.1 11 13) + 1)).1 11 11 = S.1 11 11 := (uF_ne (fun h => absurd h.2 (by decide))).trans ((uL_f).trans (((fu_12 11 (p1_no (tau_ne (rfl : tau 11 = .inl 9) lqF.1 (fun h => by cases h)))).1 11).trans (uF_ne (fun h => absurd h.2 (by decide)))))
        have lk_100 : (uF (uL u_12 qF 0 r_89) 11 13 ((S.1 11 13) + 1)).1 11 12 = (S.1 11 12) + 1 := (uF_ne (fun h => absurd h.2 (by decide))).trans ((uL_f).trans (((fu_12 11 (p1_no (tau_ne (rfl : tau 11 = .inl 9) lqF.1 (fun h => by cases h)))).1 12).trans (uF_on)))
        have lk_101 : (uF (uL u_12 qF 0 r_89) 11 13 ((S.1 11 13) + 1)).1 11 13 = (S.1 11 13) + 1 := uF_on
        have q_102 : 0 ≤ S.1 11 14 ∧ S.1 11 14 ≤ 7 := hI.fi 11 14 9 (by decide) rfl
        have lk_103 : (uF (uL u_12 qF 0 r_89) 11 13 ((S.1 11 13) + 1)).1 11 14 = S.1 11 14 := (uF_ne (fun h => absurd h.2 (by decide))).trans ((uL_f).trans (((fu_12 11 (p1_no (tau_ne (rfl : tau 11 = .inl 9) lqF.1 (fun h => by cases h)))).1 14).trans (uF_ne (fun h => absurd h.2 (by decide)))))
        have q_104 : 0 ≤ S.1 11 9 ∧ S.1 11 9 ≤ 128 := hI.fi 11 9 9 (by decide) rfl
        have lk_105 : (uF (uL u_12 qF 0 r_89) 11 13 ((S.1 11 13) + 1)).1 11 9 = S.1 11 9 := (uF_ne (fun h => absurd h.2 (by decide))).trans ((uL_f).trans (((fu_12 11 (p1_no (tau_ne (rfl : tau 11 = .inl 9) lqF.1 (fun h => by cases h)))).1 9).trans (uF_ne (fun h => absurd h.2 (by decide)))))
        have nr_106 : NRc N (uF (uL u_12 qF 0 r_89) 11 13 ((S.1 11 13) + 1)) := hN.of (by omega) (fun j => (F_94 16 rfl).2.2.1 j) (fun j => (F_94 17 rfl).2.1 j) (fun j => (F_94 18 rfl).2.1 j)
        exact sZret Cx hr hlk hW hL (by omega) ⟨i_95, F_93, ⟨⟨⟨(fun i => ((fu_12 11 (p1_no (tau_ne (rfl : tau 11 = .inl 9) lqF.1 (fun h => by cases h)))).2.2.2 i)), (fun h => absurd h (by decide))⟩, by omega, by omega, by omega, by omega⟩, (fun _ => ⟨(cst r_89), (by rw [show (uF (uL u_12 qF 0 r_89) 11 13 ((S.1 11 13) + 1)).1 11 12 = S.1 11 12 + 1 by omega, eF_num (by omega) hgx.2, hgx.1, nv]), (veq_u0 (veq_tr (fun j a b => ((Fr.rf : Fr u_12 u_12 (p1 11)) qF (p1_no (tau_ne lqF.1 (rfl : tau 11 = .inl 9) (fun h => by cases h)))).2.2.1 j) xu_12)), (vb9_cst (by omega)), ⟨by omega, by omega⟩, (by omega), (by omega), nr_106⟩), (fun h => absurd h (by decide))⟩⟩ dX9_factor_205
      · refine lv_aload_n hx hb dX9_factor_89 rfl (lv_at hl 2 rfl) ?_
        refine lv_bipush (v := iv 7) hx hb dX9_factor_90 (by decide) ?_
        refine lv_aload_n hx hb dX9_factor_92 rfl (lv_at hl 2 rfl) ?_
        refine g_X9_89 Cx hW (k := 11) (by decide) rfl (v := S.1 11 13) (uF_ne (fun h => absurd h.2 (by decide))) dX9_factor_93 ?_
        have lk_107 : (uF S 11 12 ((S.1 11 12) + 1)).1 11 13 = S.1 11 13 := uF_ne (fun h => absurd h.2 (by decide))
        have q_108 : 0 ≤ S.1 11 9 ∧ S.1 11 9 ≤ 128 := hI.fi 11 9 9 (by decide) rfl
        have lk_109 : (uF S 11 12 ((S.1 11 12) + 1)).1 11 9 = S.1 11 9 := uF_ne (fun h => absurd h.2 (by decide))
        have q_110 : 0 ≤ S.1 11 10 ∧ S.1 11 10 ≤ 8 := hI.fi 11 10 9 (by decide) rfl
        have lk_111 : (uF S 11 12 ((S.1 11 12) + 1)).1 11 10 = S.1 11 10 := uF_ne (fun h => absurd h.2 (by decide))
        have q_112 : 0 ≤ S.1 11 11 ∧ S.1 11 11 ≤ 12 := hI.fi 11 11 9 (by decide) rfl
        have lk_113 : (uF S 11 12 ((S.1 11 12) + 1)).1 11 11 = S.1 11 11 := uF_ne (fun h => absurd h.2 (by decide))
        have lk_114 : (uF S 11 12 ((S.1 11 12) + 1)).1 11 12 = (S.1 11 12) + 1 := uF_on
        refine sBi (sV (As := [.int (iv 7), .int (iv (S.1 11 13))]) (rest := []) (k := 11) Cx (e_X9_fail l G (uF S 11 12 ((S.1 11 12) + 1)) (k := 7) (tk := S.1 11 13) i_10 (by omega) (by omega)) (c_X9_132 Cx rfl rfl (rmk_ok (by omega) (by decide))) hW (by decide) rfl rfl rfl hl.1 rfl (Nat.le_of_ble_eq_true rfl) dX9_factor_96 ⟨Nat.le_of_ble_eq_true rfl, Nat.le_of_ble_eq_true rfl⟩) hL (fun r_117 u_115 H locs k_116 hW hL => ?_)
        obtain ⟨iu_115, fu_115, xu_115⟩ := k_116
        have F_118 := F_8.trans (fu_115.to (p1_sub (pEx_y (by omega))))
        have F_119 := F_9.trans (fu_115.to (p1_sub rfl))
        have q_120 : 0 ≤ u_115.1 11 10 ∧ u_115.1 11 10 ≤ 8 := iu_115.fi 11 10 9 (by decide) rfl
        have q_121 : 0 ≤ u_115.1 11 11 ∧ u_115.1 11 11 ≤ 12 := iu_115.fi 11 11 9 (by decide) rfl
        have q_122 : (-2147483648) ≤ u_115.1 11 12 ∧ u_115.1 11 12 ≤ 2147483647 := iu_115.fi 11 12 9 (by decide) rfl
        have q_123 : (-2147483648) ≤ u_115.1 11 13 ∧ u_115.1 11 13 ≤ 2147483647 := iu_115.fi 11 13 9 (by decide) rfl
        have q_124 : 0 ≤ u_115.1 11 14 ∧ u_115.1 11 14 ≤ 7 := iu_115.fi 11 14 9 (by decide) rfl
        have q_125 : 0 ≤ u_115.1 11 9 ∧ u_115.1 11 9 ≤ 128 := iu_115.fi 11 9 9 (by decide) rfl
        exact sZret Cx hr hlk hW hL (by omega) ⟨iu_115, F_118, ⟨⟨⟨(fun i => (xu_115.2.2.2.2.2.2.2 i)), (fun _ => by first | omega | exact xu_115.1.1.2 (by omega))⟩, by omega, by omega, by omega, by omega⟩, (fun h => absurd h (by omega)), (fun _ => (eF_much (by omega)))⟩⟩ dX9_factor_99
    · refine lv_aload_n hx hb dX9_factor_35 rfl (lv_at hl 2 rfl) ?_
      refine lv_aload_n hx hb dX9_factor_36 rfl (lv_at hl 2 rfl) ?_
      refine g_X9_14 Cx hW (k := 11) (by decide) rfl (v := .ref (G.2.2.1 + 12)) (rf_11_0 hI) dX9_factor_37 ?_
      refine lv_aload_n hx hb dX9_factor_40 rfl (lv_at hl 2 rfl) ?_
      refine g_X9_89 Cx hW (k := 11) (by decide) rfl (v := S.1 11 13) rfl dX9_factor_41 ?_
      refine sBl (sV (As := [.int (iv (S.1 11 13))]) (rest := [.ref (G.2.2.1 + 11)]) (k := 12) Cx (s_X8_value l G S (k := S.1 11 13) hI (by omega)) (c_X9_124 Cx rfl rfl (rmk_ok (by omega) (by decide))) hW (by decide) rfl rfl rfl hl.1 rfl (Nat.le_of_ble_eq_true rfl) dX9_factor_44 ⟨Nat.le_of_ble_eq_true rfl, Nat.le_of_ble_eq_true rfl⟩) hL (fun r_128 u_126 H locs k_127 hW hL => ?_)
      obtain ⟨eu_126, xu_126⟩ := k_127
      rw [eu_126] at hW
      have v0 : r_128 = v pz := (by rw [← hkv.2.1]; exact xu_126.1.trans (congrArg (vd S) (by omega)))
      have q_129 : 0 ≤ S.1 11 9 ∧ S.1 11 9 ≤ 128 := hI.fi 11 9 9 (by decide) rfl
      refine sBi (sV (As := [.long (jv r_128)]) (rest := []) (k := 11) Cx (e_X9_find l G S (nm := r_128) hI (by omega)) (c_X9_128 Cx rfl rfl (rmk_ok (by omega) (by decide))) hW (by decide) rfl rfl rfl hl.1 rfl (Nat.le_of_ble_eq_true rfl) dX9_factor_47 ⟨Nat.le_of_ble_eq_true rfl, Nat.le_of_ble_eq_true rfl⟩) hL (fun r_132 u_130 H locs k_131 hW hL => ?_)
      obtain ⟨eu_130, xu_130⟩ := k_131
      rw [eu_130] at hW
      have f0 : r_132 = eFind N (v pz) := (by rw [hN.find, ← v0]; exact xu_130.2)
      refine lv_istore_n (lv' := [(3, .int (iv r_132)), (2, .int (iv r_5)), (0, .ref (G.2.2.1 + 11)), (1, .int (iv dd))]) hx hb dX9_factor_50 rfl hl (by decide) rfl (fun ls hl => ?_)
      refine lv_aload_n hx hb dX9_factor_51 rfl (lv_at hl 2 rfl) ?_
      refine lv_iload_n hx hb dX9_factor_52 rfl (lv_at hl 0 rfl) ?_
      refine sBi (sV (As := [.int (iv r_132)]) (rest := []) (k := 11) Cx (e_X9_canBeFactor l G S (s0 := r_132) hI (by omega) (by omega)) (c_X9_221 Cx rfl rfl (rmk_ok (by omega) (by decide))) hW (by decide) rfl rfl rfl hl.1 rfl (Nat.le_of_ble_eq_true rfl) dX9_factor_53 ⟨Nat.le_of_ble_eq_true rfl, Nat.le_of_ble_eq_true rfl⟩) hL (fun r_135 u_133 H locs k_134 hW hL => ?_)
      obtain ⟨eu_133, xu_133⟩ := k_134
      rw [eu_133] at hW
      refine r_if_ne (tgt := 69) hx hb ⟨(by omega), (by omega)⟩ dX9_factor_56 (by decide) (fun c_136 => ?_) (fun c_136 => ?_)
      · have ek : kd S (S.1 11 13 + 1) = k (pz + 1) := (by rw [hkv.1, hat])
        have en : Hd (0 ≤ r_132 → N.2.2.1 r_132 0 = fc S r_132 0) := (fun z => (hN.2.2 r_132 z (by omega)).1)
        have hcb : Hd ((0 ≤ r_132 ∧ N.2.2.1 r_132 0 = 2 ∧ k (pz + 1) ≠ 17) ∨ (0 ≤ r_132 ∧ (N.2.2.1 r_132 0 = 7 ∨ N.2.2.1 r_132 0 = 8))) := (by have z := xu_133.2.1 (by omega); rw [ek] at z; rcases z with z | z; (exact .inl ⟨z.1, (en z.1).trans z.2.1, z.2.2⟩); (exact .inr ⟨z.1, by rw [en z.1]; exact z.2⟩))
        have hcs : 0 ≤ r_132 := (by rcases hcb with z | z; (exact z.1); (exact z.1))
        refine lv_aload_n hx hb dX9_factor_69 rfl (lv_at hl 2 rfl) ?_
        refine lv_dup hx hb dX9_factor_70 rfl ?_
        have q_137 : (-2147483648) ≤ S.1 11 12 ∧ S.1 11 12 ≤ 2147483647 := hI.fi 11 12 9 (by decide) rfl
        refine g_X9_86 Cx hW (k := 11) (by decide) rfl (v := S.1 11 12) rfl dX9_factor_71 ?_
        refine lv_iconst (v := iv 1) hx hb dX9_factor_74 (by decide) ?_
        refine r_iadd hx hb dX9_factor_75 ?_
        refine p_X9_86 Cx hW hL (k := 11) (by decide) rfl dX9_factor_76 (fun H locs hW hL => ?_)
        have F_138 : Fr S (uF S 11 12 ((S.1 11 12) + 1)) (pEx (dn + 1) (dn + 1) dn) := (Fr.rf : Fr S S (pEx (dn + 1) (dn + 1) dn)).F (pEx_y (by omega))
        have F_139 : Fr S (uF S 11 12 ((S.1 11 12) + 1)) pR3 := (Fr.rf : Fr S S pR3).F rfl
        have i_140 : cX G (uF S 11 12 ((S.1 11 12) + 1)) 0 0 0 := hI.F rfl rfl (show (-2147483648) ≤ (S.1 11 12) + 1 ∧ (S.1 11 12) + 1 ≤ 2147483647 from ⟨by omega, by omega⟩)
        refine lv_aload_n hx hb dX9_factor_79 rfl (lv_at hl 2 rfl) ?_
        refine g_X9_86 Cx hW (k := 11) (by decide) rfl (v := (S.1 11 12) + 1) uF_on dX9_factor_80 ?_
        refine lv_sipush (v := iv 20000) hx hb dX9_factor_83 (by decide) ?_
        refine r_icmp_le (tgt := 100) hx hb ⟨(by omega), (by omega)⟩ ⟨(by omega), (by omega)⟩ dX9_factor_86 (by decide) (fun c_141 => ?_) (fun c_141 => ?_)
        · refine lv_aload_n hx hb dX9_factor_100 rfl (lv_at hl 2 rfl) ?_
          refine g_X9_37 Cx hW (k := 11) (by decide) rfl (v := .ref (G.2.2.1 + 83)) (rf_11_6 i_140) dX9_factor_101 ?_
          refine lv_iload_n hx hb dX9_factor_104 rfl (lv_at hl 3 rfl) ?_
          refine rAald Cx hW (k := 83) (by decide) rfl (by decide) (by omega) (by omega) (r2_83f i_140 hqF (by omega) (by omega)) dX9_factor_105 ?_
          refine lv_lconst (v := jv 0) hx hb dX9_factor_106 (by decide) ?_
          refine sBv (sSt (As := [.ref (G.2.2.1 + qF), .long (jv 0)]) (rest := []) Cx (e_J7_fill l G (uF S 11 12 ((S.1 11 12) + 1)) (qa := qF) i_140 lqF) (c_X9_224 Cx rfl rfl (rmk_ok (by omega) (by decide))) hW rfl hl.1 rfl (Nat.le_of_ble_eq_true rfl) dX9_factor_107 ⟨Nat.le_of_ble_eq_true rfl, Nat.le_of_ble_eq_true rfl⟩) hL (fun u_142 H locs k_143 hW hL => ?_)
          obtain ⟨iu_142, fu_142, xu_142⟩ := k_143
          have F_144 := F_138.trans (fu_142.to (p1_sub (pEx_y (by omega))))
          have F_145 := F_139.trans (fu_142.to (p1_sub (lr_R lqF)))
          refine lv_iload_n hx hb dX9_factor_110 rfl (lv_at hl 1 rfl) ?_
          by_cases c_146 : r_5 = 2
          · refine lv_lookup (off := 41) (tgt := 152) hx hb dX9_factor_111 (by decide) (by rw [c_146]; decide) (by decide) ?_
            have hgx : Hd ((k (pz + 1) = 17 ∧ ogXs k (pz + 1 + 1) = some q) ∨ (k (pz + 1) ≠ 17 ∧ q = pz + 1)) := (by have gi := ogF_i hgf; rcases gi with g | g | g | g | g; (exfalso; have g1 := g.1; omega); (exfalso; have g1 := g.1; omega); (exfalso; have g1 := g.1; omega); (exfalso; have g1 := g.1; omega); (exact g.2))
            refine lv_aload_n hx hb dX9_factor_152 rfl (lv_at hl 2 rfl) ?_
            refine lv_iload_n hx hb dX9_factor_153 rfl (lv_at hl 3 rfl) ?_
            refine lv_iload_n hx hb dX9_factor_154 rfl (lv_at hl 0 rfl) ?_
            have q_147 : 0 ≤ S.1 11 10 ∧ S.1 11 10 ≤ 8 := hI.fi 11 10 9 (by decide) rfl
            have lk_148 : u_142.1 11 10 = S.1 11 10 := ((fu_142 11 (p1_no (tau_ne (rfl : tau 11 = .inl 9) lqF.1 (fun h => by cases h)))).1 10).trans (uF_ne (fun h => absurd h.2 (by decide)))
            have q_149 : 0 ≤ S.1 11 11 ∧ S.1 11 11 ≤ 12 := hI.fi 11 11 9 (by decide) rfl
            have lk_150 : u_142.1 11 11 = S.1 11 11 := ((fu_142 11 (p1_no (tau_ne (rfl : tau 11 = .inl 9) lqF.1 (fun h => by cases h)))).1 11).trans (uF_ne (fun h => absurd h.2 (by decide)))
            have lk_151 : u_142.1 11 12 = (S.1 11 12) + 1 := ((fu_142 11 (p1_no (tau_ne (rfl : tau 11 = .inl 9) lqF.1 (fun h => by cases h)))).1 12).trans (uF_on)
            have lk_152 : u_142.1 11 13 = S.1 11 13 := ((fu_142 11 (p1_no (tau_ne (rfl : tau 11 = .inl 9) lqF.1 (fun h => by cases h)))).1 13).trans (uF_ne (fun h => absurd h.2 (by decide)))
            have q_153 : 0 ≤ S.1 11 14 ∧ S.1 11 14 ≤ 7 := hI.fi 11 14 9 (by decide) rfl
            have lk_154 : u_142.1 11 14 = S.1 11 14 := ((fu_142 11 (p1_no (tau_ne (rfl : tau 11 = .inl 9) lqF.1 (fun h => by cases h)))).1 14).trans (uF_ne (fun h => absurd h.2 (by decide)))
            have lk_155 : u_142.1 11 9 = S.1 11 9 := ((fu_142 11 (p1_no (tau_ne (rfl : tau 11 = .inl 9) lqF.1 (fun h => by cases h)))).1 9).trans (uF_ne (fun h => absurd h.2 (by decide)))
            have nr_156 : NRc N u_142 := hN.of (by omega) (fun j => (F_145 16 rfl).2.2.1 j) (fun j => (F_145 17 rfl).2.1 j) (fun j => (F_145 18 rfl).2.1 j)
            have kv_157 : KV u_142 k v T := hkv.fr F_144 (pEx_n (by omega)) (pEx_n (by omega)) (pEx_n (by omega))
            refine sBi (sV (As := [.int (iv dd), .int (iv r_132)]) (rest := []) (k := 11) Cx (e_X9_named l G u_142 (dd := dd) (s0 := r_132) (N := N) (k := k) (v := v) (T := T) (pz := pz) (q := q) (dn := dn) (qF := qF) iu_142 (by omega) nr_156 hK hTV kv_157 (by omega) (by omega) (by omega) (by omega) (by omega) (by omega) (by omega) f0.symm (by rcases hcb with z | z; (exact .inl z.2); (exact .inr z.2)) hgx (veq_tr (fun j a b => ((Fr.rf : Fr u_142 u_142 (p1 11)) qF (p1_no (tau_ne lqF.1 (rfl : tau 11 = .inl 9) (fun h => by cases h)))).2.2.1 j) xu_142)) (c_X9_230 Cx rfl rfl (rmk_ok (by omega) (by decide))) hW (by decide) rfl rfl rfl hl.1 rfl (Nat.le_of_ble_eq_true rfl) dX9_factor_155 ⟨Nat.le_of_ble_eq_true rfl, Nat.le_of_ble_eq_true rfl⟩) hL (fun r_160 u_158 H locs k_159 hW hL => ?_)
            obtain ⟨iu_158, fu_158, xu_158⟩ := k_159
            have F_161 := F_144.trans (fu_158.to (pl_s (pEx_y (by omega)) (pl_s (pEx_y (by omega)) pl_nil)))
            have F_162 := F_145.trans (fu_158.to (pl_s rfl (pl_s (lr_R lqF) pl_nil)))
            have yu_158 := xu_158.1.2
            have q_163 : 0 ≤ u_158.1 11 10 ∧ u_158.1 11 10 ≤ 8 := iu_158.fi 11 10 9 (by decide) rfl
            have q_164 : 0 ≤ u_158.1 11 11 ∧ u_158.1 11 11 ≤ 12 := iu_158.fi 11 11 9 (by decide) rfl
            have q_165 : (-2147483648) ≤ u_158.1 11 12 ∧ u_158.1 11 12 ≤ 2147483647 := iu_158.fi 11 12 9 (by decide) rfl
            have q_166 : (-2147483648) ≤ u_158.1 11 13 ∧ u_158.1 11 13 ≤ 2147483647 := iu_158.fi 11 13 9 (by decide) rfl
            have q_167 : 0 ≤ u_158.1 11 14 ∧ u_158.1 11 14 ≤ 7 := iu_158.fi 11 14 9 (by decide) rfl
            have q_168 : 0 ≤ u_158.1 11 9 ∧ u_158.1 11 9 ≤ 128 := iu_158.fi 11 9 9 (by decide) rfl
            exact sZret Cx hr hlk hW hL (by omega) ⟨iu_158, F_161, (xu_158.cg (by rw [show u_142.1 11 12 = S.1 11 12 + 1 by omega]; exact (eF_nam (by omega) (by omega)).symm) (fun i => ((fu_142 11 (p1_no (tau_ne (rfl : tau 11 = .inl 9) lqF.1 (fun h => by cases h)))).2.2.2 i)) (by omega) (by omega))⟩ dX9_factor_158
          by_cases c_169 : r_5 = 11
          · refine lv_lookup (off := 60) (tgt := 171) hx hb dX9_factor_111 (by decide) (by rw [c_169]; decide) (by decide) ?_
            exfalso; omega
          by_cases c_170 : r_5 = 19
          · refine lv_lookup (off := 54) (tgt := 165) hx hb dX9_factor_111 (by decide) (by rw [c_170]; decide) (by decide) ?_
            exfalso; omega
          by_cases c_171 : r_5 = 22
          · refine lv_lookup (off := 48) (tgt := 159) hx hb dX9_factor_111 (by decide) (by rw [c_171]; decide) (by decide) ?_
            exfalso; omega
          refine lv_lookup (off := 66) (tgt := 177) hx hb dX9_factor_111 (by decide) (by rw [iv_toInt ⟨(by omega), (by omega)⟩]; exact lk_out (by simp [List.forall_mem_cons]; omega)) (by decide) ?_
          exfalso; omega
        · refine lv_aload_n hx hb dX9_factor_89 rfl (lv_at hl 2 rfl) ?_
          refine lv_bipush (v := iv 7) hx hb dX9_factor_90 (by decide) ?_
          refine lv_aload_n hx hb dX9_factor_92 rfl (lv_at hl 2 rfl) ?_
          refine g_X9_89 Cx hW (k := 11) (by decide) rfl (v := S.1 11 13) (uF_ne (fun h => absurd h.2 (by decide))) dX9_factor_93 ?_
          have lk_172 : (uF S 11 12 ((S.1 11 12) + 1)).1 11 13 = S.1 11 13 := uF_ne (fun h => absurd h.2 (by decide))
          have lk_173 : (uF S 11 12 ((S.1 11 12) + 1)).1 11 9 = S.1 11 9 := uF_ne (fun h => absurd h.2 (by decide))
          have q_174 : 0 ≤ S.1 11 10 ∧ S.1 11 10 ≤ 8 := hI.fi 11 10 9 (by decide) rfl
          have lk_175 : (uF S 11 12 ((S.1 11 12) + 1)).1 11 10 = S.1 11 10 := uF_ne (fun h => absurd h.2 (by decide))
          have q_176 : 0 ≤ S.1 11 11 ∧ S.1 11 11 ≤ 12 := hI.fi 11 11 9 (by decide) rfl
          have lk_177 : (uF S 11 12 ((S.1 11 12) + 1)).1 11 11 = S.1 11 11 := uF_ne (fun h => absurd h.2 (by decide))
          have lk_178 : (uF S 11 12 ((S.1 11 12) + 1)).1 11 12 = (S.1 11 12) + 1 := uF_on
          refine sBi (sV (As := [.int (iv 7), .int (iv (S.1 11 13))]) (rest := []) (k := 11) Cx (e_X9_fail l G (uF S 11 12 ((S.1 11 12) + 1)) (k := 7) (tk := S.1 11 13) i_140 (by omega) (by omega)) (c_X9_132 Cx rfl rfl (rmk_ok (by omega) (by decide))) hW (by decide) rfl rfl rfl hl.1 rfl (Nat.le_of_ble_eq_true rfl) dX9_factor_96 ⟨Nat.le_of_ble_eq_true rfl, Nat.le_of_ble_eq_true rfl⟩) hL (fun r_181 u_179 H locs k_180 hW hL => ?_)
          obtain ⟨iu_179, fu_179, xu_179⟩ := k_180
          have F_182 := F_138.trans (fu_179.to (p1_sub (pEx_y (by omega))))
          have F_183 := F_139.trans (fu_179.to (p1_sub rfl))
          have q_184 : 0 ≤ u_179.1 11 10 ∧ u_179.1 11 10 ≤ 8 := iu_179.fi 11 10 9 (by decide) rfl
          have q_185 : 0 ≤ u_179.1 11 11 ∧ u_179.1 11 11 ≤ 12 := iu_179.fi 11 11 9 (by decide) rfl
          have q_186 : (-2147483648) ≤ u_179.1 11 12 ∧ u_179.1 11 12 ≤ 2147483647 := iu_179.fi 11 12 9 (by decide) rfl
          have q_187 : (-2147483648) ≤ u_179.1 11 13 ∧ u_179.1 11 13 ≤ 2147483647 := iu_179.fi 11 13 9 (by decide) rfl
          have q_188 : 0 ≤ u_179.1 11 14 ∧ u_179.1 11 14 ≤ 7 := iu_179.fi 11 14 9 (by decide) rfl
          have q_189 : 0 ≤ u_179.1 11 9 ∧ u_179.1 11 9 ≤ 128 := iu_179.fi 11 9 9 (by decide) rfl
          exact sZret Cx hr hlk hW hL (by omega) ⟨iu_179, F_182, ⟨⟨⟨(fun i => (xu_179.2.2.2.2.2.2.2 i)), (fun _ => by first | omega | exact xu_179.1.1.2 (by omega))⟩, by omega, by omega, by omega, by omega⟩, (fun h => absurd h (by omega)), (fun _ => (eF_much (by omega)))⟩⟩ dX9_factor_99
      · have ek : kd S (S.1 11 13 + 1) = k (pz + 1) := (by rw [hkv.1, hat])
        have en : Hd (0 ≤ r_132 → N.2.2.1 r_132 0 = fc S r_132 0) := (fun z => (hN.2.2 r_132 z (by omega)).1)
        have hcb : Hd (¬ ((0 ≤ r_132 ∧ N.2.2.1 r_132 0 = 2 ∧ k (pz + 1) ≠ 17) ∨ (0 ≤ r_132 ∧ (N.2.2.1 r_132 0 = 7 ∨ N.2.2.1 r_132 0 = 8)))) := (fun z => xu_133.2.2 (by omega) (by rw [ek]; rcases z with z | z; (exact .inl ⟨z.1, (en z.1).symm.trans z.2.1, z.2.2⟩); (exact .inr ⟨z.1, by rw [← en z.1]; exact z.2⟩)))
        refine lv_aload_n hx hb dX9_factor_59 rfl (lv_at hl 2 rfl) ?_
        refine lv_iconst (v := iv 2) hx hb dX9_factor_60 (by decide) ?_
        refine lv_aload_n hx hb dX9_factor_61 rfl (lv_at hl 2 rfl) ?_
        refine g_X9_89 Cx hW (k := 11) (by decide) rfl (v := S.1 11 13) rfl dX9_factor_62 ?_
        have q_190 : 0 ≤ S.1 11 10 ∧ S.1 11 10 ≤ 8 := hI.fi 11 10 9 (by decide) rfl
        have q_191 : 0 ≤ S.1 11 11 ∧ S.1 11 11 ≤ 12 := hI.fi 11 11 9 (by decide) rfl
        have q_192 : (-2147483648) ≤ S.1 11 12 ∧ S.1 11 12 ≤ 2147483647 := hI.fi 11 12 9 (by decide) rfl
        refine sBi (sV (As := [.int (iv 2), .int (iv (S.1 11 13))]) (rest := []) (k := 11) Cx (e_X9_fail l G S (k := 2) (tk := S.1 11 13) hI (by omega) (by omega)) (c_X9_132 Cx rfl rfl (rmk_ok (by omega) (by decide))) hW (by decide) rfl rfl rfl hl.1 rfl (Nat.le_of_ble_eq_true rfl) dX9_factor_65 ⟨Nat.le_of_ble_eq_true rfl, Nat.le_of_ble_eq_true rfl⟩) hL (fun r_195 u_193 H locs k_194 hW hL => ?_)
        obtain ⟨iu_193, fu_193, xu_193⟩ := k_194
        have F_196 := (Fr.rf : Fr S S (pEx (dn + 1) (dn + 1) dn)).trans (fu_193.to (p1_sub (pEx_y (by omega))))
        have F_197 := (Fr.rf : Fr S S pR3).trans (fu_193.to (p1_sub rfl))
        have q_198 : 0 ≤ u_193.1 11 10 ∧ u_193.1 11 10 ≤ 8 := iu_193.fi 11 10 9 (by decide) rfl
        have q_199 : 0 ≤ u_193.1 11 11 ∧ u_193.1 11 11 ≤ 12 := iu_193.fi 11 11 9 (by decide) rfl
        have q_200 : (-2147483648) ≤ u_193.1 11 12 ∧ u_193.1 11 12 ≤ 2147483647 := iu_193.fi 11 12 9 (by decide) rfl
        have q_201 : (-2147483648) ≤ u_193.1 11 13 ∧ u_193.1 11 13 ≤ 2147483647 := iu_193.fi 11 13 9 (by decide) rfl
        have q_202 : 0 ≤ u_193.1 11 14 ∧ u_193.1 11 14 ≤ 7 := iu_193.fi 11 14 9 (by decide) rfl
        have q_203 : 0 ≤ u_193.1 11 9 ∧ u_193.1 11 9 ≤ 128 := iu_193.fi 11 9 9 (by decide) rfl
        exact sZret Cx hr hlk hW hL (by omega) ⟨iu_193, F_196, ⟨⟨⟨(fun i => (xu_193.2.2.2.2.2.2.2 i)), (fun _ => by first | omega | exact xu_193.1.1.2 (by omega))⟩, by omega, by omega, by omega, by omega⟩, (fun h => absurd h (by omega)), (fun _ => (eF_bad (by omega) f0.symm hcb))⟩⟩ dX9_factor_68
  · exfalso; omega
