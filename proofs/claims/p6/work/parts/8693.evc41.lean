/-! Loops of the meaning, and an index in sight -/
theorem RK_F {S u : sS} {k i : Nat} {v : Int} (h : u = uF S k i v) : RK S u := fun j => by rw [h]; rfl
theorem eB {α β : Type} {a : Option α} {f : α → Option β} {y : β} (h : a.bind f = some y) : ∃ x, a = some x ∧ f x = some y := by
  cases a with
  | none => cases h
  | some x => exact ⟨x, rfl, h⟩
abbrev RInc (R : Int → Int → Option sR) : Prop := ∀ lk p y, R lk p = some y → p < y.1
theorem eLn_s {st : Int → Prop} [DecidablePred st] {R : Int → Int → Option sR} {op : Int → (Int → Int) → (Int → Int) → Option (Int → Int)} {m : Nat} {x : sR} : eLn st R op (m + 1) x = if st x.1 then (R x.2.2 (x.1 + 1)).bind (fun y => (op x.1 x.2.1 y.2.1).bind (fun z => eLn st R op m (y.1, z, y.2.2))) else some x := rfl
theorem eLn_le {st : Int → Prop} [DecidablePred st] {R : Int → Int → Option sR} {op : Int → (Int → Int) → (Int → Int) → Option (Int → Int)} (hR : RInc R) : ∀ (m : Nat) (x y : sR), eLn st R op m x = some y → x.1 ≤ y.1 := by
  intro m
  induction m with
  | zero => intro x y h; cases h
  | succ m ih =>
    intro x y h
    rw [eLn_s] at h
    by_cases c : st x.1
    · rw [if_pos c] at h
      obtain ⟨a, h1, h⟩ := eB h; obtain ⟨z, h2, h⟩ := eB h
      have q1 := hR _ _ _ h1; have q2 : a.1 ≤ y.1 := ih (a.1, z, a.2.2) y h; omega
    · rw [if_neg c] at h; cases h; exact Int.le_refl _
theorem eLn_mono {st : Int → Prop} [DecidablePred st] {R : Int → Int → Option sR} {op : Int → (Int → Int) → (Int → Int) → Option (Int → Int)} {T : Int} (hT : ∀ p, st p → p < T) (hR : RInc R) : ∀ (n m : Nat) (x : sR), (T - x.1).toNat + 1 ≤ n → (T - x.1).toNat + 1 ≤ m → eLn st R op n x = eLn st R op m x := by
  intro n
  induction n with
  | zero => intro m x h _; omega
  | succ n ih =>
    intro m x h h'
    cases m with
    | zero => omega
    | succ m =>
      rw [eLn_s, eLn_s]
      by_cases c : st x.1
      · rw [if_pos c, if_pos c]
        cases e : R x.2.2 (x.1 + 1) with
        | none => rfl
        | some y =>
          rw [Option.bind_some, Option.bind_some]
          cases o : op x.1 x.2.1 y.2.1 with
          | none => rfl
          | some z =>
            rw [Option.bind_some, Option.bind_some]
            have h1 := hT _ c; have h2 := hR _ _ _ e
            exact ih m (y.1, z, y.2.2) (show (T - y.1).toNat + 1 ≤ n by omega) (show (T - y.1).toNat + 1 ≤ m by omega)
      · rw [if_neg c, if_neg c]
theorem eL_no {st : Int → Prop} [DecidablePred st] {R : Int → Int → Option sR} {op : Int → (Int → Int) → (Int → Int) → Option (Int → Int)} {T p lk : Int} {V : Int → Int} (c : ¬ st p) : eL T st R op (p, V, lk) = some (p, V, lk) := by
  unfold eL; rw [eLn_s]; exact if_neg c
theorem eL_f1 {st : Int → Prop} [DecidablePred st] {R : Int → Int → Option sR} {op : Int → (Int → Int) → (Int → Int) → Option (Int → Int)} {T p lk : Int} {V : Int → Int} (c : st p) (e : R lk (p + 1) = none) : eL T st R op (p, V, lk) = none := by
  unfold eL; rw [eLn_s, if_pos c]; show (R lk (p + 1)).bind _ = none; rw [e]; rfl
theorem eL_f2 {st : Int → Prop} [DecidablePred st] {R : Int → Int → Option sR} {op : Int → (Int → Int) → (Int → Int) → Option (Int → Int)} {T p lk : Int} {V : Int → Int} {y : sR} (c : st p) (e : R lk (p + 1) = some y) (o : op p V y.2.1 = none) : eL T st R op (p, V, lk) = none := by
  unfold eL; rw [eLn_s, if_pos c]; show (R lk (p + 1)).bind _ = none; rw [e, Option.bind_some]; show (op p V y.2.1).bind _ = none; rw [o]; rfl
theorem eL_so {st : Int → Prop} [DecidablePred st] {R : Int → Int → Option sR} {op : Int → (Int → Int) → (Int → Int) → Option (Int → Int)} {T p lk : Int} {V : Int → Int} {y : sR} {z : Int → Int} (hT : ∀ p, st p → p < T) (hR : RInc R) (c : st p) (e : R lk (p + 1) = some y) (o : op p V y.2.1 = some z) : eL T st R op (p, V, lk) = eL T st R op (y.1, z, y.2.2) := by
  have h1 := hT _ c; have h2 := hR _ _ _ e
  show eLn st R op ((T - p).toNat + 1) (p, V, lk) = eLn st R op ((T - y.1).toNat + 1) (y.1, z, y.2.2)
  rw [eLn_s, if_pos c]; show (R lk (p + 1)).bind _ = _; rw [e, Option.bind_some]; show (op p V y.2.1).bind _ = _; rw [o, Option.bind_some]
  exact eLn_mono hT hR _ _ (y.1, z, y.2.2) (show (T - y.1).toNat + 1 ≤ (T - p).toNat by omega) (show (T - y.1).toNat + 1 ≤ (T - y.1).toNat + 1 by omega)
theorem eL_le {st : Int → Prop} [DecidablePred st] {R : Int → Int → Option sR} {op : Int → (Int → Int) → (Int → Int) → Option (Int → Int)} {T : Int} {x y : sR} (hR : RInc R) (h : eL T st R op x = some y) : x.1 ≤ y.1 := eLn_le hR _ x y h
theorem eP_inc {T : Int} {k : Int → Int} {F : Int → Int → Option sR} (hF : RInc F) : RInc (eP T k F) := fun lk p y h => by
  obtain ⟨a, h1, h2⟩ := eB h
  have q1 := hF _ _ _ h1; have q2 := eL_le hF h2; omega
theorem eU_inc {T : Int} {k : Int → Int} {F : Int → Int → Option sR} (hF : RInc F) : RInc (eU T k F) := fun lk p y h => by
  obtain ⟨a, h1, h2⟩ := eB h
  have q1 := eP_inc hF _ _ _ h1; have q2 := eL_le (eP_inc hF) h2; omega
theorem eSn_s {E : Int → Int → Option sR} {x : Int} {m : Nat} {val lk pos : Int} {acc : Int → Int} : eSn E x (m + 1) val acc lk pos = (E val lk).bind (fun y => if grt (vad acc y.2.1 1) then none else eSn E x m (val + 1) (vad acc y.2.1 1) y.2.2 y.1) := rfl
theorem eSn_le {E : Int → Int → Option sR} {x p0 : Int} (hE : ∀ val lk y, E val lk = some y → p0 ≤ y.1) : ∀ (m : Nat) (val : Int) (acc : Int → Int) (lk pos : Int) (y : sR), p0 ≤ pos → eSn E x m val acc lk pos = some y → p0 ≤ y.1 := by
  intro m
  induction m with
  | zero => intro val acc lk pos y hp h; cases h; exact hp
  | succ m ih =>
    intro val acc lk pos y hp h
    rw [eSn_s] at h
    obtain ⟨a, h1, h⟩ := eB h
    by_cases c : grt (vad acc a.2.1 1)
    · rw [if_pos c] at h; cases h
    · rw [if_neg c] at h; exact ih _ _ _ _ _ (hE _ _ _ h1) h
theorem eI_inc {k v : Int → Int} {N : sN} {p : Int} {y : Int × Int} (h : eI k v N p = some y) : p < y.2 := by
  unfold eI at h
  by_cases c : k p = 3
  · rw [if_pos c] at h; cases h; show p < p + 1; omega
  · rw [if_neg c] at h
    by_cases d : 0 ≤ eFind N (v p) ∧ N.2.2.1 (eFind N (v p)) 0 = 2
    · rw [if_pos d] at h
      by_cases e1 : k (p + 1) = 21
      · rw [if_pos e1] at h; cases h; show p < p + 1 + 1 + 1; omega
      · rw [if_neg e1] at h
        by_cases e2 : k (p + 1) = 22
        · rw [if_pos e2] at h; cases h; show p < p + 1 + 1 + 1; omega
        · rw [if_neg e2] at h; cases h; show p < p + 1; omega
    · rw [if_neg d] at h; cases h
theorem eN_inc {k v : Int → Int} {N : sN} {lk p : Int} {y : sR} (h : eN k v N lk p = some y) : p < y.1 := by
  unfold eN at h
  by_cases c : 0 ≤ eFind N (v p) ∧ N.2.2.1 (eFind N (v p)) 0 = 2
  · rw [if_pos c] at h
    by_cases d : k (p + 1) = 17
    · rw [if_pos d] at h; cases h
    · rw [if_neg d] at h; cases h; show p < p + 1; omega
  · rw [if_neg c] at h
    by_cases c2 : 0 ≤ eFind N (v p) ∧ (N.2.2.1 (eFind N (v p)) 0 = 7 ∨ N.2.2.1 (eFind N (v p)) 0 = 8)
    · rw [if_pos c2] at h
      by_cases d : k (p + 1) = 17
      · rw [if_pos d] at h
        obtain ⟨a, h1, h⟩ := eB h
        have q1 := eI_inc h1
        by_cases d2 : k a.2 = 16
        · rw [if_pos d2] at h
          obtain ⟨b, h2, h⟩ := eB h
          have q2 := eI_inc h2
          split at h
          · cases h; show p < b.2 + 1; omega
          · cases h
        · rw [if_neg d2] at h
          split at h
          · cases h; show p < a.2 + 1; omega
          · cases h
      · rw [if_neg d] at h
        split at h
        · cases h; show p < p + 1; omega
        · cases h
    · rw [if_neg c2] at h; cases h
/-! eF, by its cases -/
section EF
variable {T : Int} {k v : Int → Int} {n : Nat} {N : sN} {lk p : Int}
theorem eF_s : eF T k v (n + 1) N lk p = if 20000 < lk + 1 then none else if k p = 3 then some (p + 1, cst (v p), lk + 1) else if k p = 22 then (eF T k v n N (lk + 1) (p + 1)).bind (fun y => some (y.1, vad (cst 0) y.2.1 (-1), y.2.2)) else if k p = 19 then (eU T k (eF T k v n N) (lk + 1) (p + 1)).bind (fun y => some (y.1 + 1, y.2.1, y.2.2)) else if k p = 11 then (if eFind N (v (p + 1)) = -1 ∧ 0 ≤ eFind N (v (p + 3)) ∧ N.2.2.1 (eFind N (v (p + 3))) 0 = 6 then (eSn (fun val lk => eU T k (eF T k v n (push N (v (p + 1)) val)) lk (p + 5)) 0 (siz N (eFind N (v (p + 3)))).toNat (N.2.2.1 (eFind N (v (p + 3))) 1) (cst 0) (lk + 1) (p + 5)).bind (fun y => some (y.1 + 1, y.2.1, y.2.2)) else none) else eN k v N (lk + 1) p := rfl
end EF
theorem eF_inc {T : Int} {k v : Int → Int} : ∀ (n : Nat) (N : sN), RInc (eF T k v n N) := by
  intro n
  induction n with
  | zero => intro N lk p y h; cases h
  | succ n ih =>
    intro N lk p y h
    rw [eF_s] at h
    by_cases c0 : 20000 < lk + 1
    · rw [if_pos c0] at h; cases h
    rw [if_neg c0] at h
    by_cases c1 : k p = 3
    · rw [if_pos c1] at h; cases h; show p < p + 1; omega
    rw [if_neg c1] at h
    by_cases c2 : k p = 22
    · rw [if_pos c2] at h; obtain ⟨a, h1, h⟩ := eB h; have q := ih N _ _ _ h1; cases h; show p < a.1; omega
    rw [if_neg c2] at h
    by_cases c3 : k p = 19
    · rw [if_pos c3] at h; obtain ⟨a, h1, h⟩ := eB h; have q := eU_inc (ih N) _ _ _ h1; cases h; show p < a.1 + 1; omega
    rw [if_neg c3] at h
    by_cases c4 : k p = 11
    · rw [if_pos c4] at h
      by_cases d : eFind N (v (p + 1)) = -1 ∧ 0 ≤ eFind N (v (p + 3)) ∧ N.2.2.1 (eFind N (v (p + 3))) 0 = 6
      · rw [if_pos d] at h
        obtain ⟨a, h1, h⟩ := eB h
        have q := eSn_le (p0 := p + 5) (fun val lk y h => by have := eU_inc (ih (push N (v (p + 1)) val)) _ _ _ h; omega) _ _ _ _ _ _ (Int.le_refl _) h1
        cases h; show p < a.1 + 1; omega
      · rw [if_neg d] at h; cases h
    rw [if_neg c4] at h; exact eN_inc h
/-! an index in sight -/
theorem siz_push {N : sN} {x w t : Int} (h : t < N.1) : siz (push N x w) t = siz N t := by
  unfold siz
  by_cases c : t < 0
  · rw [if_pos c, if_pos c]
  · rw [if_neg c, if_neg c]
    show (if t = N.1 then _ else N.2.2.1 t 2) - (if t = N.1 then _ else N.2.2.1 t 1) + 1 = _
    rw [if_neg (by omega), if_neg (by omega)]
theorem NK.lt {N : sN} {s q : Int} (hK : NK N) (h0 : 0 ≤ N.1) (s0 : 0 ≤ s) (s1 : s < N.1) (hs : N.2.2.1 s 0 = 7 ∨ N.2.2.1 s 0 = 8) (hq : q = 3 ∨ q = 4) : N.2.2.1 s q < N.1 := by
  rcases (hK.2 s s0 s1).2.2.1 hs q hq with a | a <;> omega
theorem NRc.pushed {N : sN} {S u : sS} {x : Int} (h : NRc N S) (hK : NK N) (hl : LE S u x 2) (hc : N.1 < 128) : NRc (push N x (fc u (S.1 11 9) 1)) u := by
  have e9 := hl.1; have h1 := h.1
  refine ⟨⟨by show N.1 + 1 = _; omega, by show 0 ≤ N.1 + 1; omega, by show N.1 + 1 ≤ 128; omega⟩, fun s a b => ?_, fun s a b => ?_⟩
  · have b : s < N.1 + 1 := b
    show (if s = N.1 then x else N.2.1 s) = _
    rw [hl.2.1 s]
    by_cases c : s = N.1
    · rw [if_pos c, if_pos (by omega)]
    · rw [if_neg c, if_neg (by omega)]; exact h.2.1 s a (by omega)
  · have b : s < N.1 + 1 := b
    by_cases c : s = N.1
    · have f0 : (push N x (fc u (S.1 11 9) 1)).2.2.1 s 0 = 2 := by
        show (if s = N.1 then (if (0 : Int) = 0 then 2 else _) else _) = _
        rw [if_pos c, if_pos rfl]
      have f1 : (push N x (fc u (S.1 11 9) 1)).2.2.1 s 1 = fc u (S.1 11 9) 1 := by
        show (if s = N.1 then (if (1 : Int) = 0 then 2 else if (1 : Int) = 1 then _ else _) else _) = _
        rw [if_pos c, if_neg (by decide), if_pos rfl]
      have g0 : fc u s 0 = 2 := by rw [hl.2.2.2 s 0 (by decide) (by decide), if_pos ⟨by omega, .inl rfl⟩, if_pos rfl]
      exact ⟨f0.trans g0.symm, fun z => absurd (f0.symm.trans z) (by decide), fun _ => f1.trans (by rw [c, h1.1]), fun z => by rw [f0] at z; omega, fun z => by rw [f0] at z; omega, fun z => absurd (f0.symm.trans z) (by decide)⟩
    · have hs := h.2.2 s a (by omega)
      have ef : (push N x (fc u (S.1 11 9) 1)).2.2.1 s = N.2.2.1 s := funext (fun q => if_neg c)
      have eu : ∀ q, 0 ≤ q → q ≤ 5 → fc u s q = fc S s q := fun q q0 q5 => by rw [hl.2.2.2 s q q0 q5, if_neg (by omega)]
      rw [ef, eu 0 (by decide) (by decide), eu 1 (by decide) (by decide), eu 2 (by decide) (by decide), eu 3 (by decide) (by decide), eu 4 (by decide) (by decide), eu 5 (by decide) (by decide)]
      refine ⟨hs.1, hs.2.1, hs.2.2.1, hs.2.2.2.1, hs.2.2.2.2.1, fun z o o0 o1 => ?_⟩
      rw [siz_push (hK.lt h1.2.1 a (by omega) (.inl z) (.inl rfl)), siz_push (hK.lt h1.2.1 a (by omega) (.inl z) (.inr rfl))] at o1
      rw [hl.2.2.1]; exact hs.2.2.2.2.2 z o o0 o1
theorem NRc.low {N : sN} {S u : sS} {x w val s0 : Int} (h : NRc (push N x w) S) (hK : NK N) (h0 : 0 ≤ N.1) (hs0 : s0 = N.1) (e : u = uA S 17 (s0 * 6 + 1) val) : NRc (push N x val) u := by
  have e17 : ∀ s q, 0 ≤ q → q ≤ 5 → fc u s q = if s = N.1 ∧ q = 1 then val else fc S s q := fun s q q0 q5 => by rw [e, hs0, fc_u (by omega) (by omega)]
  have e18 : ∀ j, u.2.1 18 j = S.2.1 18 j := fun j => by rw [e]; exact uA_ne (fun h => absurd h.1 (by decide))
  have e9 : u.1 11 9 = S.1 11 9 := by rw [e]; rfl
  have e16 : ∀ j, u.2.2.1 16 j = S.2.2.1 16 j := fun j => by rw [e]; rfl
  refine ⟨⟨by rw [e9]; exact h.1.1, h.1.2⟩, fun s a b => by rw [e16]; exact h.2.1 s a b, fun s a b => ?_⟩
  have b' : s < N.1 + 1 := b
  have hs := h.2.2 s a b
  by_cases c : s = N.1
  · have f0 : ∀ w, (push N x w).2.2.1 s 0 = 2 := fun w => by
      show (if s = N.1 then (if (0 : Int) = 0 then 2 else _) else _) = _
      rw [if_pos c, if_pos rfl]
    have f1 : (push N x val).2.2.1 s 1 = val := by
      show (if s = N.1 then (if (1 : Int) = 0 then 2 else if (1 : Int) = 1 then _ else _) else _) = _
      rw [if_pos c, if_neg (by decide), if_pos rfl]
    have g0 : fc u s 0 = 2 := by rw [e17 s 0 (by decide) (by decide), if_neg (by omega), ← hs.1]; exact f0 w
    have g1 : fc u s 1 = val := by rw [e17 s 1 (by decide) (by decide), if_pos ⟨c, rfl⟩]
    exact ⟨(f0 val).trans g0.symm, fun z => absurd ((f0 val).symm.trans z) (by decide), fun _ => f1.trans g1.symm, fun z => by rw [f0 val] at z; omega, fun z => by rw [f0 val] at z; omega, fun z => absurd ((f0 val).symm.trans z) (by decide)⟩
  · have ef : ∀ w, (push N x w).2.2.1 s = N.2.2.1 s := fun w => funext (fun q => if_neg c)
    have eu : ∀ q, 0 ≤ q → q ≤ 5 → fc u s q = fc S s q := fun q q0 q5 => by rw [e17 s q q0 q5, if_neg (by omega)]
    rw [ef w] at hs
    rw [ef val, eu 0 (by decide) (by decide), eu 1 (by decide) (by decide), eu 2 (by decide) (by decide), eu 3 (by decide) (by decide), eu 4 (by decide) (by decide), eu 5 (by decide) (by decide)]
    refine ⟨hs.1, hs.2.1, hs.2.2.1, hs.2.2.2.1, hs.2.2.2.2.1, fun z o o0 o1 => ?_⟩
    have l3 := hK.lt (q := 3) h0 a (by omega) (.inl z) (.inl rfl); have l4 := hK.lt (q := 4) h0 a (by omega) (.inl z) (.inr rfl)
    rw [siz_push l3, siz_push l4] at o1
    have q := hs.2.2.2.2.2 z o o0 (by rw [siz_push l3, siz_push l4]; exact o1)
    rw [e18]; exact q
theorem NRc.pop {N : sN} {S u : sS} {x w : Int} (h : NRc (push N x w) S) (hK : NK N) (h0 : 0 ≤ N.1) (e9 : u.1 11 9 = S.1 11 9 - 1) (e16 : ∀ j, u.2.2.1 16 j = S.2.2.1 16 j) (e17 : ∀ j, u.2.1 17 j = S.2.1 17 j) (e18 : ∀ j, u.2.1 18 j = S.2.1 18 j) : NRc N u := by
  have h1 : N.1 + 1 = S.1 11 9 := h.1.1
  have h2 : N.1 + 1 ≤ 128 := h.1.2.2
  refine ⟨⟨by omega, h0, by omega⟩, fun s a b => ?_, fun s a b => ?_⟩
  · have q := h.2.1 s a (show s < N.1 + 1 by omega)
    rw [e16, ← q]; exact (if_neg (by omega)).symm
  · have hs := h.2.2 s a (show s < N.1 + 1 by omega)
    have ef : (push N x w).2.2.1 s = N.2.2.1 s := funext (fun q => if_neg (by omega))
    have eu : ∀ q, fc u s q = fc S s q := fun q => e17 _
    rw [ef] at hs
    rw [eu 0, eu 1, eu 2, eu 3, eu 4, eu 5]
    refine ⟨hs.1, hs.2.1, hs.2.2.1, hs.2.2.2.1, hs.2.2.2.2.1, fun z o o0 o1 => ?_⟩
    have l3 := hK.lt (q := 3) h0 a b (.inl z) (.inl rfl); have l4 := hK.lt (q := 4) h0 a b (.inl z) (.inr rfl)
    have q := hs.2.2.2.2.2 z o o0 (by rw [siz_push l3, siz_push l4]; exact o1)
    rw [e18]; exact q
theorem NK.pushed {N : sN} {x w : Int} (hK : NK N) (h0 : 0 ≤ N.1) (hn : eFind N x = -1) (hw : 0 ≤ w ∧ w ≤ 99999) : NK (push N x w) := by
  have hno : ∀ s, 0 ≤ s → s < N.1 → N.2.1 s ≠ x := by
    rcases eFind_r (x := x) h0 with a | a
    · exact a.2
    · exact absurd a.1 (by omega)
  have ef : ∀ s, s ≠ N.1 → (push N x w).2.2.1 s = N.2.2.1 s := fun s c => funext (fun q => if_neg c)
  refine ⟨fun s t s0 s1 t0 t1 e => ?_, fun s s0 s1 => ?_⟩
  · have s1 : s < N.1 + 1 := s1; have t1 : t < N.1 + 1 := t1
    have e : (if s = N.1 then x else N.2.1 s) = (if t = N.1 then x else N.2.1 t) := e
    by_cases c : s = N.1
    · by_cases d : t = N.1
      · omega
      · rw [if_pos c, if_neg d] at e; exact absurd e.symm (hno t t0 (by omega))
    · by_cases d : t = N.1
      · rw [if_neg c, if_pos d] at e; exact absurd e (hno s s0 (by omega))
      · rw [if_neg c, if_neg d] at e; exact hK.1 s t s0 (by omega) t0 (by omega) e
  · have s1 : s < N.1 + 1 := s1
    by_cases c : s = N.1
    · have f0 : (push N x w).2.2.1 s 0 = 2 := by
        show (if s = N.1 then (if (0 : Int) = 0 then 2 else _) else _) = _
        rw [if_pos c, if_pos rfl]
      have f1 : (push N x w).2.2.1 s 1 = w := by
        show (if s = N.1 then (if (1 : Int) = 0 then 2 else if (1 : Int) = 1 then _ else _) else _) = _
        rw [if_pos c, if_neg (by decide), if_pos rfl]
      rw [f0, f1]
      exact ⟨fun _ => hw, fun z => absurd z (by decide), fun z => by omega, fun z => by omega, fun z => absurd z (by decide), fun z => absurd z (by decide)⟩
    · have hs := hK.2 s s0 (by omega)
      rw [ef s c]
      refine ⟨hs.1, hs.2.1, fun z q hq => ?_, hs.2.2.2.1, fun z o o0 o1 => ?_, fun z => ?_⟩
      · rcases hs.2.2.1 z q hq with a | a
        · exact .inl a
        · refine .inr ⟨a.1, (by show _ < N.1 + 1; omega), ?_⟩
          rw [ef _ (by omega)]; exact a.2.2
      · have l3 := hK.lt (q := 3) h0 s0 (by omega) (.inl z) (.inl rfl); have l4 := hK.lt (q := 4) h0 s0 (by omega) (.inl z) (.inr rfl)
        rw [siz_push l3, siz_push l4] at o1
        exact hs.2.2.2.2.1 z o o0 o1
      · have l3 := hK.lt (q := 3) h0 s0 (by omega) (.inr z) (.inl rfl); have l4 := hK.lt (q := 4) h0 s0 (by omega) (.inr z) (.inr rfl)
        rw [siz_push l3, siz_push l4]; exact hs.2.2.2.2.2 z
/-! sums -/
def eS0 (T : Int) (k v : Int → Int) (n : Nat) (N : sN) (p : Int) : Int → Int → Option sR := fun val lk => eU T k (eF T k v n (push N (v (p + 1)) val)) lk (p + 5)
def eSq (T : Int) (k v : Int → Int) (n : Nat) (N : sN) (p : Int) (m : Nat) (val : Int) (V : Int → Int) (lk pos : Int) : Option sR := (eSn (eS0 T k v n N p) 0 m val V lk pos).bind (fun y => some (y.1 + 1, y.2.1, y.2.2))
def eSm (T : Int) (k v : Int → Int) (n : Nat) (N : sN) (lk p : Int) : Option sR := if eFind N (v (p + 1)) = -1 ∧ 0 ≤ eFind N (v (p + 3)) ∧ N.2.2.1 (eFind N (v (p + 3))) 0 = 6 then eSq T k v n N p (siz N (eFind N (v (p + 3)))).toNat (N.2.2.1 (eFind N (v (p + 3))) 1) (cst 0) lk (p + 5) else none
section ES
variable {T : Int} {k v : Int → Int} {n : Nat} {N : sN} {lk lk' p val hi lo q q1 : Int} {V V1 : Int → Int}
theorem eSq_z (h : hi + 1 = val) : eSq T k v n N p (hi + 1 - val).toNat val V lk q = some (q + 1, V, lk) := by
  rw [show (hi + 1 - val).toNat = 0 by omega]; rfl
theorem eSq_n (h : val ≤ hi) (e : eU T k (eF T k v n (push N (v (p + 1)) val)) lk (p + 5) = none) : eSq T k v n N p (hi + 1 - val).toNat val V lk q = none := by
  unfold eSq; rw [show (hi + 1 - val).toNat = (hi - val).toNat + 1 by omega, eSn_s]; show ((eU T k (eF T k v n (push N (v (p + 1)) val)) lk (p + 5)).bind _).bind _ = none; rw [e]; rfl
theorem eSq_g (h : val ≤ hi) (e : eU T k (eF T k v n (push N (v (p + 1)) val)) lk (p + 5) = some (q1, V1, lk')) (g : grt (vad V V1 1)) : eSq T k v n N p (hi + 1 - val).toNat val V lk q = none := by
  unfold eSq; rw [show (hi + 1 - val).toNat = (hi - val).toNat + 1 by omega, eSn_s]; show ((eU T k (eF T k v n (push N (v (p + 1)) val)) lk (p + 5)).bind _).bind _ = none; rw [e, Option.bind_some, if_pos g]; rfl
theorem eSq_s (h : val ≤ hi) (e : eU T k (eF T k v n (push N (v (p + 1)) val)) lk (p + 5) = some (q1, V1, lk')) (g : ¬ grt (vad V V1 1)) : eSq T k v n N p (hi + 1 - val).toNat val V lk q = eSq T k v n N p (hi + 1 - (val + 1)).toNat (val + 1) (vad V V1 1) lk' q1 := by
  unfold eSq; rw [show (hi + 1 - val).toNat = (hi + 1 - (val + 1)).toNat + 1 by omega, eSn_s]; show ((eU T k (eF T k v n (push N (v (p + 1)) val)) lk (p + 5)).bind _).bind _ = _; rw [e, Option.bind_some, if_neg g]
theorem eSm_n (h : ¬ (eFind N (v (p + 1)) = -1 ∧ 0 ≤ eFind N (v (p + 3)) ∧ N.2.2.1 (eFind N (v (p + 3))) 0 = 6)) : eSm T k v n N lk p = none := if_neg h
theorem eSm_y {s : Int} (h1 : eFind N (v (p + 1)) = -1) (h2 : eFind N (v (p + 3)) = s) (h3 : 0 ≤ s) (h6 : N.2.2.1 s 0 = 6) (hlo : lo = N.2.2.1 s 1) (hhi : hi = N.2.2.1 s 2) (hl : lo ≤ hi) : eSm T k v n N lk p = eSq T k v n N p (hi + 1 - lo).toNat lo (cst 0) lk q1 := by
  unfold eSm; rw [h2, if_pos ⟨h1, h3, h6⟩]
  have e : siz N s = hi + 1 - lo := by unfold siz; rw [if_neg (by omega)]; omega
  rw [e, ← hlo]; unfold eSq; rw [show (hi + 1 - lo).toNat = (hi - lo).toNat + 1 by omega]; rfl
theorem eF_much (h : 20000 < lk + 1) : eF T k v (n + 1) N lk p = none := by rw [eF_s, if_pos h]
theorem eF_num (h : lk + 1 ≤ 20000) (c : k p = 3) : eF T k v (n + 1) N lk p = some (p + 1, cst (v p), lk + 1) := by rw [eF_s, if_neg (by omega), if_pos c]
theorem eF_neg (h : lk + 1 ≤ 20000) (c : k p = 22) : eF T k v (n + 1) N lk p = (eF T k v n N (lk + 1) (p + 1)).bind (fun y => some (y.1, vad (cst 0) y.2.1 (-1), y.2.2)) := by rw [eF_s, if_neg (by omega), if_neg (by omega), if_pos c]
theorem eF_in (h : lk + 1 ≤ 20000) (c : k p = 19) : eF T k v (n + 1) N lk p = (eU T k (eF T k v n N) (lk + 1) (p + 1)).bind (fun y => some (y.1 + 1, y.2.1, y.2.2)) := by rw [eF_s, if_neg (by omega), if_neg (by omega), if_neg (by omega), if_pos c]
theorem eF_sum (h : lk + 1 ≤ 20000) (c : k p = 11) : eF T k v (n + 1) N lk p = eSm T k v n N (lk + 1) p := by rw [eF_s, if_neg (by omega), if_neg (by omega), if_neg (by omega), if_neg (by omega), if_pos c]; rfl
theorem eF_nam (h : lk + 1 ≤ 20000) (c : k p = 2) : eF T k v (n + 1) N lk p = eN k v N (lk + 1) p := by rw [eF_s, if_neg (by omega), if_neg (by omega), if_neg (by omega), if_neg (by omega), if_neg (by omega)]
theorem eF_bad {s : Int} (c : k p = 2) (e : eFind N (v p) = s) (h : ¬ ((0 ≤ s ∧ N.2.2.1 s 0 = 2 ∧ k (p + 1) ≠ 17) ∨ (0 ≤ s ∧ (N.2.2.1 s 0 = 7 ∨ N.2.2.1 s 0 = 8)))) : eF T k v (n + 1) N lk p = none := by
  by_cases d : 20000 < lk + 1
  · exact eF_much d
  · rw [eF_nam (by omega) c]; unfold eN; rw [e]
    by_cases a : 0 ≤ s ∧ N.2.2.1 s 0 = 2
    · rw [if_pos a]
      by_cases b : k (p + 1) = 17
      · rw [if_pos b]
      · exact absurd (.inl ⟨a.1, a.2, b⟩) h
    · rw [if_neg a, if_neg (fun z => h (.inr z))]
end ES
theorem NRc.set6 {N : sN} {S : sS} {x w s : Int} (h : NRc (push N x w) S) (s0 : 0 ≤ s) (s1 : s < N.1) (h6 : N.2.2.1 s 0 = 6) : fc S s 1 = N.2.2.1 s 1 ∧ fc S s 2 = N.2.2.1 s 2 := by
  have hs := (h.2.2 s s0 (show s < N.1 + 1 by omega)).2.1
  have ef : (push N x w).2.2.1 s = N.2.2.1 s := funext (fun q => if_neg (by omega))
  rw [ef] at hs; exact ⟨(hs h6).1.symm, (hs h6).2.symm⟩
theorem vbd_ad {f g h : Int → Int} {t : Int} (hf : vb9 f) (hg : vb9 g) (ht : t = 1 ∨ t = -1) (e : veq h (vad f g t)) : vbd h := fun j a b => by
  rw [e j a b]; have := hf j a b; have := hg j a b; unfold vad; rcases ht with z | z <;> rw [z] <;> omega
theorem hsv_0 {f : Int → Int} (h : ¬ hsv f) (j : Int) (h0 : 1 ≤ j) (h1 : j < 13) : f j = 0 := by
  by_cases q : f j = 0
  · exact q
  · exact absurd (hsv_y h0 h1 q) h
theorem vbd_ml {f g h : Int → Int} (hf : vb9 f) (hg : vb9 g) (hn : ¬ (hsv f ∧ hsv g)) (e : veq h (vml f g)) : vbd h := fun j a b => by
  rw [e j a b]; unfold vml
  by_cases z : j = 0
  · rw [if_pos z]; have := mulb (hf 0 (by decide) (by decide)) (hg 0 (by decide) (by decide)); omega
  · rw [if_neg z]
    have m1 := mulb (hf j a b) (hg 0 (by decide) (by decide)); have m2 := mulb (hf 0 (by decide) (by decide)) (hg j a b)
    by_cases c : hsv f
    · have e2 := hsv_0 (fun y => hn ⟨c, y⟩) j (by omega) b
      rw [e2, Int.mul_zero]; omega
    · have e2 := hsv_0 c j (by omega) b
      rw [e2, Int.zero_mul]; omega
theorem veq_vml {f f' g g' : Int → Int} (h : veq f f') (h' : veq g g') : veq (vml f g) (vml f' g') := fun j a b => by
  unfold vml; rw [h j a b, h' j a b, h 0 (by decide) (by decide), h' 0 (by decide) (by decide)]
theorem EO.cg {S U u : sS} {N : sN} {q r : Int} {X Y : Option sR} {row : Nat} (h : EO U u N q r X row) (e : X = Y) (k : RK S U) (e1 : U.1 11 10 = S.1 11 10) (e2 : U.1 11 11 = S.1 11 11) : EO S u N q r Y row := ⟨⟨⟨fun i => (h.1.1.1 i).trans (k i), h.1.1.2⟩, h.1.2.1, h.1.2.2.1, h.1.2.2.2.1.trans e1, h.1.2.2.2.2.trans e2⟩, e ▸ h.2⟩
theorem ogF_i {T : Int} {k : Int → Int} {n : Nat} {p q : Int} (h : ogF T k (n + 1) p = some q) : (k p = 3 ∧ q = p + 1) ∨ (k p = 22 ∧ ogF T k n (p + 1) = some q) ∨ (k p = 19 ∧ ∃ q1, ogU T k (ogF T k n) (p + 1) = some q1 ∧ k q1 = 20 ∧ q = q1 + 1) ∨ (k p = 11 ∧ ∃ q1, ogU T k (ogF T k n) (p + 5) = some q1 ∧ k q1 = 20 ∧ q = q1 + 1) ∨ (k p = 2 ∧ ((k (p + 1) = 17 ∧ ogXs k (p + 1 + 1) = some q) ∨ (k (p + 1) ≠ 17 ∧ q = p + 1))) := by
  have h : (if k p = 3 then some (p + 1) else if k p = 22 then ogF T k n (p + 1) else if k p = 19 then (ogU T k (ogF T k n) (p + 1)).bind (ogT k 20) else if k p = 11 then (ogT k 2 (p + 1)).bind (fun a => (ogT k 12 a).bind (fun b => (ogT k 2 b).bind (fun c => (ogT k 19 c).bind (fun d => (ogU T k (ogF T k n) d).bind (ogT k 20))))) else if k p = 2 then (if k (p + 1) = 17 then ogXs k (p + 1 + 1) else some (p + 1)) else none) = some q := h
  by_cases c1 : k p = 3
  · rw [if_pos c1] at h; cases h; exact .inl ⟨c1, rfl⟩
  rw [if_neg c1] at h
  by_cases c2 : k p = 22
  · rw [if_pos c2] at h; exact .inr (.inl ⟨c2, h⟩)
  rw [if_neg c2] at h
  by_cases c3 : k p = 19
  · rw [if_pos c3] at h; obtain ⟨x, h1, h2⟩ := ogB h; have := ogT_lt h2; exact .inr (.inr (.inl ⟨c3, x, h1, this.2, this.1⟩))
  rw [if_neg c3] at h
  by_cases c4 : k p = 11
  · rw [if_pos c4] at h
    obtain ⟨a, h1, h⟩ := ogB h; obtain ⟨b, h2, h⟩ := ogB h; obtain ⟨c, h3, h⟩ := ogB h; obtain ⟨d, h4, h⟩ := ogB h; obtain ⟨x, h5, h⟩ := ogB h
    have e1 := ogT_lt h1; have e2 := ogT_lt h2; have e3 := ogT_lt h3; have e4 := ogT_lt h4; have e5 := ogT_lt h
    rw [show d = p + 5 by omega] at h5
    exact .inr (.inr (.inr (.inl ⟨c4, x, h5, e5.2, e5.1⟩)))
  rw [if_neg c4] at h
  by_cases c5 : k p = 2
  · rw [if_pos c5] at h
    by_cases c6 : k (p + 1) = 17
    · rw [if_pos c6] at h; exact .inr (.inr (.inr (.inr ⟨c5, .inl ⟨c6, h⟩⟩)))
    · rw [if_neg c6] at h; cases h; exact .inr (.inr (.inr (.inr ⟨c5, .inr ⟨c6, rfl⟩⟩)))
  · rw [if_neg c5] at h; cases h
theorem ogU_k {T : Int} {k : Int → Int} {n : Nat} {p q : Int} (h : ogU T k (ogF T k n) p = some q) : k p ≠ 0 := by
  obtain ⟨a, h1, _⟩ := ogB h; obtain ⟨b, h2, _⟩ := ogB h1; exact ogF_k h2
theorem ogU_n {T : Int} {k : Int → Int} {n : Nat} {p q : Int} (h : ogU T k (ogF T k n) p = some q) : 1 ≤ n := by
  obtain ⟨a, h1, _⟩ := ogB h; obtain ⟨b, h2, _⟩ := ogB h1
  cases n with
  | zero => cases h2
  | succ n => omega
theorem ogW_ii {T : Int} {st : Int → Prop} [DecidablePred st] {R : Int → Option Int} {p q : Int} (hT : ∀ p, st p → p < T) (hR : ∀ p q, st p → R p = some q → p < q) (c : st p) (h : ogW T st R p = some q) : ∃ x, R p = some x ∧ ogW T st R x = some q := by
  rw [ogW_st hT hR c] at h; exact ogB h
theorem ogW_q {T : Int} {st : Int → Prop} [DecidablePred st] {R : Int → Option Int} {p q : Int} (c : ¬ st p) (h : ogW T st R p = some q) : p = q := by
  rw [ogW_no c] at h; cases h; rfl
theorem oMul_n {a b : Int → Int} (h : hsv a ∧ hsv b) : oMul a b = none := if_pos h
theorem oMul_g {a b : Int → Int} (h : ¬ (hsv a ∧ hsv b)) (g : grt (vml a b)) : oMul a b = none := by unfold oMul; rw [if_neg h, if_pos g]
theorem oMul_s {a b : Int → Int} (h : ¬ (hsv a ∧ hsv b)) (g : ¬ grt (vml a b)) : oMul a b = some (vml a b) := by unfold oMul; rw [if_neg h, if_neg g]
theorem oAdd_g {k : Int → Int} {p t : Int} {a b : Int → Int} (e : (if k p = 21 then (1 : Int) else -1) = t) (g : grt (vad a b t)) : oAdd k p a b = none := by unfold oAdd; rw [e, if_pos g]
theorem oAdd_s {k : Int → Int} {p t : Int} {a b : Int → Int} (e : (if k p = 21 then (1 : Int) else -1) = t) (g : ¬ grt (vad a b t)) : oAdd k p a b = some (vad a b t) := by unfold oAdd; rw [e, if_neg g]
