/-! What a model's text tells, declaration by declaration. sM: names, sets, pars, variables, whole ones, rows, max, looked -/
abbrev sM := sN × Int × Int × Int × Int × Int × Int × Int
def addN (N : sN) (x : Int) (f w : Int → Int) : sN := (N.1 + 1, fun s => if s = N.1 then x else N.2.1 s, fun s q => if s = N.1 then f q else N.2.2.1 s q, fun s o => if s = N.1 then w o else N.2.2.2 s o)
def fct (a b c d e g : Int) : Int → Int := fun q => if q = 0 then a else if q = 1 then b else if q = 2 then c else if q = 3 then d else if q = 4 then e else g
/-- set NAME = NUMBER .. NUMBER ; -/
def eDs (v : Int → Int) (M : sM) (p : Int) : Option (sM × Int) := if eFind M.1 (v (p + 1)) = -1 ∧ v (p + 3) ≤ v (p + 5) ∧ v (p + 5) - v (p + 3) < 12 ∧ M.2.1 < 8 then some ((addN M.1 (v (p + 1)) (fct 6 (v (p + 3)) (v (p + 5)) (-1) (-1) 0) (fun _ => 0), M.2.1 + 1, M.2.2), p + 7) else none
abbrev isS (N : sN) (x : Int) : Prop := 0 ≤ eFind N x ∧ N.2.2.1 (eFind N x) 0 = 6
/-- INDEXES: their sets, and where they end -/
def eIx (k v : Int → Int) (N : sN) (p : Int) : Option (Int × Int × Int) := if k p = 17 then (if isS N (v (p + 1)) then (if k (p + 2) = 16 then (if isS N (v (p + 3)) then some (eFind N (v (p + 1)), eFind N (v (p + 3)), p + 5) else none) else some (eFind N (v (p + 1)), -1, p + 3)) else none) else some (-1, -1, p)
/-- the VALUES from a on: how many, where, what -/
def vst (k : Int → Int) (a : Int) : Int := if k a = 22 then 2 else 1
def vcn (k : Int → Int) : Nat → Int → Int
  | 0, _ => 0
  | m + 1, a => if k (a + vst k a) = 16 then 1 + vcn k m (a + vst k a + 1) else 1
def vct (T : Int) (k : Int → Int) (a : Int) : Int := vcn k ((T - a).toNat + 1) a
def vps (k : Int → Int) (a : Int) : Nat → Int
  | 0 => a
  | i + 1 => vps k a i + vst k (vps k a i) + 1
def vva (k v : Int → Int) (a : Int) : Int := if k a = 22 then -(v (a + 1)) else v a
def vvl (k v : Int → Int) (a o : Int) : Int := vva k v (vps k a o.toNat)
def eDp (T : Int) (k v : Int → Int) (M : sM) (p : Int) : Option (sM × Int) := if eFind M.1 (v (p + 1)) = -1 then (eIx k v M.1 (p + 2)).bind (fun x => (ogVs T k (x.2.2 + 1)).bind (fun b => if vct T k (x.2.2 + 1) = siz M.1 x.1 * siz M.1 x.2.1 ∧ M.2.2.1 < 12 then some ((addN M.1 (v (p + 1)) (fct 7 0 0 x.1 x.2.1 (144 * M.2.2.1)) (vvl k v (x.2.2 + 1)), M.2.1, M.2.2.1 + 1, M.2.2.2), b + 1) else none)) else none
def eDv (k v : Int → Int) (M : sM) (p : Int) : Option (sM × Int) := if eFind M.1 (v (p + 1)) = -1 then (eIx k v M.1 (p + 2)).bind (fun x => if M.2.2.2.1 + siz M.1 x.1 * siz M.1 x.2.1 ≤ 12 then some ((addN M.1 (v (p + 1)) (fct 8 0 0 x.1 x.2.1 (M.2.2.2.1 + 1)) (fun _ => 0), M.2.1, M.2.2.1, M.2.2.2.1 + siz M.1 x.1 * siz M.1 x.2.1, M.2.2.2.2.1 + (if k x.2.2 = 9 then siz M.1 x.1 * siz M.1 x.2.1 else 0), M.2.2.2.2.2), x.2.2 + (if k x.2.2 = 9 then 2 else 1)) else none) else none
def eDg (T : Int) (k v : Int → Int) (M : sM) (p : Int) : Option (sM × Int) := (eU T k (eF T k v 30 M.1) M.2.2.2.2.2.2.2 (p + 1)).bind (fun y => some ((M.1, M.2.1, M.2.2.1, M.2.2.2.1, M.2.2.2.2.1, M.2.2.2.2.2.1, (if k p = 4 then 1 else 0), y.2.2), y.1 + 1))
/-- one row: how many then, looked, where it ends -/
def eRo (T : Int) (k v : Int → Int) (N : sN) (m lk p : Int) : Option (Int × Int × Int) := (eU T k (eF T k v 30 N) lk p).bind (fun a => (eU T k (eF T k v 30 N) a.2.2 (a.1 + 1)).bind (fun b => if grt (vad a.2.1 b.2.1 (-1)) ∨ 16 < m + (if k a.1 = 13 then 2 else 1) then none else some (m + (if k a.1 = 13 then 2 else 1), b.2.2, b.1 + 1)))
def eRn (T : Int) (k v : Int → Int) (N : sN) (x p : Int) : Nat → Int → Int → Int → Int → Option (Int × Int × Int)
  | 0, _, m, lk, pos => some (m, lk, pos)
  | c + 1, val, m, lk, _ => (eRo T k v (push N x val) m lk p).bind (fun y => eRn T k v N x p c (val + 1) y.1 y.2.1 y.2.2)
def eDr (T : Int) (k v : Int → Int) (M : sM) (p : Int) : Option (sM × Int) := if eFind M.1 (v (p + 1)) = -1 then (if k (p + 2) = 17 then (if eFind (addN M.1 (v (p + 1)) (fct 10 0 0 (-1) (-1) 0) (fun _ => 0)) (v (p + 3)) = -1 ∧ isS (addN M.1 (v (p + 1)) (fct 10 0 0 (-1) (-1) 0) (fun _ => 0)) (v (p + 5)) then eRn T k v (addN M.1 (v (p + 1)) (fct 10 0 0 (-1) (-1) 0) (fun _ => 0)) (v (p + 3)) (p + 8) (siz M.1 (eFind M.1 (v (p + 5)))).toNat (M.1.2.2.1 (eFind M.1 (v (p + 5))) 1) M.2.2.2.2.2.1 M.2.2.2.2.2.2.2 (p + 8) else none) else eRo T k v (addN M.1 (v (p + 1)) (fct 10 0 0 (-1) (-1) 0) (fun _ => 0)) M.2.2.2.2.2.1 M.2.2.2.2.2.2.2 (p + 3)).bind (fun y => some ((addN M.1 (v (p + 1)) (fct 10 0 0 (-1) (-1) 0) (fun _ => 0), M.2.1, M.2.2.1, M.2.2.2.1, M.2.2.2.2.1, y.1, M.2.2.2.2.2.2.1, y.2.1), y.2.2)) else none
def eSt (T : Int) (k v : Int → Int) (M : sM) (p : Int) : Option (sM × Int) := if k p = 6 then eDs v M p else if k p = 7 then eDp T k v M p else if k p = 8 then eDv k v M p else if k p = 10 then eDr T k v M p else eDg T k v M p
def eMn (T : Int) (k v : Int → Int) : Nat → sM → Int → Option sM
  | 0, _, _ => none
  | c + 1, M, p => if k p = 0 then some M else (eSt T k v M p).bind (fun y => eMn T k v c y.1 y.2)
def eMw (T : Int) (k v : Int → Int) (M : sM) (p : Int) : Option sM := eMn T k v ((T - p).toNat + 1) M p
def M00 : sM := ((0, fun _ => 0, fun _ _ => 0, fun _ _ => 0), 0, 0, 0, 0, 0, 0, 0)
/-! names that are added -/
theorem efn_ge {nm : Int → Int} {x : Int} : ∀ (m : Nat), 0 ≤ efn nm x m → ∀ c : Nat, efn nm x (m + c) = efn nm x m := by
  intro m h c
  induction c with
  | zero => rfl
  | succ c ih =>
    show (if 0 ≤ efn nm x (m + c) then efn nm x (m + c) else _) = _
    rw [ih, if_pos h]
theorem eFind_add {N : sN} {x y : Int} {f w : Int → Int} (h0 : 0 ≤ N.1) : eFind (addN N x f w) y = if 0 ≤ eFind N y then eFind N y else if x = y then N.1 else -1 := by
  have e : efn (addN N x f w).2.1 y N.1.toNat = eFind N y := efn_cong _ (fun s a b => if_neg (by omega))
  show efn (addN N x f w).2.1 y (N.1 + 1).toNat = _
  rw [show (N.1 + 1).toNat = N.1.toNat + 1 by omega]
  show (if 0 ≤ efn (addN N x f w).2.1 y N.1.toNat then efn (addN N x f w).2.1 y N.1.toNat else if (addN N x f w).2.1 ((N.1.toNat : Nat) : Int) = y then ((N.1.toNat : Nat) : Int) else -1) = _
  rw [e, show ((N.1.toNat : Nat) : Int) = N.1 by omega, show (addN N x f w).2.1 N.1 = x from if_pos rfl]
theorem eFind_lt {N : sN} {x : Int} (h0 : 0 ≤ N.1) : -1 ≤ eFind N x ∧ eFind N x < N.1 := by
  rcases eFind_r (x := x) h0 with a | a <;> omega
theorem isS_add {N : sN} {x y : Int} {f w : Int → Int} (h0 : 0 ≤ N.1) (hf : f 0 ≠ 6) : isS (addN N x f w) y ↔ isS N y := by
  have e := eFind_add (x := x) (y := y) (f := f) (w := w) h0
  have l := eFind_lt (x := y) h0
  constructor
  · intro z
    by_cases c : 0 ≤ eFind N y
    · rw [if_pos c] at e
      have z2 := z.2; rw [e] at z2
      have z3 : (if eFind N y = N.1 then f 0 else N.2.2.1 (eFind N y) 0) = 6 := z2
      rw [if_neg (by omega)] at z3; exact ⟨c, z3⟩
    · rw [if_neg c] at e
      by_cases d : x = y
      · rw [if_pos d] at e
        have z2 := z.2; rw [e] at z2
        have z3 : (if N.1 = N.1 then f 0 else N.2.2.1 N.1 0) = 6 := z2
        rw [if_pos rfl] at z3; exact absurd z3 hf
      · rw [if_neg d] at e; have z1 := z.1; rw [e] at z1; exact absurd z1 (by decide)
  · intro z
    rw [if_pos z.1] at e
    refine ⟨by rw [e]; exact z.1, ?_⟩
    rw [e]; show (if eFind N y = N.1 then f 0 else N.2.2.1 (eFind N y) 0) = 6
    rw [if_neg (by omega)]; exact z.2
theorem eFind_add_s {N : sN} {x y : Int} {f w : Int → Int} (h0 : 0 ≤ N.1) (h : isS N y) : eFind (addN N x f w) y = eFind N y := by
  rw [eFind_add h0, if_pos h.1]
theorem siz_add {N : sN} {x t : Int} {f w : Int → Int} (h : t < N.1) : siz (addN N x f w) t = siz N t := by
  unfold siz
  by_cases c : t < 0
  · rw [if_pos c, if_pos c]
  · rw [if_neg c, if_neg c]
    show (if t = N.1 then _ else N.2.2.1 t 2) - (if t = N.1 then _ else N.2.2.1 t 1) + 1 = _
    rw [if_neg (by omega), if_neg (by omega)]
theorem add_o {N : sN} {x s : Int} {f w : Int → Int} (h : s ≠ N.1) : (addN N x f w).2.2.1 s = N.2.2.1 s := funext (fun _ => if_neg h)
theorem add_n {N : sN} {x : Int} {f w : Int → Int} : (addN N x f w).2.2.1 N.1 = f := funext (fun _ => if_pos rfl)
/-- what the facts of a new name must keep -/
def NF (N : sN) (f w : Int → Int) : Prop := (f 0 = 2 → 0 ≤ f 1 ∧ f 1 ≤ 99999) ∧ (f 0 = 6 → 0 ≤ f 1 ∧ f 1 ≤ f 2 ∧ f 2 ≤ 99999 ∧ f 2 - f 1 ≤ 11) ∧ (f 0 = 7 ∨ f 0 = 8 → ∀ q, q = 3 ∨ q = 4 → f q = -1 ∨ (0 ≤ f q ∧ f q < N.1 ∧ N.2.2.1 (f q) 0 = 6)) ∧ (f 0 = 7 ∨ f 0 = 8 → f 3 < 0 → f 4 < 0) ∧ (f 0 = 7 → ∀ o, 0 ≤ o → o < siz N (f 3) * siz N (f 4) → -99999 ≤ w o ∧ w o ≤ 99999) ∧ (f 0 = 8 → 1 ≤ f 5 ∧ f 5 + siz N (f 3) * siz N (f 4) ≤ 13)
theorem NF.lt {N : sN} {f w : Int → Int} {q : Int} (h : NF N f w) (h0 : 0 ≤ N.1) (hs : f 0 = 7 ∨ f 0 = 8) (hq : q = 3 ∨ q = 4) : f q < N.1 := by
  rcases h.2.2.1 hs q hq with a | a <;> omega
theorem NK.added {N : sN} {x : Int} {f w : Int → Int} (hK : NK N) (h0 : 0 ≤ N.1) (hn : eFind N x = -1) (hf : NF N f w) : NK (addN N x f w) := by
  have hno : ∀ s, 0 ≤ s → s < N.1 → N.2.1 s ≠ x := by
    rcases eFind_r (x := x) h0 with a | a
    · exact a.2
    · exact absurd a.1 (by omega)
  refine ⟨fun s t s0 s1 t0 t1 e => ?_, fun s s0 s1 => ?_⟩
  · have s1 : s < N.1 + 1 := s1; have t1 : t < N.1 + 1 := t1
    have e : (if s = N.1 then x else N.2.1 s) = (if t = N.1 then x else N.2.1 t) := e
    by_cases c : s = N.1
    · by_cases d : t = N.1
      · omega
      · rw [if_pos c, if_neg d] at e; exact absurd e.symm (hno t t0 (by omega))
    · by_cases d : t = N.1
      · rw [if_neg c, if_pos d] at e; exact absurd e (hno s s0 (by omega))
      · rw [if_neg c, if_neg d] at e; exact hK.1 s t s0 (by omega) t0 (by omega) e
  · have s1 : s < N.1 + 1 := s1
    by_cases c : s = N.1
    · rw [c, add_n]
      refine ⟨hf.1, hf.2.1, fun z q hq => ?_, hf.2.2.2.1, fun z o o0 o1 => ?_, fun z => ?_⟩
      · rcases hf.2.2.1 z q hq with a | a
        · exact .inl a
        · refine .inr ⟨a.1, (by show _ < N.1 + 1; omega), ?_⟩
          rw [add_o (by omega)]; exact a.2.2
      · rw [siz_add (hf.lt h0 (.inl z) (.inl rfl)), siz_add (hf.lt h0 (.inl z) (.inr rfl))] at o1
        show -99999 ≤ (if N.1 = N.1 then w o else _) ∧ (if N.1 = N.1 then w o else _) ≤ 99999
        rw [if_pos rfl]; exact hf.2.2.2.2.1 z o o0 o1
      · rw [siz_add (hf.lt h0 (.inr z) (.inl rfl)), siz_add (hf.lt h0 (.inr z) (.inr rfl))]; exact hf.2.2.2.2.2 z
    · have hs := hK.2 s s0 (by omega)
      rw [add_o c]
      refine ⟨hs.1, hs.2.1, fun z q hq => ?_, hs.2.2.2.1, fun z o o0 o1 => ?_, fun z => ?_⟩
      · rcases hs.2.2.1 z q hq with a | a
        · exact .inl a
        · refine .inr ⟨a.1, (by show _ < N.1 + 1; omega), ?_⟩
          rw [add_o (by omega)]; exact a.2.2
      · have l3 := hK.lt (q := 3) h0 s0 (by omega) (.inl z) (.inl rfl); have l4 := hK.lt (q := 4) h0 s0 (by omega) (.inl z) (.inr rfl)
        rw [siz_add l3, siz_add l4] at o1
        show -99999 ≤ (if s = N.1 then w o else N.2.2.2 s o) ∧ (if s = N.1 then w o else N.2.2.2 s o) ≤ 99999
        rw [if_neg c]; exact hs.2.2.2.2.1 z o o0 o1
      · have l3 := hK.lt (q := 3) h0 s0 (by omega) (.inr z) (.inl rfl); have l4 := hK.lt (q := 4) h0 s0 (by omega) (.inr z) (.inr rfl)
        rw [siz_add l3, siz_add l4]; exact hs.2.2.2.2.2 z
/-- the class's table with a new name -/
theorem NRc.added {N : sN} {S u : sS} {x : Int} {f w : Int → Int} (h : NRc N S) (hK : NK N) (hf : NF N f w) (hc : N.1 < 128) (e9 : u.1 11 9 = N.1 + 1) (e16 : ∀ j, u.2.2.1 16 j = if j = N.1 then x else S.2.2.1 16 j) (e17 : ∀ s q, s ≠ N.1 → 0 ≤ q → q ≤ 5 → fc u s q = fc S s q) (e18 : ∀ s, 0 ≤ s → s < N.1 → N.2.2.1 s 0 = 7 → ∀ o, 0 ≤ o → o < siz N (N.2.2.1 s 3) * siz N (N.2.2.1 s 4) → u.2.1 18 (fc S s 5 + o) = S.2.1 18 (fc S s 5 + o)) (g0 : fc u N.1 0 = f 0) (g6 : f 0 = 6 → f 1 = fc u N.1 1 ∧ f 2 = fc u N.1 2) (g2 : f 0 ≠ 2) (g7 : f 0 = 7 ∨ f 0 = 8 → f 3 = fc u N.1 3 ∧ f 4 = fc u N.1 4) (g8 : f 0 = 7 ∨ f 0 = 8 → f 5 = fc u N.1 5) (gp : f 0 = 7 → ∀ o, 0 ≤ o → o < siz N (f 3) * siz N (f 4) → 0 ≤ fc u N.1 5 + o ∧ fc u N.1 5 + o < 1728 ∧ w o = u.2.1 18 (fc u N.1 5 + o)) : NRc (addN N x f w) u := by
  have h1 := h.1
  refine ⟨⟨by show N.1 + 1 = _; omega, by show 0 ≤ N.1 + 1; omega, by show N.1 + 1 ≤ 128; omega⟩, fun s a b => ?_, fun s a b => ?_⟩
  · have b : s < N.1 + 1 := b
    show (if s = N.1 then x else N.2.1 s) = _
    rw [e16 s]
    by_cases c : s = N.1
    · rw [if_pos c, if_pos c]
    · rw [if_neg c, if_neg c]; exact h.2.1 s a (by omega)
  · have b : s < N.1 + 1 := b
    by_cases c : s = N.1
    · rw [c, add_n]
      refine ⟨g0.symm, g6, fun z => absurd z g2, g7, g8, fun z o o0 o1 => ?_⟩
      rw [siz_add (hf.lt h1.2.1 (.inl z) (.inl rfl)), siz_add (hf.lt h1.2.1 (.inl z) (.inr rfl))] at o1
      show _ ∧ _ ∧ (if N.1 = N.1 then w o else _) = _
      rw [if_pos rfl]; exact gp z o o0 o1
    · have hs := h.2.2 s a (by omega)
      rw [add_o c, e17 s 0 c (by decide) (by decide), e17 s 1 c (by decide) (by decide), e17 s 2 c (by decide) (by decide), e17 s 3 c (by decide) (by decide), e17 s 4 c (by decide) (by decide), e17 s 5 c (by decide) (by decide)]
      refine ⟨hs.1, hs.2.1, hs.2.2.1, hs.2.2.2.1, hs.2.2.2.2.1, fun z o o0 o1 => ?_⟩
      rw [siz_add (hK.lt h1.2.1 a (by omega) (.inl z) (.inl rfl)), siz_add (hK.lt h1.2.1 a (by omega) (.inl z) (.inr rfl))] at o1
      have q := hs.2.2.2.2.2 z o o0 o1
      show _ ∧ _ ∧ (if s = N.1 then w o else N.2.2.2 s o) = _
      rw [if_neg c, e18 s a (by omega) z o o0 o1]; exact q
