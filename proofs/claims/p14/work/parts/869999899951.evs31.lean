/-! The numbers of a told model: A (row 0: the goal), wh (the whole ones) -/
abbrev sX := (Int → Int → Int) × (Int → Int)
def upA (A : Int → Int → Int) (k : Int) (x : Int → Int) : Int → Int → Int := fun i j => if i = k then x j else A i j
def lin (d : Int → Int) (t : Int) : Int → Int := fun j => if j = 0 then -(t * d 0) else t * d j
def rwA (A : Int → Int → Int) (m : Int) (d : Int → Int) (kd : Int) : Int → Int → Int := if kd = 13 then upA (upA A (m + 1) (lin d 1)) (m + 1 + 1) (lin d (-1)) else if kd = 26 then upA A (m + 1) (lin d (-1)) else upA A (m + 1) (lin d 1)
def aRo (T : Int) (k v : Int → Int) (N : sN) (A : Int → Int → Int) (m lk p : Int) : Int → Int → Int := (eU T k (eF T k v 30 N) lk p).elim A (fun a => (eU T k (eF T k v 30 N) a.2.2 (a.1 + 1)).elim A (fun b => rwA A m (vad a.2.1 b.2.1 (-1)) (k a.1)))
theorem aRo_e {T : Int} {k v : Int → Int} {N : sN} {A : Int → Int → Int} {m lk p : Int} {a b : sR} (h1 : eU T k (eF T k v 30 N) lk p = some a) (h2 : eU T k (eF T k v 30 N) a.2.2 (a.1 + 1) = some b) : aRo T k v N A m lk p = rwA A m (vad a.2.1 b.2.1 (-1)) (k a.1) := by
  unfold aRo; rw [h1]; show (eU T k (eF T k v 30 N) a.2.2 (a.1 + 1)).elim A _ = _; rw [h2]; rfl
def aRn (T : Int) (k v : Int → Int) (N : sN) (x p : Int) : Nat → Int → (Int → Int → Int) → Int → Int → (Int → Int → Int)
  | 0, _, A, _, _ => A
  | c + 1, val, A, m, lk => (eRo T k v (push N x val) m lk p).elim A (fun y => aRn T k v N x p c (val + 1) (aRo T k v (push N x val) A m lk p) y.1 y.2.1)
theorem aRn_s {T : Int} {k v : Int → Int} {N : sN} {x p val m lk hi : Int} {A : Int → Int → Int} {y : Int × Int × Int} (hv : val ≤ hi) (e : eRo T k v (push N x val) m lk p = some y) : aRn T k v N x p (hi + 1 - val).toNat val A m lk = aRn T k v N x p (hi + 1 - (val + 1)).toNat (val + 1) (aRo T k v (push N x val) A m lk p) y.1 y.2.1 := by
  rw [show (hi + 1 - val).toNat = (hi + 1 - (val + 1)).toNat + 1 by omega]
  show (eRo T k v (push N x val) m lk p).elim A _ = _
  rw [e]; rfl
theorem aRn_z {T : Int} {k v : Int → Int} {N : sN} {x p val m lk hi : Int} {A : Int → Int → Int} (hv : hi + 1 ≤ val) : aRn T k v N x p (hi + 1 - val).toNat val A m lk = A := by
  rw [show (hi + 1 - val).toNat = 0 by omega]; rfl
abbrev rowN (v : Int → Int) (M : sM) (p : Int) : sN := addN M.1 (v (p + 1)) (fct 10 0 0 (-1) (-1) 0) (fun _ => 0)
def aDr (T : Int) (k v : Int → Int) (M : sM) (p : Int) (A : Int → Int → Int) : Int → Int → Int := if k (p + 2) = 17 then aRn T k v (rowN v M p) (v (p + 3)) (p + 8) (siz M.1 (eFind M.1 (v (p + 5)))).toNat (M.1.2.2.1 (eFind M.1 (v (p + 5))) 1) A M.2.2.2.2.2.1 M.2.2.2.2.2.2.2 else aRo T k v (rowN v M p) A M.2.2.2.2.2.1 M.2.2.2.2.2.2.2 (p + 3)
def gol (mx : Int) (d : Int → Int) : Int → Int := fun j => if mx = 1 then d j else -(d j)
def aDg (T : Int) (k v : Int → Int) (M : sM) (p : Int) (A : Int → Int → Int) : Int → Int → Int := (eU T k (eF T k v 30 M.1) M.2.2.2.2.2.2.2 (p + 1)).elim A (fun y => upA A 0 (gol (if k p = 4 then 1 else 0) y.2.1))
def wDv (k v : Int → Int) (M : sM) (p : Int) (wh : Int → Int) : Int → Int := (eIx k v M.1 (p + 2)).elim wh (fun x => fun j => if M.2.2.2.1 < j ∧ j ≤ M.2.2.2.1 + siz M.1 x.1 * siz M.1 x.2.1 then (if k x.2.2 = 9 then 1 else 0) else wh j)
def aSt (T : Int) (k v : Int → Int) (M : sM) (p : Int) (X : sX) : sX := if k p = 6 then X else if k p = 7 then X else if k p = 8 then (X.1, wDv k v M p X.2) else if k p = 10 then (aDr T k v M p X.1, X.2) else (aDg T k v M p X.1, X.2)
def aMn (T : Int) (k v : Int → Int) : Nat → sM → Int → sX → sX
  | 0, _, _, X => X
  | c + 1, M, p, X => if k p = 0 then X else (eSt T k v M p).elim X (fun y => aMn T k v c y.1 y.2 (aSt T k v M p X))
def aMw (T : Int) (k v : Int → Int) (M : sM) (p : Int) (X : sX) : sX := aMn T k v ((T - p).toNat + 1) M p X
theorem aMn_mono {T : Int} {k v : Int → Int} (hz : ∀ t, T ≤ t → k t = 0) : ∀ (n m : Nat) (M : sM) (p : Int) (X : sX), 0 ≤ M.1.1 → (T - p).toNat + 1 ≤ n → (T - p).toNat + 1 ≤ m → aMn T k v n M p X = aMn T k v m M p X := by
  intro n
  induction n with
  | zero => intro m M p X _ h; omega
  | succ n ih =>
    intro m M p X h0 h1 h2
    cases m with
    | zero => omega
    | succ m =>
      show (if k p = 0 then X else (eSt T k v M p).elim X (fun y => aMn T k v n y.1 y.2 (aSt T k v M p X))) = (if k p = 0 then X else (eSt T k v M p).elim X (fun y => aMn T k v m y.1 y.2 (aSt T k v M p X)))
      by_cases c : k p = 0
      · rw [if_pos c, if_pos c]
      · rw [if_neg c, if_neg c]
        cases e : eSt T k v M p with
        | none => rfl
        | some y =>
          have i := eSt_inc h0 e
          have l : p < T := by
            by_cases z : p < T
            · exact z
            · exact absurd (hz p (by omega)) c
          exact ih m y.1 y.2 _ (eSt_nn h0 e) (by omega) (by omega)
theorem aMw_z {T : Int} {k v : Int → Int} {M : sM} {p : Int} {X : sX} (c : k p = 0) : aMw T k v M p X = X := by
  unfold aMw; show (if k p = 0 then X else _) = X; rw [if_pos c]
theorem aMw_s {T : Int} {k v : Int → Int} {M : sM} {p : Int} {X : sX} {y : sM × Int} (hz : ∀ t, T ≤ t → k t = 0) (h0 : 0 ≤ M.1.1) (c : k p ≠ 0) (e : eSt T k v M p = some y) : aMw T k v M p X = aMw T k v y.1 y.2 (aSt T k v M p X) := by
  have i := eSt_inc h0 e
  have l : p < T := by
    by_cases z : p < T
    · exact z
    · exact absurd (hz p (by omega)) c
  unfold aMw
  show (if k p = 0 then X else (eSt T k v M p).elim X (fun y => aMn T k v (T - p).toNat y.1 y.2 (aSt T k v M p X))) = _
  rw [if_neg c, e]
  exact aMn_mono hz _ _ _ _ _ (eSt_nn h0 e) (by omega) (by omega)
def X00 : sX := (fun _ _ => 0, fun _ => 0)
/-- the text b tells the model M with the numbers X -/
def tOX (b : Int → Int) (n : Int) (M : sM) (X : sX) : Prop := n ≤ 2000 ∧ ∃ T, TQ b n T ∧ (∃ d, ogG T (kq b n T) = some d) ∧ eMw T (kq b n T) (vq b n T) M00 0 = some M ∧ aMw T (kq b n T) (vq b n T) M00 0 X00 = X
theorem tOX.one {b : Int → Int} {n : Int} {M M' : sM} {X X' : sX} (h : tOX b n M X) (h' : tOX b n M' X') : M = M' ∧ X = X' := by
  obtain ⟨_, T, t, _, m, x⟩ := h
  obtain ⟨_, T', t', _, m', x'⟩ := h'
  have e := t.one t'
  subst e
  exact ⟨Option.some.inj (m.symm.trans m'), x.symm.trans x'⟩
