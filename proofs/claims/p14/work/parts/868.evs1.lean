/-! What a model's text tells: values of expressions, by tokens (kinds k, values v) and names. (K, nm, fa, pv): how many names, their packed letters, their facts (0 sort, 1 low, 2 high, 3 first, 4 second, 5 base), the values of a par -/
abbrev sN := Int × (Int → Int) × (Int → Int → Int) × (Int → Int → Int)
def efn (nm : Int → Int) (x : Int) : Nat → Int
  | 0 => -1
  | m + 1 => if 0 ≤ efn nm x m then efn nm x m else if nm m = x then m else -1
def eFind (N : sN) (x : Int) : Int := efn N.2.1 x N.1.toNat
theorem efn_r {nm : Int → Int} {x : Int} : ∀ m : Nat, (efn nm x m = -1 ∧ ∀ s : Int, 0 ≤ s → s < (m : Int) → nm s ≠ x) ∨ (0 ≤ efn nm x m ∧ efn nm x m < m ∧ nm (efn nm x m) = x) := by
  intro m
  induction m with
  | zero => exact .inl ⟨rfl, fun s h0 h1 => by omega⟩
  | succ m ih =>
    have e : efn nm x (m + 1) = if 0 ≤ efn nm x m then efn nm x m else if nm m = x then (m : Int) else -1 := rfl
    rcases ih with ⟨a, b⟩ | ⟨a, b, c⟩
    · rw [e, if_neg (by omega)]
      by_cases q : nm m = x
      · rw [if_pos q]; exact .inr ⟨by omega, by omega, q⟩
      · rw [if_neg q]; refine .inl ⟨rfl, fun s h0 h1 => ?_⟩
        by_cases z : s = m
        · rw [z]; exact q
        · exact b s h0 (by omega)
    · rw [e, if_pos a]; exact .inr ⟨a, by omega, c⟩
/-- no name is there twice -/
def NDi (N : sN) : Prop := ∀ s t, 0 ≤ s → s < N.1 → 0 ≤ t → t < N.1 → N.2.1 s = N.2.1 t → s = t
theorem eFind_r {N : sN} {x : Int} (h : 0 ≤ N.1) : (eFind N x = -1 ∧ ∀ s, 0 ≤ s → s < N.1 → N.2.1 s ≠ x) ∨ (0 ≤ eFind N x ∧ eFind N x < N.1 ∧ N.2.1 (eFind N x) = x) := by
  have a := efn_r (nm := N.2.1) (x := x) N.1.toNat
  rw [show ((N.1.toNat : Nat) : Int) = N.1 by omega] at a; exact a
theorem eFind_y {N : sN} {x s : Int} (d : NDi N) (h : 0 ≤ N.1) (h0 : 0 ≤ s) (h1 : s < N.1) (e : N.2.1 s = x) : eFind N x = s := by
  rcases eFind_r (x := x) h with ⟨a, b⟩ | ⟨a, b, c⟩
  · exact absurd e (b s h0 h1)
  · exact d _ _ a b h0 h1 (c.trans e.symm)
theorem eFind_n {N : sN} {x : Int} (h : 0 ≤ N.1) (e : ∀ s, 0 ≤ s → s < N.1 → N.2.1 s ≠ x) : eFind N x = -1 := by
  rcases eFind_r (x := x) h with ⟨a, b⟩ | ⟨a, b, c⟩
  · exact a
  · exact absurd c (e _ a b)
/-- an index that is in sight, at a number -/
def push (N : sN) (x val : Int) : sN := (N.1 + 1, fun s => if s = N.1 then x else N.2.1 s, fun s q => if s = N.1 then (if q = 0 then 2 else if q = 1 then val else -1) else N.2.2.1 s q, N.2.2.2)
/-! rows of thirteen numbers -/
def cst (c : Int) : Int → Int := fun j => if j = 0 then c else 0
def unt (i : Int) : Int → Int := fun j => if j = i then 1 else 0
def vad (a b : Int → Int) (t : Int) : Int → Int := fun j => a j + t * b j
abbrev grt (a : Int → Int) : Prop := ∃ j : Fin 13, 99999 < a (j.val : Int) ∨ a (j.val : Int) < -99999
abbrev hsv (a : Int → Int) : Prop := ∃ j : Fin 12, a ((j.val : Int) + 1) ≠ 0
def vml (a b : Int → Int) : Int → Int := fun j => if j = 0 then a 0 * b 0 else a j * b 0 + a 0 * b j
abbrev sR := Int × (Int → Int) × Int
/-- I: its number, and where it ends -/
def eI (k v : Int → Int) (N : sN) (p : Int) : Option (Int × Int) := if k p = 3 then some (v p, p + 1) else if 0 ≤ eFind N (v p) ∧ N.2.2.1 (eFind N (v p)) 0 = 2 then (if k (p + 1) = 21 then some (N.2.2.1 (eFind N (v p)) 1 + v (p + 1 + 1), p + 1 + 1 + 1) else if k (p + 1) = 22 then some (N.2.2.1 (eFind N (v p)) 1 - v (p + 1 + 1), p + 1 + 1 + 1) else some (N.2.2.1 (eFind N (v p)) 1, p + 1)) else none
def siz (N : sN) (s : Int) : Int := if s < 0 then 1 else N.2.2.1 s 2 - N.2.2.1 s 1 + 1
abbrev inS (N : sN) (s x : Int) : Prop := N.2.2.1 s 1 ≤ x ∧ x ≤ N.2.2.1 s 2
/-- a par's or var's number, by its offset -/
def eV (N : sN) (s off : Int) : Int → Int := if N.2.2.1 s 0 = 7 then cst (N.2.2.2 s off) else unt (N.2.2.1 s 5 + off)
def eN (k v : Int → Int) (N : sN) (lk p : Int) : Option sR := if 0 ≤ eFind N (v p) ∧ N.2.2.1 (eFind N (v p)) 0 = 2 then (if k (p + 1) = 17 then none else some (p + 1, cst (N.2.2.1 (eFind N (v p)) 1), lk)) else if 0 ≤ eFind N (v p) ∧ (N.2.2.1 (eFind N (v p)) 0 = 7 ∨ N.2.2.1 (eFind N (v p)) 0 = 8) then (if k (p + 1) = 17 then (eI k v N (p + 1 + 1)).bind (fun a => if k a.2 = 16 then (eI k v N (a.2 + 1)).bind (fun b => if 0 ≤ N.2.2.1 (eFind N (v p)) 3 ∧ 0 ≤ N.2.2.1 (eFind N (v p)) 4 ∧ inS N (N.2.2.1 (eFind N (v p)) 3) a.1 ∧ inS N (N.2.2.1 (eFind N (v p)) 4) b.1 then some (b.2 + 1, eV N (eFind N (v p)) ((a.1 - N.2.2.1 (N.2.2.1 (eFind N (v p)) 3) 1) * siz N (N.2.2.1 (eFind N (v p)) 4) + (b.1 - N.2.2.1 (N.2.2.1 (eFind N (v p)) 4) 1)), lk) else none) else if 0 ≤ N.2.2.1 (eFind N (v p)) 3 ∧ N.2.2.1 (eFind N (v p)) 4 < 0 ∧ inS N (N.2.2.1 (eFind N (v p)) 3) a.1 then some (a.2 + 1, eV N (eFind N (v p)) (a.1 - N.2.2.1 (N.2.2.1 (eFind N (v p)) 3) 1), lk) else none) else if N.2.2.1 (eFind N (v p)) 3 < 0 then some (p + 1, eV N (eFind N (v p)) 0, lk) else none) else none
/-- a loop that gathers: * of T, + and - of E -/
def eLn (st : Int → Prop) [DecidablePred st] (R : Int → Int → Option sR) (op : Int → (Int → Int) → (Int → Int) → Option (Int → Int)) : Nat → sR → Option sR
  | 0, _ => none
  | m + 1, x => if st x.1 then (R x.2.2 (x.1 + 1)).bind (fun y => (op x.1 x.2.1 y.2.1).bind (fun z => eLn st R op m (y.1, z, y.2.2))) else some x
def eL (T : Int) (st : Int → Prop) [DecidablePred st] (R : Int → Int → Option sR) (op : Int → (Int → Int) → (Int → Int) → Option (Int → Int)) (x : sR) : Option sR := eLn st R op ((T - x.1).toNat + 1) x
def oMul (a b : Int → Int) : Option (Int → Int) := if hsv a ∧ hsv b then none else if grt (vml a b) then none else some (vml a b)
def oAdd (k : Int → Int) (p : Int) (a b : Int → Int) : Option (Int → Int) := if grt (vad a b (if k p = 21 then 1 else -1)) then none else some (vad a b (if k p = 21 then 1 else -1))
def eP (T : Int) (k : Int → Int) (F : Int → Int → Option sR) (lk p : Int) : Option sR := (F lk p).bind (eL T (fun p => k p = 23) F (fun _ => oMul))
def eU (T : Int) (k : Int → Int) (F : Int → Int → Option sR) (lk p : Int) : Option sR := (eP T k F lk p).bind (eL T (fun p => k p = 21 ∨ k p = 22) (eP T k F) (oAdd k))
/-- the sum over a set -/
def eSn (E : Int → Int → Option sR) (x : Int) : Nat → Int → (Int → Int) → Int → Int → Option sR
  | 0, _, acc, lk, pos => some (pos, acc, lk)
  | m + 1, val, acc, lk, _ => (E val lk).bind (fun y => if grt (vad acc y.2.1 1) then none else eSn E x m (val + 1) (vad acc y.2.1 1) y.2.2 y.1)
def eF (T : Int) (k v : Int → Int) : Nat → sN → Int → Int → Option sR
  | 0, _, _, _ => none
  | n + 1, N, lk, p => if 20000 < lk + 1 then none else if k p = 3 then some (p + 1, cst (v p), lk + 1) else if k p = 22 then (eF T k v n N (lk + 1) (p + 1)).bind (fun y => some (y.1, vad (cst 0) y.2.1 (-1), y.2.2)) else if k p = 19 then (eU T k (eF T k v n N) (lk + 1) (p + 1)).bind (fun y => some (y.1 + 1, y.2.1, y.2.2)) else if k p = 11 then (if eFind N (v (p + 1)) = -1 ∧ 0 ≤ eFind N (v (p + 3)) ∧ N.2.2.1 (eFind N (v (p + 3))) 0 = 6 then (eSn (fun val lk => eU T k (eF T k v n (push N (v (p + 1)) val)) lk (p + 5)) 0 (siz N (eFind N (v (p + 3)))).toNat (N.2.2.1 (eFind N (v (p + 3))) 1) (cst 0) (lk + 1) (p + 5)).bind (fun y => some (y.1 + 1, y.2.1, y.2.2)) else none) else eN k v N (lk + 1) p
