/-! THE WORK as a machine over whole numbers -/
noncomputable def cif {α : Type} (c : Prop) (a b : α) : α := @ite α c (Classical.propDecidable c) a b
theorem cif_t {α : Type} {c : Prop} {a b : α} (h : c) : cif c a b = a := @if_pos c (Classical.propDecidable c) h α a b
theorem cif_f {α : Type} {c : Prop} {a b : α} (h : ¬ c) : cif c a b = b := @if_neg c (Classical.propDecidable c) h α a b
/-- the choice of one of 1 .. k: of those with P the one that is ahead -/
noncomputable def pick (P : Int → Prop) (lt : Int → Int → Prop) : Nat → Int
  | 0 => 0
  | k + 1 => cif (P ((k : Int) + 1) ∧ (pick P lt k = 0 ∨ lt ((k : Int) + 1) (pick P lt k))) ((k : Int) + 1) (pick P lt k)
theorem pick_S {P : Int → Prop} {lt : Int → Int → Prop} (k : Nat) : pick P lt (k + 1) = cif (P ((k : Int) + 1) ∧ (pick P lt k = 0 ∨ lt ((k : Int) + 1) (pick P lt k))) ((k : Int) + 1) (pick P lt k) := rfl
theorem pick_st {P : Int → Prop} {lt : Int → Int → Prop} {j : Int} (hj : 1 ≤ j) : pick P lt j.toNat = cif (P j ∧ (pick P lt (j - 1).toNat = 0 ∨ lt j (pick P lt (j - 1).toNat))) j (pick P lt (j - 1).toNat) := by
  obtain ⟨k, rfl⟩ : ∃ k : Nat, j = (k : Int) + 1 := ⟨(j - 1).toNat, by omega⟩
  rw [show ((k : Int) + 1).toNat = k + 1 by omega, show ((k : Int) + 1 - 1).toNat = k by omega]
  exact pick_S k
theorem pick_y {P : Int → Prop} {lt : Int → Int → Prop} {j x : Int} (hj : 1 ≤ j) (h : x = pick P lt (j - 1).toNat) (p : P j) (q : x = 0 ∨ lt j x) : j = pick P lt (j + 1 - 1).toNat := by
  rw [show j + 1 - 1 = j by omega, pick_st hj, ← h, cif_t ⟨p, q⟩]
theorem pick_n {P : Int → Prop} {lt : Int → Int → Prop} {j x : Int} (hj : 1 ≤ j) (h : x = pick P lt (j - 1).toNat) (q : ¬ (P j ∧ (x = 0 ∨ lt j x))) : x = pick P lt (j + 1 - 1).toNat := by
  rw [show j + 1 - 1 = j by omega, pick_st hj, ← h, cif_f q]
theorem pick_le (P : Int → Prop) (lt : Int → Int → Prop) : ∀ k : Nat, 0 ≤ pick P lt k ∧ pick P lt k ≤ (k : Int)
  | 0 => ⟨Int.le_refl 0, Int.le_refl 0⟩
  | k + 1 => by
    have i := pick_le P lt k
    rw [pick_S k]
    by_cases h : P ((k : Int) + 1) ∧ (pick P lt k = 0 ∨ lt ((k : Int) + 1) (pick P lt k))
    · rw [cif_t h]; omega
    · rw [cif_f h]; omega
theorem pick_P {P : Int → Prop} {lt : Int → Int → Prop} : ∀ k : Nat, pick P lt k ≠ 0 → P (pick P lt k)
  | 0, h => absurd rfl h
  | k + 1, h => by
    rw [pick_S k] at h ⊢
    by_cases q : P ((k : Int) + 1) ∧ (pick P lt k = 0 ∨ lt ((k : Int) + 1) (pick P lt k))
    · rw [cif_t q]; exact q.1
    · rw [cif_f q] at h ⊢; exact pick_P k h
theorem pick_0 {P : Int → Prop} {lt : Int → Int → Prop} : ∀ k : Nat, pick P lt k = 0 → ∀ j : Int, 1 ≤ j → j ≤ (k : Int) → ¬ P j
  | 0, _, j, a, b => absurd a (by omega)
  | k + 1, h, j, a, b => by
    rw [pick_S k] at h
    by_cases q : P ((k : Int) + 1) ∧ (pick P lt k = 0 ∨ lt ((k : Int) + 1) (pick P lt k))
    · rw [cif_t q] at h; omega
    · rw [cif_f q] at h
      by_cases e : j = (k : Int) + 1
      · rw [e]; exact fun z => q ⟨z, .inl h⟩
      · exact pick_0 k h j a (by omega)
theorem pick_no {P : Int → Prop} {lt : Int → Int → Prop} {k : Nat} (h : ∀ j : Int, 1 ≤ j → j ≤ (k : Int) → ¬ P j) : pick P lt k = 0 := by
  by_cases e : pick P lt k = 0
  · exact e
  · have r := pick_le P lt k
    exact absurd (pick_P k e) (h _ (by omega) r.2)
theorem pick_one {P : Int → Prop} {lt : Int → Int → Prop} {x : Int} : ∀ k : Nat, 1 ≤ x → x ≤ (k : Int) → P x → (∀ i : Int, 1 ≤ i → i ≤ (k : Int) → P i → i = x) → pick P lt k = x
  | 0, a, b, _, _ => absurd a (by omega)
  | k + 1, a, b, p, u => by
    rw [pick_S k]
    by_cases e : x = (k : Int) + 1
    · have z : pick P lt k = 0 := pick_no (fun j j0 j1 q => by have := u j j0 (by omega) q; omega)
      rw [cif_t ⟨by rw [← e]; exact p, .inl z⟩, e]
    · rw [cif_f (fun q => by have := u _ (by omega) (by omega) q.1; omega)]
      exact pick_one k a (by omega) p (fun i i0 i1 q => u i i0 (by omega) q)
theorem pick_key {P : Int → Prop} {key : Int → Int} {x : Int} : ∀ k : Nat, 1 ≤ x → x ≤ (k : Int) → P x → (∀ i : Int, 1 ≤ i → i ≤ (k : Int) → P i → i ≠ x → key x < key i) → pick P (fun i r => key i < key r) k = x
  | 0, a, b, _, _ => absurd a (by omega)
  | k + 1, a, b, p, u => by
    rw [pick_S k]
    by_cases e : x = (k : Int) + 1
    · have r := pick_le P (fun i r => key i < key r) k
      have d : pick P (fun i r => key i < key r) k = 0 ∨ (fun i r => key i < key r) ((k : Int) + 1) (pick P (fun i r => key i < key r) k) := by
        by_cases z : pick P (fun i r => key i < key r) k = 0
        · exact .inl z
        · refine .inr ?_
          show key ((k : Int) + 1) < key (pick P (fun i r => key i < key r) k)
          rw [← e]; exact u _ (by omega) (by omega) (pick_P k z) (by omega)
      rw [cif_t ⟨by rw [← e]; exact p, d⟩, e]
    · have ih := pick_key k a (by omega) p (fun i i0 i1 q ne => u i i0 (by omega) q ne)
      rw [ih]
      refine cif_f (fun q => ?_)
      have m := u _ (by omega) (by omega) q.1 (fun z => e z.symm)
      rcases q.2 with z | z
      · omega
      · have z' : key ((k : Int) + 1) < key x := z
        omega
theorem pick_cg {P Q : Int → Prop} {lt lu : Int → Int → Prop} : ∀ k : Nat, (∀ i : Int, 1 ≤ i → i ≤ (k : Int) → (P i ↔ Q i)) → (∀ i r : Int, 1 ≤ i → i ≤ (k : Int) → 1 ≤ r → r ≤ (k : Int) → (lt i r ↔ lu i r)) → pick P lt k = pick Q lu k
  | 0, _, _ => rfl
  | k + 1, hP, hl => by
    have ih := pick_cg k (fun i a b => hP i a (by omega)) (fun i r a b c d => hl i r a (by omega) c (by omega))
    have r := pick_le P lt k
    rw [pick_S k, pick_S k, ← ih]
    by_cases q : P ((k : Int) + 1) ∧ (pick P lt k = 0 ∨ lt ((k : Int) + 1) (pick P lt k))
    · rw [cif_t q]
      refine (cif_t ⟨(hP _ (by omega) (by omega)).mp q.1, ?_⟩).symm
      rcases q.2 with z | z
      · exact .inl z
      · by_cases y : pick P lt k = 0
        · exact .inl y
        · exact .inr ((hl _ _ (by omega) (by omega) (by omega) (by omega)).mp z)
    · rw [cif_f q]
      refine (cif_f (fun w => q ⟨(hP _ (by omega) (by omega)).mpr w.1, ?_⟩)).symm
      rcases w.2 with z | z
      · exact .inl z
      · by_cases y : pick P lt k = 0
        · exact .inl y
        · exact .inr ((hl _ _ (by omega) (by omega) (by omega) (by omega)).mpr z)
/-- a dictionary: D, T (-1: w, 0: z, 1 .. m), B, N, m, places -/
abbrev dT : Type := Int × (Int → Int → Int) × (Int → Int) × (Int → Int) × Int × Int
noncomputable def cU (d : dT) (g : Int) : Int := pick (fun j => d.2.1 g j < 0) (fun j s => d.2.2.2.1 j < d.2.2.2.1 s) d.2.2.2.2.2.toNat
def ltU (d : dT) (s i r : Int) : Prop := d.2.1 i 0 * d.2.1 r s < d.2.1 r 0 * d.2.1 i s ∨ (d.2.1 i 0 * d.2.1 r s = d.2.1 r 0 * d.2.1 i s ∧ d.2.2.1 i < d.2.2.1 r)
noncomputable def rU (d : dT) (s : Int) : Int := pick (fun i => 0 < d.2.1 i s) (ltU d s) d.2.2.2.2.1.toNat
noncomputable def rDn (d : dT) : Int := pick (fun i => d.2.1 i 0 < 0) (fun i r => d.2.2.1 i < d.2.2.1 r) d.2.2.2.2.1.toNat
def ltD (d : dT) (r j s : Int) : Prop := d.2.1 0 s * d.2.1 r j < d.2.1 0 j * d.2.1 r s ∨ (d.2.1 0 s * d.2.1 r j = d.2.1 0 j * d.2.1 r s ∧ d.2.2.2.1 j < d.2.2.2.1 s)
noncomputable def cDn (d : dT) (r : Int) : Int := pick (fun j => d.2.1 r j < 0) (ltD d r) d.2.2.2.2.2.toNat
noncomputable def rFi (d : dT) : Int := pick (fun _ => True) (fun i r => d.2.1 i 0 < d.2.1 r 0) d.2.2.2.2.1.toNat
noncomputable def rOf (d : dT) (v : Int) : Int := pick (fun i => d.2.2.1 i = v) (fun _ _ => False) d.2.2.2.2.1.toNat
noncomputable def pOf (d : dT) (v : Int) : Int := pick (fun j => d.2.2.2.1 j = v) (fun _ _ => False) d.2.2.2.2.2.toNat
noncomputable def cOu (d : dT) (r : Int) : Int := pick (fun j => d.2.1 r j ≠ 0) (fun j s => d.2.2.2.1 j < d.2.2.2.1 s) d.2.2.2.2.2.toNat
def bkP (n : Int) (wh : Int → Int) (d : dT) (i : Int) : Prop := (1 ≤ d.2.2.1 i ∧ d.2.2.1 i ≤ n) ∧ wh (d.2.2.1 i) = 1 ∧ d.2.1 i 0 % d.1 ≠ 0
noncomputable def bRk (n : Int) (wh : Int → Int) (d : dT) : Int := pick (bkP n wh d) (fun i r => d.2.2.1 i < d.2.2.1 r) d.2.2.2.2.1.toNat
/-- to pivot -/
def sgi (x : Int) : Int := if 0 ≤ x then 1 else -1
def pvT (d : dT) (r s i j : Int) : Int := if i = r then (if j = s then sgi (d.2.1 r s) * d.1 else sgi (d.2.1 r s) * d.2.1 r j) else if j = s then -(sgi (d.2.1 r s) * d.2.1 i s) else sgi (d.2.1 r s) * ((d.2.1 i j * d.2.1 r s - d.2.1 i s * d.2.1 r j) / d.1)
def pvD (d : dT) (r s : Int) : dT := (sgi (d.2.1 r s) * d.2.1 r s, pvT d r s, (fun i => if i = r then d.2.2.2.1 s else d.2.2.1 i), (fun j => if j = s then d.2.2.1 r else d.2.2.2.1 j), d.2.2.2.2.1, d.2.2.2.2.2)
def bgN (x : Int) : Prop := x ≤ -pw 6 ∨ pw 6 ≤ x
def bgx (hw : Int) (d : dT) (r s : Int) : Prop := ∃ i j, (-1 ≤ i ∧ i ≤ d.2.2.2.2.1) ∧ (i = -1 → hw = 1) ∧ (0 ≤ j ∧ j ≤ d.2.2.2.2.2) ∧ i ≠ r ∧ j ≠ s ∧ bgN (pvT d r s i j)
/-- a row more, a place less -/
def adR (n : Int) (d : dT) (t : Int → Int) : dT := (d.1, (fun i j => if i = d.2.2.2.2.1 + 1 then t j else d.2.1 i j), (fun i => if i = d.2.2.2.2.1 + 1 then n + (d.2.2.2.2.1 + 1) else d.2.2.1 i), d.2.2.2.1, d.2.2.2.2.1 + 1, d.2.2.2.2.2)
def cuR (d : dT) (r : Int) : Int → Int := fun j => -(d.2.1 r j % d.1)
def loR (d : dT) (r : Int) : Int → Int := fun j => if j = 0 then -(d.2.1 r 0 % d.1) else -d.2.1 r j
def hiR (d : dT) (r : Int) : Int → Int := fun j => if j = 0 then d.2.1 r 0 % d.1 - d.1 else d.2.1 r j
noncomputable def dpD (d : dT) : dT := (d.1, (fun i j => if j = pOf d 0 then d.2.1 i d.2.2.2.2.2 else d.2.1 i j), d.2.2.1, (fun j => if j = pOf d 0 then d.2.2.2.1 d.2.2.2.2.2 else d.2.2.2.1 j), d.2.2.2.2.1, d.2.2.2.2.2 - 1)
/-! texts -/
def tkn (L t : List Int) : List Int := L ++ (if L.length = 0 then t else 32 :: t)
def dgf : Nat → Nat → List Int
  | 0, _ => []
  | f + 1, v => if v = 0 then [] else dgf f (v / 10) ++ [48 + ((v % 10 : Nat) : Int)]
def dgz (v : Nat) : List Int := dgf v v
def nmT (v : Int) : List Int := if v = 0 then [48] else if v < 0 then 45 :: dgz (-v).toNat else dgz v.toNat
def prT (L : List Int) (k v : Int) : List Int := if v = 0 then L else tkn (tkn (tkn L (nmT k)) [58]) (nmT v)
def psT (f : Int → Int) (L : List Int) : Nat → List Int
  | 0 => L
  | k + 1 => prT (psT f L k) ((k : Int) + 1) (f ((k : Int) + 1))
noncomputable def mlt (d : dT) (i v : Int) : Int := cif (pOf d v ≠ 0) (d.2.1 i (pOf d v)) (cif (1 ≤ i ∧ d.2.2.1 i = v) d.1 0)
def wBo : List Int := [98, 111, 117, 110, 100]
def wFa : List Int := [102, 97, 114, 107, 97, 115]
def wCu : List Int := [99, 117, 116]
def wBr : List Int := [98, 114, 97, 110, 99, 104]
noncomputable def leT (n : Int) (d : dT) (i : Int) (L : List Int) : List Int := tkn (psT (fun k => mlt d i (n + k)) (tkn (tkn L (if i = 0 then wBo else wFa)) (nmT d.1)) d.2.2.2.2.1.toNat) [59]
noncomputable def cuT (n : Int) (d : dT) (r : Int) (L : List Int) : List Int := tkn (psT (fun k => mlt d r (n + k) % d.1) (tkn (tkn L wCu) (nmT d.1)) d.2.2.2.2.1.toNat) [59]
def brT (d : dT) (r : Int) (L : List Int) : List Int := tkn (tkn (tkn L wBr) (nmT (d.2.2.1 r))) (nmT (d.2.1 r 0 / d.1))
/-! the machine: dictionary; counters (0 status, 1 what is next, 2 source, 3 stage, 4 pivots, 5 nodes, 6 bests, 7 cuts, 8 row, 9 place); TREES; what waits; the BEST's value, what it is over, its point -/
abbrev wT : Type := dT × (Nat → Int) × List Int × List (dT × Int) × Int × Int × (Int → Int)
/-- the model: n, whole, cuts allowed, all whole, goal whole -/
abbrev qT : Type := Int × (Int → Int) × Int × Prop × Prop
def cu (c : Nat → Int) (i : Nat) (v : Int) : Nat → Int := fun k => if k = i then v else c k
theorem cu_on {c : Nat → Int} {i : Nat} {v : Int} : cu c i v i = v := if_pos rfl
theorem cu_ne {c : Nat → Int} {i k : Nat} {v : Int} (h : k ≠ i) : cu c i v k = c k := if_neg h
def wC (W : wT) (c : Nat → Int) : wT := (W.1, c, W.2.2)
def toP (W : wT) (r s : Int) : wT := wC W (cu (cu (cu W.2.1 8 r) 9 s) 1 1)
def toL (W : wT) (i : Int) : wT := wC W (cu (cu W.2.1 2 i) 1 3)
noncomputable def dpW (W : wT) : wT := (dpD W.1, cu W.2.1 3 3, W.2.2)
noncomputable def s_ch (W : wT) : wT :=
  cif (W.2.1 3 = 0) (toP W (rFi W.1) W.1.2.2.2.2.2)
  (cif (W.2.1 3 = 1) (cif (cU W.1 (-1) ≠ 0 ∧ rU W.1 (cU W.1 (-1)) ≠ 0) (toP W (rU W.1 (cU W.1 (-1))) (cU W.1 (-1)))
    (cif (W.1.2.1 (-1) 0 < 0) (toL W (-1))
    (cif (rOf W.1 0 ≠ 0) (toP (wC W (cu W.2.1 3 5)) (rOf W.1 0) (cOu W.1 (rOf W.1 0))) (dpW W))))
  (cif (W.2.1 3 = 5) (dpW W)
  (cif (W.2.1 3 = 3) (cif (cU W.1 0 = 0) (wC W (cu W.2.1 1 2)) (cif (rU W.1 (cU W.1 0) = 0) (wC W (cu (cu W.2.1 9 (cU W.1 0)) 0 4)) (toP W (rU W.1 (cU W.1 0)) (cU W.1 0))))
    (cif (rDn W.1 = 0) (wC W (cu W.2.1 1 2)) (cif (cDn W.1 (rDn W.1) = 0) (toL W (rDn W.1)) (toP W (rDn W.1) (cDn W.1 (rDn W.1))))))))
def hwS (W : wT) : Int := if W.2.1 3 = 3 ∨ W.2.1 3 = 4 then 0 else 1
noncomputable def s_pv (W : wT) : wT :=
  cif (bgx (hwS W) W.1 (W.2.1 8) (W.2.1 9)) (wC W (cu W.2.1 0 5))
    (pvD W.1 (W.2.1 8) (W.2.1 9), cu (cu (cu W.2.1 4 (W.2.1 4 + 1)) 1 0) 3 (if W.2.1 3 = 0 then 1 else W.2.1 3), W.2.2)
def abv (K : qT) (W : wT) : Prop := (K.2.2.2.2 → W.2.2.2.2.1 < W.1.2.1 0 0 / W.1.1 * W.2.2.2.2.2.1) ∧ (¬ K.2.2.2.2 → W.2.2.2.2.1 * W.1.1 < W.1.2.1 0 0 * W.2.2.2.2.2.1)
noncomputable def ptB (d : dT) : Int → Int := fun v => cif (rOf d v ≠ 0) (d.2.1 (rOf d v) 0) 0
noncomputable def s_ju (K : qT) (W : wT) : wT :=
  cif (0 < W.2.1 6 ∧ ¬ abv K W) (toL W 0)
  (cif (bRk K.1 K.2.1 W.1 = 0) (W.1, cu (cu (cu W.2.1 6 (W.2.1 6 + 1)) 2 0) 1 3, W.2.2.1, W.2.2.2.1, W.1.2.1 0 0, W.1.1, ptB W.1)
    (wC W (cu (cu W.2.1 2 (bRk K.1 K.2.1 W.1)) 1 (cif (K.2.2.2.1 ∧ W.2.1 7 < K.2.2.1) 4 5))))
noncomputable def s_le (K : qT) (W : wT) : wT :=
  cif (30000 < (leT K.1 W.1 (W.2.1 2) W.2.2.1).length) (wC W (cu W.2.1 0 6))
  (W.1, cif (W.2.2.2.1.length = 0) (cu W.2.1 0 (if 0 < W.2.1 6 then 2 else 3)) (cu W.2.1 1 6), leT K.1 W.1 (W.2.1 2) W.2.2.1, W.2.2.2)
def chC (c : Nat → Int) : Nat → Int := cu (cu (cu c 5 (c 5 + 1)) 3 4) 1 0
noncomputable def s_cu (K : qT) (W : wT) : wT :=
  cif (30000 < (cuT K.1 W.1 (W.2.1 2) W.2.2.1).length ∨ 40 ≤ W.1.2.2.2.2.1 ∨ 1000 ≤ W.2.1 5) (wC W (cu W.2.1 0 6))
  (adR K.1 W.1 (cuR W.1 (W.2.1 2)), cu (chC W.2.1) 7 (W.2.1 7 + 1), cuT K.1 W.1 (W.2.1 2) W.2.2.1, W.2.2.2)
noncomputable def s_br (K : qT) (W : wT) : wT :=
  cif (30000 < (brT W.1 (W.2.1 2) W.2.2.1).length ∨ 40 ≤ W.1.2.2.2.2.1 ∨ 1000 ≤ W.2.1 5) (wC W (cu W.2.1 0 6))
  (adR K.1 W.1 (loR W.1 (W.2.1 2)), chC W.2.1, brT W.1 (W.2.1 2) W.2.2.1, (W.1, W.2.1 2) :: W.2.2.2.1, W.2.2.2.2)
noncomputable def s_se (K : qT) (W : wT) : wT :=
  cif (1000 ≤ W.2.1 5) (wC W (cu W.2.1 0 6))
  (match W.2.2.2.1 with
    | [] => W
    | q :: t => (adR K.1 q.1 (hiR q.1 q.2), cu (chC W.2.1) 2 q.2, W.2.2.1, t, W.2.2.2.2))
noncomputable def stp (K : qT) (W : wT) : wT :=
  cif (W.2.1 1 = 0) (s_ch W) (cif (W.2.1 1 = 1) (s_pv W) (cif (W.2.1 1 = 2) (s_ju K W) (cif (W.2.1 1 = 3) (s_le K W) (cif (W.2.1 1 = 4) (s_cu K W) (cif (W.2.1 1 = 5) (s_br K W) (s_se K W))))))
noncomputable def itW (K : qT) (W : wT) : Nat → wT
  | 0 => W
  | k + 1 => stp K (itW K W k)
/-- where work(mo) stops -/
def stW (W : wT) (b : Int) : Prop := W.2.1 0 ≠ 1 ∨ (W.2.1 1 = 1 ∧ b ≤ W.2.1 4)
/-- what work(mo) comes to -/
def wkW (K : qT) (W : wT) (b : Int) (U : wT) : Prop := ∃ k, U = itW K W k ∧ ∀ q, q < k → ¬ stW (itW K W q) b
theorem wkW.rf {K : qT} {W : wT} {b : Int} : wkW K W b W := ⟨0, rfl, fun q h => absurd h (by omega)⟩
theorem wkW.st {K : qT} {W U : wT} {b : Int} (h : wkW K W b U) (n : ¬ stW U b) : wkW K W b (stp K U) := by
  obtain ⟨k, e, f⟩ := h
  refine ⟨k + 1, by rw [e]; rfl, fun q hq => ?_⟩
  by_cases z : q = k
  · rw [z, ← e]; exact n
  · exact f q (by omega)
theorem wkW.one {K : qT} {W U V : wT} {b : Int} (h : wkW K W b U) (g : wkW K W b V) (hU : stW U b) (hV : stW V b) : U = V := by
  obtain ⟨k, e, f⟩ := h
  obtain ⟨l, e2, f2⟩ := g
  have : k = l := by
    rcases (by omega : k < l ∨ k = l ∨ l < k) with z | z | z
    · exact absurd (by rw [← e]; exact hU) (f2 k z)
    · exact z
    · exact absurd (by rw [← e2]; exact hV) (f l z)
  rw [e, e2, this]
