/-! The grammar of a model's text, over the kinds of its tokens: where a part ends, if it stands -/
def ogT (k : Int → Int) (c p : Int) : Option Int := if k p = c then some (p + 1) else none
def ogL (st : Int → Prop) [DecidablePred st] (R : Int → Option Int) : Nat → Int → Option Int
  | 0, _ => none
  | n + 1, p => if st p then (R p).bind (ogL st R n) else some p
/-- as often as it can be -/
def ogW (T : Int) (st : Int → Prop) [DecidablePred st] (R : Int → Option Int) (p : Int) : Option Int := ogL st R ((T - p).toNat + 1) p
theorem ogL_mono {st : Int → Prop} [DecidablePred st] {R : Int → Option Int} {T : Int} (hT : ∀ p, st p → p < T) (hR : ∀ p q, st p → R p = some q → p < q) : ∀ (n m : Nat) (p : Int), (T - p).toNat + 1 ≤ n → (T - p).toNat + 1 ≤ m → ogL st R n p = ogL st R m p := by
  intro n
  induction n with
  | zero => intro m p h _; omega
  | succ n ih =>
    intro m p h h'
    cases m with
    | zero => omega
    | succ m =>
      show (if st p then (R p).bind (ogL st R n) else some p) = (if st p then (R p).bind (ogL st R m) else some p)
      by_cases c : st p
      · rw [if_pos c, if_pos c]
        cases e : R p with
        | none => rfl
        | some q =>
          have h1 := hT p c; have h2 := hR p q c e
          exact ih m q (by omega) (by omega)
      · rw [if_neg c, if_neg c]
theorem ogW_no {st : Int → Prop} [DecidablePred st] {R : Int → Option Int} {T p : Int} (c : ¬ st p) : ogW T st R p = some p := by
  show (if st p then (R p).bind (ogL st R (T - p).toNat) else some p) = some p
  rw [if_neg c]
theorem ogW_fa {st : Int → Prop} [DecidablePred st] {R : Int → Option Int} {T p : Int} (c : st p) (e : R p = none) : ogW T st R p = none := by
  show (if st p then (R p).bind (ogL st R (T - p).toNat) else some p) = none
  rw [if_pos c, e]; rfl
theorem ogW_so {st : Int → Prop} [DecidablePred st] {R : Int → Option Int} {T p q : Int} (hT : ∀ p, st p → p < T) (hR : ∀ p q, st p → R p = some q → p < q) (c : st p) (e : R p = some q) : ogW T st R p = ogW T st R q := by
  have h1 := hT p c; have h2 := hR p q c e
  show (if st p then (R p).bind (ogL st R (T - p).toNat) else some p) = ogL st R ((T - q).toNat + 1) q
  rw [if_pos c, e]
  exact ogL_mono hT hR _ _ q (by omega) (by omega)
theorem ogW_st {st : Int → Prop} [DecidablePred st] {R : Int → Option Int} {T p : Int} (hT : ∀ p, st p → p < T) (hR : ∀ p q, st p → R p = some q → p < q) (c : st p) : ogW T st R p = (R p).bind (ogW T st R) := by
  cases e : R p with
  | none => exact ogW_fa c e
  | some q => exact ogW_so hT hR c e
theorem ogW_le {st : Int → Prop} [DecidablePred st] {R : Int → Option Int} {T : Int} (hR : ∀ p q, st p → R p = some q → p < q) : ∀ (p q : Int), ogW T st R p = some q → p ≤ q := by
  have : ∀ (n : Nat) (p q : Int), ogL st R n p = some q → p ≤ q := by
    intro n
    induction n with
    | zero => intro p q h; exact absurd h (by intro h; cases h)
    | succ n ih =>
      intro p q h
      have h : (if st p then (R p).bind (ogL st R n) else some p) = some q := h
      by_cases c : st p
      · rw [if_pos c] at h
        cases e : R p with
        | none => rw [e] at h; cases h
        | some z => rw [e] at h; have := hR p z c e; have := ih z q h; omega
      · rw [if_neg c] at h; cases h; omega
  exact fun p q h => this _ p q h
theorem ogT_lt {k : Int → Int} {c p q : Int} (h : ogT k c p = some q) : q = p + 1 ∧ k p = c := by
  unfold ogT at h; by_cases e : k p = c
  · rw [if_pos e] at h; cases h; exact ⟨rfl, e⟩
  · rw [if_neg e] at h; cases h
theorem ogB {a : Option Int} {f : Int → Option Int} {q : Int} (h : a.bind f = some q) : ∃ x, a = some x ∧ f x = some q := by
  cases a with
  | none => cases h
  | some x => exact ⟨x, rfl, h⟩
/-- INDEXES -/
def ogI (k : Int → Int) (p : Int) : Option Int := if k p = 17 then (ogT k 2 (p + 1)).bind (fun a => if k a = 16 then (ogT k 2 (a + 1)).bind (ogT k 18) else ogT k 18 a) else some p
/-- VALUE -/
def ogV (k : Int → Int) (p : Int) : Option Int := if k p = 22 then ogT k 3 (p + 1) else ogT k 3 p
def ogVs (T : Int) (k : Int → Int) (p : Int) : Option Int := (ogV k p).bind (ogW T (fun p => k p = 16) (fun p => ogV k (p + 1)))
/-- I -/
def ogX (k : Int → Int) (p : Int) : Option Int := if k p = 3 then some (p + 1) else (ogT k 2 p).bind (fun a => if k a = 21 ∨ k a = 22 then ogT k 3 (a + 1) else some a)
def ogXs (k : Int → Int) (p : Int) : Option Int := (ogX k p).bind (fun a => if k a = 16 then (ogX k (a + 1)).bind (ogT k 18) else ogT k 18 a)
def ogP (T : Int) (k : Int → Int) (F : Int → Option Int) (p : Int) : Option Int := (F p).bind (ogW T (fun p => k p = 23) (fun p => F (p + 1)))
def ogU (T : Int) (k : Int → Int) (F : Int → Option Int) (p : Int) : Option Int := (ogP T k F p).bind (ogW T (fun p => k p = 21 ∨ k p = 22) (fun p => ogP T k F (p + 1)))
/-- F, with so many that may still stand around what is in it -/
def ogF (T : Int) (k : Int → Int) : Nat → Int → Option Int
  | 0, _ => none
  | n + 1, p => if k p = 3 then some (p + 1) else if k p = 22 then ogF T k n (p + 1) else if k p = 19 then (ogU T k (ogF T k n) (p + 1)).bind (ogT k 20) else if k p = 11 then (ogT k 2 (p + 1)).bind (fun a => (ogT k 12 a).bind (fun b => (ogT k 2 b).bind (fun c => (ogT k 19 c).bind (fun d => (ogU T k (ogF T k n) d).bind (ogT k 20))))) else if k p = 2 then (if k (p + 1) = 17 then ogXs k (p + 1 + 1) else some (p + 1)) else none
def ogD (T : Int) (k : Int → Int) (p : Int) : Option Int := (ogT k 2 (p + 1)).bind (fun a => if k p = 6 then (ogT k 13 a).bind (fun b => (ogT k 3 b).bind (fun c => (ogT k 14 c).bind (fun d => (ogT k 3 d).bind (ogT k 15)))) else (ogI k a).bind (fun b => if k p = 8 then (if k b = 9 then ogT k 15 (b + 1) else ogT k 15 b) else (ogT k 13 b).bind (fun c => (ogVs T k c).bind (ogT k 15))))
def ogRi (k : Int → Int) (p : Int) : Option Int := if k p = 17 then (ogT k 2 (p + 1)).bind (fun a => (ogT k 12 a).bind (fun b => (ogT k 2 b).bind (ogT k 18))) else some p
def ogR2 (T : Int) (k : Int → Int) (d : Int) : Option Int := if k d = 25 ∨ k d = 26 ∨ k d = 13 then (ogU T k (ogF T k 30) (d + 1)).bind (ogT k 15) else none
def ogR1 (T : Int) (k : Int → Int) (b : Int) : Option Int := (ogT k 24 b).bind (fun c => (ogU T k (ogF T k 30) c).bind (ogR2 T k))
def ogR (T : Int) (k : Int → Int) (p : Int) : Option Int := (ogT k 2 (p + 1)).bind (fun a => (ogRi k a).bind (ogR1 T k))
def ogG2 (T : Int) (k : Int → Int) (c : Int) : Option Int := (ogW T (fun p => k p = 10) (ogR T k) c).bind (fun d => if k d = 0 then some d else none)
def ogG1p (T : Int) (k : Int → Int) (p : Int) : Option Int := (ogU T k (ogF T k 30) p).bind (fun b => (ogT k 15 b).bind (ogG2 T k))
def ogG1 (T : Int) (k : Int → Int) (a : Int) : Option Int := if k a = 4 ∨ k a = 5 then ogG1p T k (a + 1) else none
def ogG (T : Int) (k : Int → Int) : Option Int := (ogW T (fun p => k p = 6 ∨ k p = 7 ∨ k p = 8) (ogD T k) 0).bind (ogG1 T k)
theorem ogF_pos {T : Int} {k : Int → Int} {n : Nat} {p : Int} (h : 0 < n) : ogF T k n p = if k p = 3 then some (p + 1) else if k p = 22 then ogF T k (n - 1) (p + 1) else if k p = 19 then (ogU T k (ogF T k (n - 1)) (p + 1)).bind (ogT k 20) else if k p = 11 then (ogT k 2 (p + 1)).bind (fun a => (ogT k 12 a).bind (fun b => (ogT k 2 b).bind (fun c => (ogT k 19 c).bind (fun d => (ogU T k (ogF T k (n - 1)) d).bind (ogT k 20))))) else if k p = 2 then (if k (p + 1) = 17 then ogXs k (p + 1 + 1) else some (p + 1)) else none := by
  cases n with
  | zero => omega
  | succ n => rfl
/-! what a part takes is more than nothing -/
def ogInc (F : Int → Option Int) : Prop := ∀ p q, F p = some q → p < q
theorem ogV_inc {k : Int → Int} : ogInc (ogV k) := fun p q h => by
  unfold ogV at h; by_cases c : k p = 22
  · rw [if_pos c] at h; have := ogT_lt h; omega
  · rw [if_neg c] at h; have := ogT_lt h; omega
theorem ogVs_inc {T : Int} {k : Int → Int} : ogInc (ogVs T k) := fun p q h => by
  obtain ⟨x, h1, h2⟩ := ogB h
  have := ogV_inc p x h1; have := ogW_le (fun a b _ h => by have := ogV_inc _ _ h; omega) x q h2; omega
theorem ogX_inc {k : Int → Int} : ogInc (ogX k) := fun p q h => by
  unfold ogX at h
  by_cases c : k p = 3
  · rw [if_pos c] at h; cases h; omega
  · rw [if_neg c] at h
    obtain ⟨x, h1, h⟩ := ogB h
    have := ogT_lt h1
    by_cases e : k x = 21 ∨ k x = 22
    · rw [if_pos e] at h; have := ogT_lt h; omega
    · rw [if_neg e] at h; cases h; omega
theorem ogXs_inc {k : Int → Int} : ogInc (ogXs k) := fun p q h => by
  obtain ⟨a, h1, h2⟩ := ogB h
  have := ogX_inc p a h1
  by_cases c : k a = 16
  · rw [if_pos c] at h2; obtain ⟨b, h3, h4⟩ := ogB h2; have := ogX_inc _ b h3; have := ogT_lt h4; omega
  · rw [if_neg c] at h2; have := ogT_lt h2; omega
theorem ogP_inc {T : Int} {k : Int → Int} {F : Int → Option Int} (hF : ogInc F) : ogInc (ogP T k F) := fun p q h => by
  obtain ⟨x, h1, h2⟩ := ogB h
  have := hF p x h1; have := ogW_le (fun a b _ h => by have := hF _ _ h; omega) x q h2; omega
theorem ogU_inc {T : Int} {k : Int → Int} {F : Int → Option Int} (hF : ogInc F) : ogInc (ogU T k F) := fun p q h => by
  obtain ⟨x, h1, h2⟩ := ogB h
  have := ogP_inc hF p x h1; have := ogW_le (fun a b _ h => by have := ogP_inc hF _ _ h; omega) x q h2; omega
theorem ogF_inc {T : Int} {k : Int → Int} : ∀ n, ogInc (ogF T k n) := by
  intro n
  induction n with
  | zero => intro p q h; cases h
  | succ n ih =>
    intro p q h
    unfold ogF at h
    by_cases c1 : k p = 3
    · rw [if_pos c1] at h; cases h; omega
    rw [if_neg c1] at h
    by_cases c2 : k p = 22
    · rw [if_pos c2] at h; have := ih _ _ h; omega
    rw [if_neg c2] at h
    by_cases c3 : k p = 19
    · rw [if_pos c3] at h; obtain ⟨x, h1, h2⟩ := ogB h; have := ogU_inc ih _ _ h1; have := ogT_lt h2; omega
    rw [if_neg c3] at h
    by_cases c4 : k p = 11
    · rw [if_pos c4] at h
      obtain ⟨a, h1, h⟩ := ogB h; obtain ⟨b, h2, h⟩ := ogB h; obtain ⟨c, h3, h⟩ := ogB h; obtain ⟨d, h4, h⟩ := ogB h; obtain ⟨e, h5, h⟩ := ogB h
      have := ogT_lt h1; have := ogT_lt h2; have := ogT_lt h3; have := ogT_lt h4; have := ogU_inc ih _ _ h5; have := ogT_lt h; omega
    rw [if_neg c4] at h
    by_cases c5 : k p = 2
    · rw [if_pos c5] at h
      by_cases c6 : k (p + 1) = 17
      · rw [if_pos c6] at h; have := ogXs_inc _ _ h; omega
      · rw [if_neg c6] at h; cases h; omega
    · rw [if_neg c5] at h; cases h
theorem ogI_le {k : Int → Int} {p q : Int} (h : ogI k p = some q) : p ≤ q := by
  unfold ogI at h; by_cases c : k p = 17
  · rw [if_pos c] at h; obtain ⟨a, h1, h⟩ := ogB h; have := ogT_lt h1
    by_cases d : k a = 16
    · rw [if_pos d] at h; obtain ⟨b, h2, h⟩ := ogB h; have := ogT_lt h2; have := ogT_lt h; omega
    · rw [if_neg d] at h; have := ogT_lt h; omega
  · rw [if_neg c] at h; cases h; omega
theorem ogD_inc {T : Int} {k : Int → Int} : ogInc (ogD T k) := fun p q h => by
  obtain ⟨a, h1, h⟩ := ogB h; have := ogT_lt h1
  by_cases c : k p = 6
  · rw [if_pos c] at h; obtain ⟨b, h2, h⟩ := ogB h; obtain ⟨c, h3, h⟩ := ogB h; obtain ⟨d, h4, h⟩ := ogB h; obtain ⟨e, h5, h⟩ := ogB h
    have := ogT_lt h2; have := ogT_lt h3; have := ogT_lt h4; have := ogT_lt h5; have := ogT_lt h; omega
  · rw [if_neg c] at h; obtain ⟨b, h2, h⟩ := ogB h; have := ogI_le h2
    by_cases d : k p = 8
    · rw [if_pos d] at h
      by_cases e : k b = 9
      · rw [if_pos e] at h; have := ogT_lt h; omega
      · rw [if_neg e] at h; have := ogT_lt h; omega
    · rw [if_neg d] at h; obtain ⟨x, h3, h⟩ := ogB h; obtain ⟨y, h4, h⟩ := ogB h; have := ogT_lt h3; have := ogVs_inc _ _ h4; have := ogT_lt h; omega
theorem ogRi_le {k : Int → Int} {p q : Int} (h : ogRi k p = some q) : p ≤ q := by
  unfold ogRi at h; by_cases c : k p = 17
  · rw [if_pos c] at h; obtain ⟨a, h1, h⟩ := ogB h; obtain ⟨b, h2, h⟩ := ogB h; obtain ⟨c, h3, h⟩ := ogB h; have := ogT_lt h1; have := ogT_lt h2; have := ogT_lt h3; have := ogT_lt h; omega
  · rw [if_neg c] at h; cases h; omega
theorem ogR_inc {T : Int} {k : Int → Int} : ogInc (ogR T k) := fun p q h => by
  obtain ⟨a, h1, h⟩ := ogB h; obtain ⟨b, h2, h⟩ := ogB h; obtain ⟨c, h3, h⟩ := ogB h; obtain ⟨d, h4, h⟩ := ogB h
  have := ogT_lt h1; have := ogRi_le h2; have := ogT_lt h3; have := ogU_inc (ogF_inc 30) _ _ h4
  unfold ogR2 at h
  by_cases e : k d = 25 ∨ k d = 26 ∨ k d = 13
  · rw [if_pos e] at h; obtain ⟨x, h5, h⟩ := ogB h; have := ogU_inc (ogF_inc 30) _ _ h5; have := ogT_lt h; omega
  · rw [if_neg e] at h; cases h
/-! loops, with the side conditions met -/
theorem ogW23 {T : Int} {k : Int → Int} {F : Int → Option Int} {p q : Int} (hk : ∀ p, T ≤ p → k p = 0) (hF : ogInc F) (c : k p = 23) (e : F (p + 1) = some q) : ogW T (fun p => k p = 23) (fun p => F (p + 1)) p = ogW T (fun p => k p = 23) (fun p => F (p + 1)) q :=
  ogW_so (fun p (h : k p = 23) => Int.lt_of_not_ge (fun z => by rw [hk p z] at h; omega)) (fun a b _ h => by have := hF _ _ h; omega) c e
theorem ogW2x {T : Int} {k : Int → Int} {F : Int → Option Int} {p q : Int} (hk : ∀ p, T ≤ p → k p = 0) (hF : ogInc F) (c : k p = 21 ∨ k p = 22) (e : F (p + 1) = some q) : ogW T (fun p => k p = 21 ∨ k p = 22) (fun p => F (p + 1)) p = ogW T (fun p => k p = 21 ∨ k p = 22) (fun p => F (p + 1)) q :=
  ogW_so (fun p (h : k p = 21 ∨ k p = 22) => Int.lt_of_not_ge (fun z => by rw [hk p z] at h; omega)) (fun a b _ h => by have := hF _ _ h; omega) c e
theorem ogW16 {T : Int} {k : Int → Int} {p q : Int} (hk : ∀ p, T ≤ p → k p = 0) (c : k p = 16) (e : ogV k (p + 1) = some q) : ogW T (fun p => k p = 16) (fun p => ogV k (p + 1)) p = ogW T (fun p => k p = 16) (fun p => ogV k (p + 1)) q :=
  ogW_so (fun p (h : k p = 16) => Int.lt_of_not_ge (fun z => by rw [hk p z] at h; omega)) (fun a b _ h => by have := ogV_inc _ _ h; omega) c e
theorem ogW678 {T : Int} {k : Int → Int} {p q : Int} (hk : ∀ p, T ≤ p → k p = 0) (c : k p = 6 ∨ k p = 7 ∨ k p = 8) (e : ogD T k p = some q) : ogW T (fun p => k p = 6 ∨ k p = 7 ∨ k p = 8) (ogD T k) p = ogW T (fun p => k p = 6 ∨ k p = 7 ∨ k p = 8) (ogD T k) q :=
  ogW_so (fun p (h : k p = 6 ∨ k p = 7 ∨ k p = 8) => Int.lt_of_not_ge (fun z => by rw [hk p z] at h; omega)) (fun a b _ h => ogD_inc _ _ h) c e
theorem ogW10 {T : Int} {k : Int → Int} {p q : Int} (hk : ∀ p, T ≤ p → k p = 0) (c : k p = 10) (e : ogR T k p = some q) : ogW T (fun p => k p = 10) (ogR T k) p = ogW T (fun p => k p = 10) (ogR T k) q :=
  ogW_so (fun p (h : k p = 10) => Int.lt_of_not_ge (fun z => by rw [hk p z] at h; omega)) (fun a b _ h => ogR_inc _ _ h) c e
theorem ogW16s {T : Int} {k : Int → Int} {p : Int} (hk : ∀ p, T ≤ p → k p = 0) (c : k p = 16) : ogW T (fun p => k p = 16) (fun p => ogV k (p + 1)) p = ogVs T k (p + 1) :=
  ogW_st (fun p (h : k p = 16) => Int.lt_of_not_ge (fun z => by rw [hk p z] at h; omega)) (fun a b _ h => by have := ogV_inc _ _ h; omega) c
