/-! The tokens of a text: bytes B, n of them -/
def cb (B : Int → Int) (n i : Int) : Int := if 0 ≤ i ∧ i < n then B i else 0
abbrev isLt (c : Int) : Prop := (97 ≤ c ∧ c ≤ 122) ∨ (65 ≤ c ∧ c ≤ 90)
abbrev isDg (c : Int) : Prop := 48 ≤ c ∧ c ≤ 57
/-- the end of a run -/
def enN (st : Int → Prop) [DecidablePred st] : Nat → Int → Int
  | 0, p => p
  | m + 1, p => if st p then enN st m (p + 1) else p
def en (n : Int) (st : Int → Prop) [DecidablePred st] (p : Int) : Int := enN st (n - p).toNat p
theorem en_no {n : Int} {st : Int → Prop} [DecidablePred st] {p : Int} (h : ¬ st p) : en n st p = p := by
  unfold en; cases (n - p).toNat with
  | zero => rfl
  | succ m => exact if_neg h
theorem en_st {n : Int} {st : Int → Prop} [DecidablePred st] {p : Int} (hn : st p → p < n) (h : st p) : en n st p = en n st (p + 1) := by
  unfold en
  rw [show (n - p).toNat = (n - (p + 1)).toNat + 1 by have := hn h; omega]
  exact if_pos h
theorem enN_r {st : Int → Prop} [DecidablePred st] : ∀ (m : Nat) (p : Int), p ≤ enN st m p ∧ enN st m p ≤ p + m ∧ ∀ i, p ≤ i → i < enN st m p → st i := by
  intro m
  induction m with
  | zero => intro p; exact ⟨Int.le_refl _, by show p ≤ p + ((0 : Nat) : Int); omega, fun i h0 h1 => by have h1 : i < p := h1; omega⟩
  | succ m ih =>
    intro p
    show p ≤ (if st p then enN st m (p + 1) else p) ∧ (if st p then enN st m (p + 1) else p) ≤ p + ((m + 1 : Nat) : Int) ∧ ∀ i, p ≤ i → i < (if st p then enN st m (p + 1) else p) → st i
    by_cases c : st p
    · rw [if_pos c]; obtain ⟨a, b, d⟩ := ih (p + 1)
      refine ⟨by omega, by omega, fun i h0 h1 => ?_⟩
      by_cases q : i = p
      · rw [q]; exact c
      · exact d i (by omega) h1
    · rw [if_neg c]; exact ⟨Int.le_refl _, by omega, fun i h0 h1 => by omega⟩
theorem en_r {n : Int} {st : Int → Prop} [DecidablePred st] (p : Int) (hp : p ≤ n) : p ≤ en n st p ∧ en n st p ≤ n ∧ ∀ i, p ≤ i → i < en n st p → st i := by
  obtain ⟨a, b, d⟩ := enN_r (st := st) (n - p).toNat p
  exact ⟨a, by have : enN st (n - p).toNat p ≤ p + ((n - p).toNat : Int) := b; show enN st (n - p).toNat p ≤ n; omega, d⟩
abbrev stB (B : Int → Int) (n i : Int) : Prop := cb B n i = 32 ∨ cb B n i = 10
abbrev stN (B : Int → Int) (n i : Int) : Prop := isLt (cb B n i) ∨ isDg (cb B n i)
abbrev stD (B : Int → Int) (n i : Int) : Prop := isDg (cb B n i)
theorem cb_nz {B : Int → Int} {n i : Int} (h : cb B n i ≠ 0) : 0 ≤ i ∧ i < n ∧ cb B n i = B i := by
  unfold cb at h ⊢; by_cases c : 0 ≤ i ∧ i < n
  · exact ⟨c.1, c.2, if_pos c⟩
  · rw [if_neg c] at h; exact absurd rfl h
theorem cb_in {B : Int → Int} {n i : Int} (h0 : 0 ≤ i) (h1 : i < n) : cb B n i = B i := if_pos ⟨h0, h1⟩
theorem stN_lt {B : Int → Int} {n p : Int} (h : stN B n p) : p < n := (cb_nz (B := B) (n := n) (i := p) (by unfold stN isLt isDg at h; omega)).2.1
theorem stD_lt {B : Int → Int} {n p : Int} (h : stD B n p) : p < n := (cb_nz (B := B) (n := n) (i := p) (by unfold stD isDg at h; omega)).2.1
theorem stB_lt {B : Int → Int} {n p : Int} (h : stB B n p) : p < n := (cb_nz (B := B) (n := n) (i := p) (by unfold stB at h; omega)).2.1
/-- packed letters, and digits -/
def pkn (B : Int → Int) (p : Int) : Nat → Int
  | 0 => 0
  | w + 1 => pkn B p w * 256 + B (p + w)
def dvn (B : Int → Int) (p : Int) : Nat → Int
  | 0 => 0
  | w + 1 => 10 * dvn B p w + B (p + w) - 48
def wdk (x : Int) : Int := if x = 7168376 then 4 else if x = 7170414 then 5 else if x = 7562612 then 6 else if x = 7364978 then 7 else if x = 7758194 then 8 else if x = 512853240933 then 9 else if x = 7499639 then 10 else if x = 7566701 then 11 else if x = 26990 then 12 else 2
def sg1 (c : Int) : Int := if c = 61 then 13 else if c = 59 then 15 else if c = 44 then 16 else if c = 91 then 17 else if c = 93 then 18 else if c = 40 then 19 else if c = 41 then 20 else if c = 43 then 21 else if c = 45 then 22 else if c = 42 then 23 else if c = 58 then 24 else 1
def sg2 (c : Int) : Int := if c = 46 then 14 else if c = 60 then 25 else if c = 62 then 26 else 0
/-- a sign of two bytes -/
abbrev two (c d : Int) : Prop := (c = 46 ∧ d = 46) ∨ (c = 60 ∧ d = 61) ∨ (c = 62 ∧ d = 61)
def eOf (B : Int → Int) (n p : Int) : Int := if isLt (cb B n p) then en n (stN B n) p else if isDg (cb B n p) then en n (stD B n) p else if two (cb B n p) (cb B n (p + 1)) then p + 2 else p + 1
def kOf (B : Int → Int) (n p : Int) : Int := if isLt (cb B n p) then (if en n (stN B n) p - p ≤ 8 then wdk (pkn B p (en n (stN B n) p - p).toNat) else 1) else if isDg (cb B n p) then (if en n (stD B n) p - p ≤ 5 ∧ ¬ isLt (cb B n (en n (stD B n) p)) then 3 else 1) else if two (cb B n p) (cb B n (p + 1)) then sg2 (cb B n p) else sg1 (cb B n p)
def vOf (B : Int → Int) (n p : Int) : Int := if isLt (cb B n p) then pkn B p (en n (stN B n) p - p).toNat else if isDg (cb B n p) then dvn B p (en n (stD B n) p - p).toNat else 0
def kS (B : Int → Int) (n p : Int) : Int := if p < n then kOf B n p else 0
/-- where the tokens begin -/
def psn (B : Int → Int) (n : Int) : Nat → Int
  | 0 => en n (stB B n) 0
  | i + 1 => en n (stB B n) (eOf B n (psn B n i))
/-- the tokens are there: kinds k, values v, T of them -/
def TKS (B : Int → Int) (n T : Int) (k v f : Int → Int) : Prop := 1 ≤ T ∧ (∀ j : Nat, (j : Int) < T - 1 → 2 ≤ kS B n (psn B n j)) ∧ kS B n (psn B n (T - 1).toNat) ≤ 1 ∧ ∀ j : Nat, (j : Int) < T → f j = psn B n j ∧ k j = kS B n (psn B n j) ∧ (2 ≤ kS B n (psn B n j) → v j = vOf B n (psn B n j))
theorem TKS.T {B : Int → Int} {n T T' : Int} {k v f k' v' f' : Int → Int} (h : TKS B n T k v f) (h' : TKS B n T' k' v' f') : T = T' := by
  have a := h.1; have a' := h'.1
  rcases Int.lt_trichotomy T T' with q | q | q
  · have := h'.2.1 (T - 1).toNat (by omega); have := h.2.2.1; omega
  · exact q
  · have := h.2.1 (T' - 1).toNat (by omega); have := h'.2.2.1; omega
