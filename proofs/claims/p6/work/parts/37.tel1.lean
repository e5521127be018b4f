theorem tab8 {j v : Int} : ((ab 8 j).1 ≤ v ∧ v ≤ (ab 8 j).2) ↔ ((-2147483648 ≤ v ∧ v ≤ 2147483647) ∧ (j % 6 = 0 → 0 ≤ v ∧ v ≤ 26) ∧ (j % 6 = 1 ∨ j % 6 = 2 → 0 ≤ v ∧ v ≤ 2054847098) ∧ (j % 6 = 3 ∨ j % 6 = 4 → -1 ≤ v ∧ v ≤ 127)) := by
  simp only [ab]
  split
  · simp only []; omega
  · split
    · simp only []; omega
    · split
      · simp only []; omega
      · split
        · simp only [fI]; omega
        · simp only []; omega
theorem tabR {G : sG} {S : sS} {x y : Nat} {b : Int} (h : cX G S x y b) (j : Int) : (-2147483648 ≤ S.2.1 17 j ∧ S.2.1 17 j ≤ 2147483647) ∧ (j % 6 = 0 → 0 ≤ S.2.1 17 j ∧ S.2.1 17 j ≤ 26) ∧ (j % 6 = 1 ∨ j % 6 = 2 → 0 ≤ S.2.1 17 j ∧ S.2.1 17 j ≤ 2054847098) ∧ (j % 6 = 3 ∨ j % 6 = 4 → -1 ≤ S.2.1 17 j ∧ S.2.1 17 j ≤ 127) := tab8.mp (h.1.2.1 17 j (by decide))
def fc (S : sS) (s q : Int) : Int := S.2.1 17 (s * 6 + q)
def fr8 (q v : Int) : Prop := (-2147483648 ≤ v ∧ v ≤ 2147483647) ∧ (q = 0 → 0 ≤ v ∧ v ≤ 26) ∧ (q = 1 ∨ q = 2 → 0 ≤ v ∧ v ≤ 2054847098) ∧ (q = 3 ∨ q = 4 → -1 ≤ v ∧ v ≤ 127)
theorem fr8_m {s q v : Int} (hq : 0 ≤ q ∧ q ≤ 5) : fr8 q v ↔ ((ab (acode 17) (s * 6 + q)).1 ≤ v ∧ v ≤ (ab (acode 17) (s * 6 + q)).2) := by
  rw [show acode 17 = 8 from rfl, tab8, fr8]; omega
theorem fr8_c {G : sG} {S : sS} {x y : Nat} {b : Int} (h : cX G S x y b) {s q : Int} (hq : 0 ≤ q ∧ q ≤ 5) : fr8 q (fc S s q) := (fr8_m hq).mpr (h.1.2.1 17 _ (by decide))
theorem l2i_lb {v z : Int} (h : lb v) (e : iv z = (jv v).toInt32) (hz : -2147483648 ≤ z ∧ z ≤ 2147483647) : 0 ≤ z ∧ z ≤ 2054847098 := by
  have e2 : (jv v).toInt32 = iv v := by simp [jv, iv]
  rw [e2] at e
  have := congrArg Int32.toInt e
  rw [Int32.toInt_ofInt, Int32.toInt_ofInt] at this
  unfold lb at h
  simp only [Int.bmod, show Int32.size = 4294967296 from rfl] at this
  split at this <;> split at this <;> omega
theorem lb_i2 {v : Int} (h : lb v) : ∃ z : Int, iv v = iv z ∧ 0 ≤ z ∧ z ≤ 2054847098 := by
  obtain ⟨z, e, h1, h2⟩ := iv_of (iv v)
  have e3 : (jv v).toInt32 = iv v := by simp [jv, iv]
  exact ⟨z, e, l2i_lb h (by rw [e3]; exact e.symm) ⟨h1, h2⟩⟩
theorem fc_u {S : sS} {s q s' q' v : Int} (hq : 0 ≤ q ∧ q ≤ 5) (hq' : 0 ≤ q' ∧ q' ≤ 5) : fc (uA S 17 (s * 6 + q) v) s' q' = if s' = s ∧ q' = q then v else fc S s' q' := by
  unfold fc; rw [uA_get]
  by_cases h : s' = s ∧ q' = q
  · rw [if_pos h, if_pos ⟨rfl, by omega⟩]
  · rw [if_neg h, if_neg (by omega)]
/-- sets hold 1 to 12 numbers; INDEXES are sets -/
def TS (S : sS) : Prop := ∀ s, 0 ≤ s → s < S.1 11 9 → (fc S s 0 = 6 → 0 ≤ fc S s 2 - fc S s 1 ∧ fc S s 2 - fc S s 1 ≤ 11) ∧ (∀ q, q = 3 ∨ q = 4 → fc S s q = -1 ∨ (0 ≤ fc S s q ∧ fc S s q < S.1 11 9 ∧ fc S (fc S s q) 0 = 6))
theorem TS0 {S : sS} (h : S.1 11 9 = 0) : TS S := fun s s0 s1 => absurd s1 (by omega)
/-- TS speaks of known and the table alone -/
theorem TS.of {S u : sS} (h : TS S) (e : u.1 11 9 = S.1 11 9) (e2 : ∀ j, u.2.1 17 j = S.2.1 17 j) : TS u := by
  have ef : ∀ s q, fc u s q = fc S s q := fun s q => e2 _
  intro s s0 s1
  simp only [ef, e] at s1 ⊢
  exact h s s0 s1
theorem TS.set {S : sS} {s q v : Int} (h : TS S) (hq : q = 3 ∨ q = 4) (hv : 0 ≤ v ∧ v < S.1 11 9) (e6 : fc S v 0 = 6) : TS (uA S 17 (s * 6 + q) v) := by
  have f0 : ∀ s' q', q' = 0 ∨ q' = 1 ∨ q' = 2 → fc (uA S 17 (s * 6 + q) v) s' q' = fc S s' q' := fun s' q' h' => by rw [fc_u (by omega) (by omega), if_neg (by omega)]
  intro s' s0 s1
  rw [f0 s' 0 (by omega), f0 s' 1 (by omega), f0 s' 2 (by omega)]
  refine ⟨(h s' s0 s1).1, fun q' hq' => ?_⟩
  rw [fc_u (by omega) (by omega)]
  split
  · right; refine ⟨hv.1, hv.2, ?_⟩; rw [f0 _ 0 (by omega)]; exact e6
  · rcases (h s' s0 s1).2 q' hq' with a | a
    · exact .inl a
    · right; refine ⟨a.1, a.2.1, ?_⟩; rw [f0 _ 0 (by omega)]; exact a.2.2
theorem TS.base {S : sS} {s v : Int} (h : TS S) : TS (uA S 17 (s * 6 + 5) v) := by
  have f0 : ∀ s' q', 0 ≤ q' → q' ≤ 4 → fc (uA S 17 (s * 6 + 5) v) s' q' = fc S s' q' := fun s' q' h0 h' => by rw [fc_u (by omega) (by omega), if_neg (by omega)]
  intro s' s0 s1
  rw [f0 s' 0 (by omega) (by omega), f0 s' 1 (by omega) (by omega), f0 s' 2 (by omega) (by omega)]
  refine ⟨(h s' s0 s1).1, fun q' hq' => ?_⟩
  rw [f0 s' q' (by omega) (by omega), f0 _ 0 (by omega) (by omega)]
  exact (h s' s0 s1).2 q' hq'
theorem TS.low {S : sS} {s v : Int} (h : TS S) (hn : fc S s 0 ≠ 6) : TS (uA S 17 (s * 6 + 1) v) := by
  have f0 : ∀ s' q', q' = 0 ∨ q' = 2 ∨ q' = 3 ∨ q' = 4 → fc (uA S 17 (s * 6 + 1) v) s' q' = fc S s' q' := fun s' q' h' => by rw [fc_u (by omega) (by omega), if_neg (by omega)]
  intro s' s0 s1
  rw [f0 s' 0 (by omega), f0 s' 2 (by omega)]
  refine ⟨fun e => ?_, fun q' hq' => ?_⟩
  · have ns : s' ≠ s := fun q => hn (by rw [← q]; exact e)
    rw [fc_u (by omega) (by omega), if_neg (by omega)]; exact (h s' s0 s1).1 e
  · rw [f0 s' q' (by omega), f0 _ 0 (by omega)]; exact (h s' s0 s1).2 q' hq'
theorem TS.pop {S : sS} (h : TS S) (hn : fc S (S.1 11 9 - 1) 0 ≠ 6) : TS (uF S 11 9 (S.1 11 9 - 1)) := by
  intro s s0 s1
  rw [uF_on] at s1 ⊢
  have := h s s0 (by omega)
  refine ⟨this.1, fun q hq => ?_⟩
  rcases this.2 q hq with a | a
  · exact .inl a
  · refine .inr ⟨a.1, ?_, a.2.2⟩
    have n1 : fc S s q ≠ S.1 11 9 - 1 := fun e => hn (e ▸ a.2.2)
    show fc S s q < S.1 11 9 - 1
    omega
/-- what learn writes -/
def LN (S u : sS) (r so : Int) : Prop := ∀ s q, 0 ≤ q → q ≤ 5 → fc u s q = if s = r then (if q = 0 then so else if q = 3 ∨ q = 4 then -1 else fc S s q) else fc S s q
theorem learn_f {S0 S u1 u2 u3 : sS} {r so : Int} (e1 : u1 = uA S0 17 (r * 6 + 0) so) (e2 : u2 = uA u1 17 (r * 6 + 3) (-1)) (e3 : u3 = uA u2 17 (r * 6 + 4) (-1)) (e0 : ∀ j, S0.2.1 17 j = S.2.1 17 j) : LN S u3 r so := by
  intro s q q0 q5
  have e : fc S0 s q = fc S s q := e0 _
  rw [e3, fc_u (by omega) (by omega), e2, fc_u (by omega) (by omega), e1, fc_u (by omega) (by omega), e]
  grind
theorem TS.learn {S u : sS} {so : Int} (h : TS S) (k0 : 0 ≤ S.1 11 9) (e9 : u.1 11 9 = S.1 11 9 + 1) (ef : LN S u (S.1 11 9) so) (hs : so ≠ 6) : TS u := by
  intro s s0 s1
  rw [e9] at s1 ⊢
  by_cases a : s = S.1 11 9
  · refine ⟨fun e => ?_, fun q hq => .inl ?_⟩
    · rw [ef s 0 (by omega) (by omega), if_pos a, if_pos rfl] at e; exact absurd e hs
    · rw [ef s q (by omega) (by omega), if_pos a, if_neg (by omega), if_pos hq]
  · have g : ∀ q, 0 ≤ q → q ≤ 5 → fc u s q = fc S s q := fun q q0 q5 => by rw [ef s q q0 q5, if_neg a]
    have hh := h s s0 (by omega)
    rw [g 0 (by omega) (by omega), g 1 (by omega) (by omega), g 2 (by omega) (by omega)]
    refine ⟨hh.1, fun q hq => ?_⟩
    rw [g q (by omega) (by omega)]
    rcases hh.2 q hq with b | b
    · exact .inl b
    · refine .inr ⟨b.1, by omega, ?_⟩
      rw [ef _ 0 (by omega) (by omega), if_neg (by omega)]; exact b.2.2
def pT (k : Nat) : Bool := Nat.beq k 11 || rgB 16 17 k
theorem p11_T : ∀ k, p1 11 k = true → pT k = true := fun k h => by
  have : k = 11 := Nat.eq_of_beq_eq_true h
  subst this; rfl
theorem p17_T : ∀ k, p1 17 k = true → pT k = true := fun k h => by
  have : k = 17 := Nat.eq_of_beq_eq_true h
  subst this; rfl
theorem TS.size {S : sS} (h : TS S) {s q a r : Int} (hs : 0 ≤ s ∧ s < S.1 11 9) (hq : q = 3 ∨ q = 4) (ea : a = fc S s q) (er : (a < 0 → r = 1) ∧ (0 ≤ a → r = fc S a 2 - fc S a 1 + 1)) : 1 ≤ r ∧ r ≤ 12 := by
  rcases (h s hs.1 hs.2).2 q hq with b | b
  · rw [← ea] at b; have := er.1 (by omega); omega
  · rw [← ea] at b
    have e := er.2 b.1
    have := (h a b.1 b.2.1).1 b.2.2
    omega
theorem m12 {a b : Int} (ha : 1 ≤ a ∧ a ≤ 12) (hb : 1 ≤ b ∧ b ≤ 12) : 1 ≤ a * b ∧ a * b ≤ 144 := by
  have h1 := Int.mul_le_mul ha.2 hb.2 (by omega) (by omega)
  have h2 := Int.mul_pos (a := a) (b := b) (by omega) (by omega)
  omega
theorem SG.fr {S u : sS} {P : pS} (f : Fr S u P) (h1 : P 12 = false) (h2 : P 13 = false) (h3 : P 15 = false) (h : SG S) : SG u := fun j j0 j1 => by
  rw [(f 12 h1).1] at j1
  rw [(f 13 h2).2.1, (f 15 h3).2.2.1]
  exact h j j0 j1
theorem TS.newset {S u1 u0 ua ub u : sS} {r low high : Int} (h : TS S) (k0 : 0 ≤ S.1 11 9) (er : r = S.1 11 9) (e9 : u.1 11 9 = S.1 11 9 + 1) (hl : LN S u1 r 6) (hb : 0 ≤ high - low ∧ high - low ≤ 11) (ea : ua = uA u0 17 (r * 6 + 1) low) (eb : ub = uA ua 17 (r * 6 + 2) high) (e0 : ∀ j, u0.2.1 17 j = u1.2.1 17 j) (eu : ∀ j, u.2.1 17 j = ub.2.1 17 j) : TS u := by
  have f : ∀ s q, 0 ≤ q → q ≤ 5 → fc u s q = if s = r ∧ q = 2 then high else if s = r ∧ q = 1 then low else fc u1 s q := fun s q q0 q5 => by
    have e1 : fc u s q = fc ub s q := eu _
    have e2 : fc u0 s q = fc u1 s q := e0 _
    rw [e1, eb, fc_u (by omega) (by omega), ea, fc_u (by omega) (by omega), e2]
  intro s s0 s1
  rw [e9] at s1 ⊢
  by_cases a : s = r
  · refine ⟨fun _ => ?_, fun q hq => .inl ?_⟩
    · rw [f s 2 (by omega) (by omega), f s 1 (by omega) (by omega), if_pos ⟨a, rfl⟩, if_neg (by omega), if_pos ⟨a, rfl⟩]; exact hb
    · rw [f s q (by omega) (by omega), if_neg (by omega), if_neg (by omega), hl s q (by omega) (by omega), if_pos a, if_neg (by omega), if_pos hq]
  · have g : ∀ s q, s ≠ r → 0 ≤ q → q ≤ 5 → fc u s q = fc S s q := fun s q n q0 q5 => by rw [f s q q0 q5, if_neg (by omega), if_neg (by omega), hl s q q0 q5, if_neg n]
    have hh := h s s0 (by omega)
    rw [g s 0 a (by omega) (by omega), g s 1 a (by omega) (by omega), g s 2 a (by omega) (by omega)]
    refine ⟨hh.1, fun q hq => ?_⟩
    rw [g s q a (by omega) (by omega)]
    rcases hh.2 q hq with b | b
    · exact .inl b
    · refine .inr ⟨b.1, by omega, ?_⟩
      rw [g _ 0 (by omega) (by omega) (by omega)]; exact b.2.2
