/-! childRow, branch, leafDone -/
def RWf (f : Int → Int) : Prop := ∀ k j, 1 ≤ k → k ≤ 40 → 0 ≤ j → j ≤ 12 → NO f (8 * (13 * k + j)) 7
theorem RWf.put {f f' : Int → Int} {k j p : Int} (h : RWf f) (hp : p = 8 * (13 * k + j)) (hj : 0 ≤ j ∧ j ≤ 12) (hn : NO f' p 7) (ho : ∀ x, x < p ∨ p + 7 < x → f' x = f x) : RWf f' := by
  subst hp
  intro a b a0 a1 b0 b1
  by_cases e : a = k ∧ b = j
  · rw [e.1, e.2]; exact hn
  · exact ((h a b a0 a1 b0 b1).same (g := f') (fun x x0 x1 => ho x (by omega))).1
theorem qb {D a Q R B : Int} (hD : 0 < D) (h : a = D * Q + R) (hR : 0 ≤ R ∧ R < D) (ha : -B < a ∧ a < B) : -B ≤ Q ∧ Q < B := by
  rcases (by omega : Q ≤ -1 ∨ 0 ≤ Q) with q | q
  · have e : D * (Q + 1) = D * Q + D := by rw [Int.mul_add, Int.mul_one]
    have k : D * (Q + 1) ≤ 1 * (Q + 1) := Int.mul_le_mul_of_nonpos_right (by omega) (by omega)
    omega
  · have k : 1 * Q ≤ D * Q := Int.mul_le_mul_of_nonneg_right (by omega) q
    omega
theorem NO.bd {f : Int → Int} {p : Int} {n : Nat} (h : NO f p (n : Int)) : -pw n < nv f p ∧ nv f p < pw n := by
  have a := h.nul
  have b : pw (al f p).toNat ≤ pw n := pw_le (by have := h.1; have := al_0 f p; omega)
  have c := nv_abs h
  have d := h.nu0
  omega
theorem NO.of {f : Int → Int} {p L : Int} {n : Nat} (h : NO f p L) (hb : -pw n < nv f p ∧ nv f p < pw n) : NO f p (n : Int) := ⟨h.lim (by have c := nv_abs h; have d := h.nu0; omega), h.2⟩
/-- the quotient, one more: still a number of 7 limbs -/
theorem NO.q1 {f g d c : Int → Int} {p q t r L : Int} {R : Int} (hf : NO f p 6) (hd : 0 < nv d q) (hq : nv f p = nv d q * nv g t + R) (hR : 0 ≤ R ∧ R < nv d q) (hc : NO c r L) (e : nv c r = nv g t + 1) : NO c r 7 := by
  have a := NO.bd (n := 6) hf
  have b := qb hd hq hR a
  have k : pw 6 + 1 < pw 7 := by decide
  exact NO.of (n := 7) hc (by omega)
def DKp (f : Int → Int) (pd ps hw j : Int) : Prop := DKo f pd ps hw ∧ ∀ b, 0 ≤ b → b < j → NO f (cl (pd + 2) b) 6
theorem DKp.put {f f' : Int → Int} {pd ps hw j p : Int} (h : DKp f pd ps hw j) (hp : p = cl (pd + 2) j) (hps : ps ≤ 14) (hj : 0 ≤ j ∧ j ≤ 14) (hn : NO f' p 6) (ho : ∀ x, x < p ∨ p + 6 < x → f' x = f x) : DKp f' pd ps hw (j + 1) := by
  subst hp
  refine ⟨fun a b a0 a1 a2 b0 b1 => ((h.1 a b a0 a1 a2 b0 b1).same (g := f') (fun x x0 x1 => ho x (by unfold cl at x0 x1 ⊢; omega))).1, fun b b0 b1 => ?_⟩
  by_cases e : b = j
  · rw [e]; exact hn
  · exact ((h.2 b b0 (by omega)).same (g := f') (fun x x0 x1 => ho x (by unfold cl at x0 x1 ⊢; omega))).1
theorem DKp.all {f : Int → Int} {pd ps hw j : Int} (h : DKp f pd ps hw j) (hj : ps < j) : DKo f (pd + 1) ps hw := fun a b a0 a1 a2 b0 b1 => by
  by_cases e : a = pd + 2
  · rw [e]; exact h.2 b b0 (by omega)
  · exact h.1 a b a0 (by omega) a2 b0 b1
theorem DKp.last {f f' : Int → Int} {pd ps hw j p : Int} (h : DKp f pd ps hw j) (hj : ps < j) (hp : p = cl (pd + 2) 0) (hps : ps ≤ 14) (hn : NO f' p 6) (ho : ∀ x, x < p ∨ p + 6 < x → f' x = f x) : DKo f' (pd + 1) ps hw := fun a b a0 a1 a2 b0 b1 => by
  subst hp
  by_cases e : a = pd + 2 ∧ b = 0
  · rw [e.1, e.2]; exact hn
  · exact ((h.all hj a b a0 a1 a2 b0 b1).same (g := f') (fun x x0 x1 => ho x (by unfold cl at x0 x1 ⊢; omega))).1
theorem KN.cg {f d b o s f' d' b' o' s' : Int → Int} {n m wh al q : Int} (h : KN f d b o s n m wh al q) (ef : ∀ x, 5280 * q ≤ x → x < 5280 * q + 5280 → f' x = f x) (ed : ∀ x, 8 * q ≤ x → x < 8 * q + 8 → d' x = d x) (eb : ∀ x, 44 * q ≤ x → x < 44 * q + 44 → b' x = b x) (eo : ∀ x, 15 * q ≤ x → x < 15 * q + 15 → o' x = o x) (es : ∀ x, 5 * q ≤ x → x < 5 * q + 5 → s' x = s x) : KN f' d' b' o' s' n m wh al q := by
  obtain ⟨h1, h2, h3, h4, h5, h6⟩ := h
  have s0 := es (5 * q) (by omega) (by omega)
  have s1 := es (5 * q + 1) (by omega) (by omega)
  have s2 := es (5 * q + 2) (by omega) (by omega)
  have s3 := es (5 * q + 3) (by omega) (by omega)
  have s4 := es (5 * q + 4) (by omega) (by omega)
  unfold KN
  rw [s0, s1, s2, s3, s4]
  refine ⟨h1, by rw [eb _ (by omega) (by omega)]; exact h2, fun i j i0 i1 i2 j0 j1 => ((h3 i j i0 i1 i2 j0 j1).same (g := fun x => f' (5280 * q + x)) (fun x x0 x1 => ef _ (by unfold cl at x0; omega) (by unfold cl at x1; omega))).1, ?_, fun i i0 i1 => by rw [eb _ (by omega) (by omega)]; exact h5 i i0 i1, fun j j0 j1 => by rw [eo _ (by omega) (by omega)]; exact h6 j j0 j1⟩
  have k := h4.1.same (g := fun x => d' (8 * q + x)) (fun x x0 x1 => ed _ (by omega) (by omega))
  exact ⟨k.1, by rw [k.2]; exact h4.2⟩
theorem KN.new {S : sS} {f d b o s : Int → Int} {q r : Int} (hD : DOK S) (hB : BO S) (hG : GX S) (hM : MD S) (h60 : S.1 231 60 = 0) (hq : q = S.1 231 78) (hn : ¬ (S.1 231 48 = S.1 231 46 ∧ S.1 231 69 < S.1 231 68)) (hr : 1 ≤ r ∧ r ≤ S.1 231 58) (hb : 1 ≤ S.2.1 265 r ∧ S.2.1 265 r ≤ S.1 231 46) (ef : ∀ x, 0 ≤ x → x < 5280 → f (5280 * q + x) = S.2.1 262 x) (ed : ∀ x, 0 ≤ x → x < 8 → d (8 * q + x) = S.2.1 264 x) (eb : ∀ x, 0 ≤ x → x < 44 → b (44 * q + x) = S.2.1 265 x) (eo : ∀ x, 0 ≤ x → x < 15 → o (15 * q + x) = S.2.1 266 x) (s0 : s (5 * q) = S.1 231 58) (s1 : s (5 * q + 1) = S.1 231 59) (s2 : s (5 * q + 2) = S.1 231 63) (s3 : s (5 * q + 3) = S.1 231 69) (s4 : s (5 * q + 4) = r) : KN f d b o s (S.1 231 46) (S.1 231 47) (S.1 231 48) (S.1 231 68) q := by
  have hd1 := hD.1
  unfold GX at hG
  unfold MD at hM
  unfold KN
  rw [s0, s1, s2, s3, s4]
  refine ⟨⟨by omega, by omega, by omega, by omega, by omega, hn, by omega, by omega⟩, by rw [eb r (by omega) (by omega)]; exact hb, fun i j i0 i1 i2 j0 j1 => ((hD.2.1 i j i0 i1 (fun q => absurd (i2 q) (by decide)) j0 j1).same (g := fun x => f (5280 * q + x)) (fun x x0 x1 => ef x (by unfold cl at x0; omega) (by unfold cl at x1; omega))).1, ?_, fun i i0 i1 => by rw [eb i (by omega) (by omega), show S.1 231 58 = S.1 231 63 by omega]; exact hB.1 i i0 i1, fun j j0 j1 => by rw [eo j (by omega) (by omega), show S.1 231 58 = S.1 231 63 by omega]; exact hB.2 j j0 j1⟩
  have k := hD.2.2.1.same (g := fun x => d (8 * q + x)) (fun x x0 x1 => ed x (by omega) (by omega))
  exact ⟨k.1, by rw [k.2]; exact hD.2.2.2⟩
theorem KN.re {T : sS} {f d b o s : Int → Int} {n m wh al q : Int} (h : KN f d b o s n m wh al q) (ef : ∀ x, 0 ≤ x → x < 5280 → T.2.1 262 x = f (5280 * q + x)) (ed : ∀ x, 0 ≤ x → x < 8 → T.2.1 264 x = d (8 * q + x)) (eb : ∀ x, 0 ≤ x → x < 44 → T.2.1 265 x = b (44 * q + x)) (eo : ∀ x, 0 ≤ x → x < 15 → T.2.1 266 x = o (15 * q + x)) (s0 : T.1 231 58 = s (5 * q)) (s1 : T.1 231 59 = s (5 * q + 1)) (s2 : T.1 231 63 = s (5 * q + 2)) (h60 : T.1 231 60 = 0) (h46 : T.1 231 46 = n) : DOK T ∧ BO T ∧ 1 ≤ T.2.1 265 (s (5 * q + 4)) ∧ T.2.1 265 (s (5 * q + 4)) ≤ n := by
  obtain ⟨h1, h2, h3, h4, h5, h6⟩ := h
  refine ⟨⟨by omega, fun i j i0 i1 i2 j0 j1 => ((h3 i j i0 (by omega) (fun q => absurd (i2 q) (by omega)) j0 (by omega)).same (g := T.2.1 262) (fun x x0 x1 => ef x (by unfold cl at x0; omega) (by unfold cl at x1; omega))).1, ?_⟩, ⟨fun i i0 i1 => by rw [eb i (by omega) (by omega), show T.1 231 63 = s (5 * q) by omega, h46]; exact h5 i i0 (by omega), fun j j0 j1 => by rw [eo j (by omega) (by omega), show T.1 231 63 = s (5 * q) by omega, h46]; exact h6 j j0 (by omega)⟩, by rw [eb _ (by omega) (by omega)]; exact h2⟩
  have k := h4.1.same (g := T.2.1 264) (fun x x0 x1 => ed x (by omega) (by omega))
  exact ⟨k.1, by rw [k.2]; exact h4.2⟩
/-- what the steps of the tree leave -/
def LD (S u : sS) : Prop := (1 ≤ u.1 231 61 ∧ u.1 231 61 ≤ 6) ∧ (u.1 231 61 ≠ 1 → EI u) ∧ (u.1 231 61 = 1 → GC u ∧ u.1 231 60 = 0 ∧ u.1 231 62 = 4 ∧ S.1 231 65 < u.1 231 65)
theorem DOK.mk' {u : sS} {pd ps hw : Int} (e58 : u.1 231 58 = pd) (e59 : u.1 231 59 = ps) (e60 : u.1 231 60 = hw) (hb : (0 ≤ pd ∧ pd ≤ 40) ∧ 0 ≤ ps ∧ ps ≤ 13) (hK : DKo (u.2.1 262) pd ps hw) (h64 : NO (u.2.1 264) 0 6) (hp : 0 < nv (u.2.1 264) 0) : DOK u := by
  subst e58 e59 e60; exact ⟨hb, hK, h64, hp⟩