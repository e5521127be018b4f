theorem fA {S : sS} {a c : Nat} {i v : Int} (h : a ≠ c) : (uA S c i v).2.1 a = S.2.1 a := funext fun _ => uA_ne (fun q => h q.1)
theorem fFr {S u : sS} {P : pS} {a : Nat} (f : Fr S u P) (h : P a = false) : u.2.1 a = S.2.1 a := funext fun j => (f a h).2.1 j
theorem dv0 {NA NB Q R s : Int} (h : NA = NB * Q + R) (hR : 0 ≤ R ∧ R < NB) (hs : s = -1 ∨ s = 0 ∨ s = 1) : (s * R = 0 ∨ s = 1 → s * NA = NB * (s * Q) + s * R ∧ 0 ≤ s * R ∧ s * R < NB) ∧ (s * R ≠ 0 ∧ s ≠ 1 → s * NA = NB * (s * Q - 1) + (s * R + NB) ∧ 0 ≤ s * R + NB ∧ s * R + NB < NB) := by
  have e1 : s * NA = NB * (s * Q) + s * R := by rw [h]; grind
  have e2 : NB * (s * Q - 1) = NB * (s * Q) - NB := by grind
  rcases hs with q | q | q
  · have e3 : s * R = -R := by rw [q]; omega
    refine ⟨fun z => ⟨e1, by omega, by omega⟩, fun z => ⟨by omega, by omega, by omega⟩⟩
  · have e3 : s * R = 0 := by rw [q]; omega
    refine ⟨fun z => ⟨e1, by omega, by omega⟩, fun z => absurd e3 z.1⟩
  · have e3 : s * R = R := by rw [q]; omega
    refine ⟨fun z => ⟨e1, by omega, by omega⟩, fun z => absurd q z.2⟩
theorem NO.one {f : Int → Int} {p L : Int} (h : NO f p L) (e : nv f p = 1) : NO f p 1 := by
  have a := nv_abs h
  exact ⟨h.lim (n := 1) (by show nu f p < 1000000000 * 1; omega), h.2⟩
theorem sdS {c c' LA : Int → Int} {k w l b q r N NA : Int} (hk : 1 ≤ k ∧ k ≤ N) (h : NA = b * (V c k (N - k).toNat * pw k.toNat) + w * pw k.toNat + V LA 0 k.toNat) (hl : LA (k - 1) = l) (hc : ∀ t, k ≤ t → c' t = c t) (hq : c' (k - 1) = q) (h2 : w * 1000000000 + l = q * b + r) : NA = b * (V c' (k - 1) (N - (k - 1)).toNat * pw (k - 1).toNat) + r * pw (k - 1).toNat + V LA 0 (k - 1).toNat := by
  have e2 : V c' (k - 1) (N - (k - 1)).toNat = q + 1000000000 * V c k (N - k).toNat := by
    rw [show (N - (k - 1)).toNat = (N - k).toNat + 1 by omega, V_front, hq, show k - 1 + 1 = k by omega, show V c' k (N - k).toNat = V c k (N - k).toNat from V_cg (fun t t0 t1 => hc _ (by omega))]
  have e3 : pw k.toNat = 1000000000 * pw (k - 1).toNat := by rw [← pw_stp (by omega)]; congr 2; omega
  have e4 := V_topr (f := LA) (s := 0) (w := k) hk.1
  rw [show (0 : Int) + k - 1 = k - 1 by omega, hl] at e4
  rw [h, e2, e3, e4]
  have h3 : l = q * b + r - w * 1000000000 := by omega
  rw [h3]; grind
theorem qlt {x b q r w l : Int} (hb : 0 < b) (hq : q * b ≤ x) (hx : x = w * 1000000000 + l) (hw : 0 ≤ w ∧ w < b) (hl : l ≤ 999999999) : q ≤ 999999999 := by
  have : q < 1000000000 := lt_of_m (l := b) hb hq (by have : (w + 1) * 1000000000 ≤ b * 1000000000 := Int.mul_le_mul_of_nonneg_right (by omega) (by omega); omega)
  omega
/-- what is divided by its factor again -/
theorem fdiv_e {f Q R VL Vd r : Int} (hf : 0 < f) (h1 : VL = f * R) (h2 : VL = f * Vd + r) (hr : 0 ≤ r ∧ r < f) : Vd = R ∧ r = 0 := by
  have e : f * (R - Vd) = r := by rw [Int.mul_sub]; omega
  rcases (by omega : R - Vd ≤ -1 ∨ R - Vd = 0 ∨ 1 ≤ R - Vd) with q | q | q
  · have := Int.mul_le_mul_of_nonneg_left q (Int.le_of_lt hf); omega
  · rw [q] at e; omega
  · have := Int.mul_le_mul_of_nonneg_left q (Int.le_of_lt hf); omega
theorem nu_1 {g : Int → Int} {q : Int} (h : al g q = 1) : nu g q = g (q + 1) := by
  unfold nu; rw [h]
  show 0 + g (q + 1 + ((0 : Nat) : Int)) * 1 = _
  rw [show q + 1 + ((0 : Nat) : Int) = q + 1 by omega]; omega
theorem nv_1 {g : Int → Int} {q : Int} (h : 0 < g q) : nv g q = nu g q := by unfold nv; rw [(sg_e (f := g) (p := q)).2.1 h]; omega
theorem ld_R {f Q NB NA VL : Int} (hf : 0 < f) (h : Q * (f * NB) + VL = f * NA) (h2 : VL < f * NB) (h0 : 0 ≤ VL) : VL = f * (NA - NB * Q) ∧ 0 ≤ NA - NB * Q ∧ NA - NB * Q < NB := by
  have e : VL = f * (NA - NB * Q) := by
    have : f * (NA - NB * Q) = f * NA - Q * (f * NB) := by grind
    omega
  refine ⟨e, ?_, ?_⟩
  · rcases Int.lt_or_le (NA - NB * Q) 0 with q | q
    · have := Int.mul_le_mul_of_nonneg_left (show NA - NB * Q ≤ -1 by omega) (Int.le_of_lt hf); omega
    · exact q
  · rw [e] at h2; exact Int.lt_of_mul_lt_mul_left h2 (Int.le_of_lt hf)
theorem tmodQ {a b : Int} (h0 : 0 ≤ a) (hb : 0 < b) : 0 ≤ a.tmod b ∧ a.tmod b < b := ⟨Int.tmod_nonneg b h0, Int.tmod_lt_of_pos a hb⟩
/-! Frames of the fields of 231; sets by lists -/
def fl (L : List Nat) (i : Nat) : Bool := L.any (Nat.beq i)
def FF (S u : sS) (I : Nat → Bool) : Prop := ∀ i, I i = false → u.1 231 i = S.1 231 i
theorem FF.rf {S : sS} {I : Nat → Bool} : FF S S I := fun _ _ => rfl
theorem FF.trans {S T U : sS} {I : Nat → Bool} (h : FF S T I) (g : FF T U I) : FF S U I := fun i hi => (g i hi).trans (h i hi)
theorem FF.to {S u : sS} {I J : Nat → Bool} (h : FF S u I) (g : ∀ i, I i = true → J i = true) : FF S u J := fun i hi => h i (by
  cases e : I i
  · rfl
  · rw [g i e] at hi; cases hi)
theorem FF.F {S u : sS} {I : Nat → Bool} {i : Nat} {v : Int} (h : FF S u I) (hi : I i = true) : FF S (uF u 231 i v) I := fun j hj => (uF_i (fun q => by rw [q, hi] at hj; cases hj)).trans (h j hj)
theorem FF.fr {S T u : sS} {I : Nat → Bool} {P : pS} (h : FF S T I) (f : Fr T u P) (hp : P 231 = false) : FF S u I := fun j hj => ((f 231 hp).1 j).trans (h j hj)
theorem fl_sub {L L' : List Nat} (h : ∀ x ∈ L, fl L' x = true) : ∀ i, fl L i = true → fl L' i = true := fun i hi => h i (any_beq hi)
