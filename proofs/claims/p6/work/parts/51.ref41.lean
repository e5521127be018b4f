theorem scS {c c' A : Int → Int} {k cy l x F : Int} (hk : 0 ≤ k) (hV : V c 0 k.toNat + cy * pw k.toNat = F * V A 0 k.toNat) (hc : ∀ j, 0 ≤ j → j < k → c' j = c j) (hl : c' k = l) (h2 : l + x * 1000000000 = F * A k + cy) : V c' 0 (k + 1).toNat + x * pw (k + 1).toNat = F * V A 0 (k + 1).toNat := by
  rw [V_stp hk, V_stp hk, pw_stp hk, show (0 : Int) + k = k by omega, hl, show V c' 0 k.toNat = V c 0 k.toNat from V_cg (fun j j0 j1 => by rw [show (0 : Int) + j = j by omega]; exact hc j j0 (by omega))]
  exact mmul hV h2
theorem sbS {c c' c0 Gt : Int → Int} {s j tk l t g : Int} (hj : 0 ≤ j) (hV : V c s j.toNat - tk * pw j.toNat = V c0 s j.toNat - g * V Gt 0 j.toNat) (hc : ∀ t, s ≤ t → t < s + j → c' t = c t) (hl : c' (s + j) = l) (h2 : l - t * 1000000000 = c0 (s + j) - (g * Gt j + tk)) : V c' s (j + 1).toNat - t * pw (j + 1).toNat = V c0 s (j + 1).toNat - g * V Gt 0 (j + 1).toNat := by
  rw [V_stp hj, V_stp hj, V_stp hj, pw_stp hj, show (0 : Int) + j = j by omega, hl, show V c' s j.toNat = V c s j.toNat from V_cg (fun t t0 t1 => hc _ (by omega) (by omega))]
  exact msub hV h2
theorem abS {c c' c0 Gt : Int → Int} {s j ov l t : Int} (hj : 0 ≤ j) (hV : V c s j.toNat + ov * pw j.toNat = V c0 s j.toNat + V Gt 0 j.toNat) (hc : ∀ t, s ≤ t → t < s + j → c' t = c t) (hl : c' (s + j) = l) (h2 : l + t * 1000000000 = c0 (s + j) + Gt j + ov) : V c' s (j + 1).toNat + t * pw (j + 1).toNat = V c0 s (j + 1).toNat + V Gt 0 (j + 1).toNat := by
  rw [V_stp hj, V_stp hj, V_stp hj, pw_stp hj, show (0 : Int) + j = j by omega, hl, show V c' s j.toNat = V c s j.toNat from V_cg (fun t t0 t1 => hc _ (by omega) (by omega))]
  exact madd hV h2
theorem ldW {L : Int → Int} {k m : Int} (hk : 1 ≤ k) (hm : 0 ≤ m) : V L 0 (k + m).toNat = V L 0 (k - 1).toNat + pw (k - 1).toNat * V L (k - 1) (m + 1).toNat := by
  have e := V_app (f := L) (s := 0) (m := (k - 1).toNat) (n := (m + 1).toNat)
  rw [show (k - 1).toNat + (m + 1).toNat = (k + m).toNat by omega, show (0 : Int) + ((k - 1).toNat : Int) = k - 1 by omega] at e
  exact e
theorem ldX {L : Int → Int} {k m : Int} (hk : 1 ≤ k) (hm : 0 ≤ m) : V L 0 (k - 1 + m).toNat = V L 0 (k - 1).toNat + pw (k - 1).toNat * V L (k - 1) m.toNat := by
  have e := V_app (f := L) (s := 0) (m := (k - 1).toNat) (n := m.toNat)
  rw [show (k - 1).toNat + m.toNat = (k - 1 + m).toNat by omega, show (0 : Int) + ((k - 1).toNat : Int) = k - 1 by omega] at e
  exact e
theorem ldU {L : Int → Int} {k m D : Int} (hk : 1 ≤ k) (hm : 0 ≤ m) (h0 : ∀ j, 0 ≤ j → j < k - 1 → 0 ≤ L j) (hlt : V L 0 (k + m).toNat < pw k.toNat * D) : V L (k - 1) (m + 1).toNat < 1000000000 * D := by
  rw [ldW hk hm, show pw k.toNat = 1000000000 * pw (k - 1).toNat by rw [← pw_stp (by omega)]; congr 2; omega] at hlt
  have a : 0 ≤ V L 0 (k - 1).toNat := V_0 (fun i i0 i1 => h0 i i0 (by omega))
  have b : pw (k - 1).toNat * V L (k - 1) (m + 1).toNat < pw (k - 1).toNat * (1000000000 * D) := by
    have : 1000000000 * pw (k - 1).toNat * D = pw (k - 1).toNat * (1000000000 * D) := by grind
    omega
  exact Int.lt_of_mul_lt_mul_left b (Int.le_of_lt (pw_pos _))
theorem ldStep {L L' c c' : Int → Int} {k m q D FA N : Int} (hk : 1 ≤ k ∧ k ≤ N) (hm : 0 ≤ m) (hE : FA = V c k (N - k).toNat * (pw k.toNat * D) + V L 0 (k + m).toNat) (hU : V L (k - 1) (m + 1).toNat = q * D + V L' (k - 1) m.toNat) (hlow : ∀ t, 0 ≤ t → t < k - 1 → L' t = L t) (hr : ∀ t, 0 ≤ t → t < k - 1 → 0 ≤ L t ∧ L t ≤ 999999999) (hlt : V L' (k - 1) m.toNat < D) (hc : ∀ t, k ≤ t → c' t = c t) (hck : c' (k - 1) = q) : FA = V c' (k - 1) (N - (k - 1)).toNat * (pw (k - 1).toNat * D) + V L' 0 (k - 1 + m).toNat ∧ V L' 0 (k - 1 + m).toNat < pw (k - 1).toNat * D := by
  have e1 : V L' 0 (k - 1).toNat = V L 0 (k - 1).toNat := V_cg (fun t t0 t1 => by rw [show (0 : Int) + t = t by omega]; exact hlow t t0 (by omega))
  have lt1 : V L 0 (k - 1).toNat < pw (k - 1).toNat := V_lt (fun t t0 t1 => hr t t0 (by omega))
  rw [ldX hk.1 hm, e1]
  have e2 : V c' (k - 1) (N - (k - 1)).toNat = q + 1000000000 * V c k (N - k).toNat := by
    rw [show (N - (k - 1)).toNat = (N - k).toNat + 1 by omega, V_front, hck, show k - 1 + 1 = k by omega, show V c' k (N - k).toNat = V c k (N - k).toNat from V_cg (fun t t0 t1 => hc _ (by omega))]
  have e3 : pw k.toNat = 1000000000 * pw (k - 1).toNat := by rw [← pw_stp (by omega)]; congr 2; omega
  refine ⟨?_, ?_⟩
  · rw [hE, ldW hk.1 hm, hU, e2, e3]; grind
  · have : (V L' (k - 1) m.toNat + 1) * pw (k - 1).toNat ≤ D * pw (k - 1).toNat := Int.mul_le_mul_of_nonneg_right (by omega) (Int.le_of_lt (pw_pos _))
    have e4 : (V L' (k - 1) m.toNat + 1) * pw (k - 1).toNat = pw (k - 1).toNat * V L' (k - 1) m.toNat + pw (k - 1).toNat := by grind
    have e5 : D * pw (k - 1).toNat = pw (k - 1).toNat * D := Int.mul_comm _ _
    omega
/-- a divisor, scaled, has no more limbs -/
theorem ldG {g : Int → Int} {q M F m : Int} (h : NO g q M) (hm : m = al g q) (h1 : 1 ≤ m) (hF : F * (g (q + m) + 1) ≤ 1000000000) (hF0 : 0 ≤ F) : F * nu g q < pw m.toNat := by
  have e := V_topr (f := g) (s := q + 1) (w := al g q) (by omega)
  have lt : V g (q + 1) (al g q - 1).toNat < pw (al g q - 1).toNat := V_lt (fun i i0 i1 => h.2.1 i (by omega) (by omega))
  rw [show q + 1 + al g q - 1 = q + al g q by omega] at e
  have e3 : pw m.toNat = 1000000000 * pw (m - 1).toNat := by rw [← pw_stp (by omega)]; congr 2; omega
  unfold nu
  rw [e, e3, ← hm]
  rw [← hm] at lt
  have p0 := pw_pos (m - 1).toNat
  have a : F * (g (q + m) + 1) * pw (m - 1).toNat ≤ 1000000000 * pw (m - 1).toNat := Int.mul_le_mul_of_nonneg_right hF (by omega)
  have b : F * (V g (q + 1) (m - 1).toNat) ≤ F * (pw (m - 1).toNat - 1) := Int.mul_le_mul_of_nonneg_left (by omega) hF0
  have c : F * (g (q + m) * pw (m - 1).toNat + V g (q + 1) (m - 1).toNat) = F * g (q + m) * pw (m - 1).toNat + F * V g (q + 1) (m - 1).toNat := by grind
  have d : F * (g (q + m) + 1) * pw (m - 1).toNat = F * g (q + m) * pw (m - 1).toNat + F * pw (m - 1).toNat := by grind
  have e' : F * (pw (m - 1).toNat - 1) = F * pw (m - 1).toNat - F := by grind
  rcases (by omega : F = 0 ∨ 1 ≤ F) with z | z
  · rw [z]; omega
  · omega
theorem sc_end {c P X cy : Int} (hP : 0 < P) (h : c + cy * P = X) (h0 : 0 ≤ c) (hc : 0 ≤ cy) (hX : X < P) : cy = 0 ∧ c = X := by
  rcases (by omega : cy = 0 ∨ 1 ≤ cy) with z | z
  · rw [z] at h; omega
  · exfalso
    have : 1 * P ≤ cy * P := Int.mul_le_mul_of_nonneg_right z (by omega)
    omega
theorem g_ge {c : Int → Int} {m : Nat} {t f B : Int} (hc : V c 0 (m + 1) = f * B) (hcr : V c 0 m < pw m) (hB : t * pw m ≤ B) (hf : 0 ≤ f) : t * f ≤ c m := by
  rw [V_s, show (0 : Int) + (m : Int) = m by omega] at hc
  have a : f * (t * pw m) ≤ f * B := Int.mul_le_mul_of_nonneg_left hB hf
  have p := pw_pos m
  have e : f * (t * pw m) = t * f * pw m := by grind
  have d : t * f * pw m < (c m + 1) * pw m := by
    have : (c m + 1) * pw m = c m * pw m + pw m := by grind
    omega
  have := Int.lt_of_mul_lt_mul_right d (Int.le_of_lt p)
  omega
theorem divF {a b : Int} (hb : 0 < b) (h0 : 0 ≤ a := by decide) : 0 ≤ a.tdiv b ∧ a.tdiv b * b ≤ a ∧ a < a.tdiv b * b + b := divQ h0 hb
