theorem mul9 {a b : Int} (ha : 0 ≤ a ∧ a ≤ 999999999) (hb : 0 ≤ b ∧ b ≤ 999999999) : 0 ≤ a * b ∧ a * b ≤ 999999998000000001 := by
  have h1 := Int.mul_le_mul ha.2 hb.2 hb.1 (by omega)
  have h2 := Int.mul_nonneg ha.1 hb.1
  omega
theorem cf_u {S : sS} {c : Nat} {r w v t : Int} (h : w = r + (t + 1)) : cf ((uA S c w v).2.1 c) r t = v := by
  show (uA S c w v).2.1 c (r + (t + 1)) = v
  rw [h]; exact uA_on
theorem cf_v {S : sS} {c : Nat} {r w v t : Int} (h : w ≠ r + (t + 1)) : cf ((uA S c w v).2.1 c) r t = cf (S.2.1 c) r t := uA_ne (fun q => h q.2.symm)
theorem mulI {c c' c0 B : Int → Int} {e j A cy l x : Int} (he : 0 ≤ e) (hj : 0 ≤ j) (hV : V c 0 (e + j).toNat + cy * pw (e + j).toNat = V c0 0 (e + j).toNat + A * pw e.toNat * V B 0 j.toNat) (hc : ∀ t, 0 ≤ t → t < e + j → c' t = c t) (hl : c' (e + j) = l) (h2 : l + x * 1000000000 = A * B j + c0 (e + j) + cy) : V c' 0 (e + (j + 1)).toNat + x * pw (e + (j + 1)).toNat = V c0 0 (e + (j + 1)).toNat + A * pw e.toNat * V B 0 (j + 1).toNat := by
  rw [show e + (j + 1) = e + j + 1 by omega, V_stp (by omega), V_stp (by omega), V_stp hj, pw_stp (by omega), show (0 : Int) + (e + j) = e + j by omega, show (0 : Int) + j = j by omega, hl, show V c' 0 (e + j).toNat = V c 0 (e + j).toNat from V_cg (fun t t0 t1 => by rw [show (0 : Int) + t = t by omega]; exact hc t t0 (by omega))]
  have ep : pw (e + j).toNat = pw e.toNat * pw j.toNat := by rw [← pw_add]; congr 1; omega
  rw [ep] at hV ⊢
  generalize V c 0 (e + j).toNat = a1 at *
  generalize V c0 0 (e + j).toNat = a2 at *
  generalize V B 0 j.toNat = a3 at *
  generalize pw e.toNat = P at *
  generalize pw j.toNat = Q at *
  generalize c0 (e + j) = z at *
  generalize B j = b at *
  have h3 : l = A * b + z + cy - x * 1000000000 := by omega
  rw [h3]
  have h4 : a1 = a2 + A * P * a3 - cy * (P * Q) := by omega
  rw [h4]
  grind
theorem mulO {c c' c0 LA : Int → Int} {e m cy nb : Int} (he : 0 ≤ e) (hm : 0 ≤ m) (hV : V c 0 (e + m).toNat + cy * pw (e + m).toNat = V c0 0 (e + m).toNat + LA e * pw e.toNat * nb) (h0 : V c0 0 (e + m).toNat = V LA 0 e.toNat * nb) (hc : ∀ t, 0 ≤ t → t < e + m → c' t = c t) (hl : c' (e + m) = cy) : V c' 0 (e + 1 + m).toNat = V LA 0 (e + 1).toNat * nb := by
  rw [show e + 1 + m = e + m + 1 by omega, V_stp (by omega), V_stp he, show (0 : Int) + (e + m) = e + m by omega, show (0 : Int) + e = e by omega, hl, show V c' 0 (e + m).toNat = V c 0 (e + m).toNat from V_cg (fun t t0 t1 => by rw [show (0 : Int) + t = t by omega]; exact hc t t0 (by omega)), hV, h0]
  grind
theorem V_zero {f : Int → Int} : ∀ {n : Nat}, (∀ j : Int, 0 ≤ j → j < n → f j = 0) → V f 0 n = 0
  | 0, _ => rfl
  | n + 1, h => by rw [V_s, V_zero (fun j j0 j1 => h j j0 (by omega)), show (0 : Int) + (n : Int) = n by omega, h n (by omega) (by omega)]; omega
theorem nu_pos {f : Int → Int} {p L : Int} (h : NO f p L) (hz : sg f p ≠ 0) : 0 < nu f p := by
  have e := sg_e (f := f) (p := p)
  have a := al_e (f := f) (p := p)
  have := h.nug (by omega)
  have := pw_pos (al f p - 1).toNat
  omega
theorem mul_sg {f g : Int → Int} {p q sa sb sp : Int} (ha : sa = sg f p) (hb : sb = sg g q) (e : sp = sa * sb) : sp * (nu f p * nu g q) = nv f p * nv g q := by
  unfold nv; rw [e, ha, hb]; grind
theorem mul_s3 {a b p : Int} (ha : -1 ≤ a ∧ a ≤ 1) (hb : -1 ≤ b ∧ b ≤ 1) (e : p = a * b) : (-1 ≤ p ∧ p ≤ 1) ∧ (p = 0 → a = 0 ∨ b = 0) ∧ (p ≠ 0 → a ≠ 0 ∧ b ≠ 0) := by
  have := sgm e ha
  omega
theorem NO_0 {S : sS} {c : Nat} {r L : Int} (hL : 0 ≤ L) : NO ((uA S c r 0).2.1 c) r L ∧ nv ((uA S c r 0).2.1 c) r = 0 := by
  have e : (uA S c r 0).2.1 c r = 0 := uA_on
  have a : al ((uA S c r 0).2.1 c) r = 0 := by have := al_e (f := (uA S c r 0).2.1 c) (p := r); omega
  refine ⟨⟨by omega, fun i i0 i1 => by omega, fun z => absurd a z⟩, ?_⟩
  unfold nv; rw [(sg_e (f := (uA S c r 0).2.1 c) (p := r)).2.2 e]; omega
