/-! PHASE 1: a pivot over a basis of determinant D or -D -/
theorem ex_R {D X Q R : Int} (hD : 0 < D) (h : D * X = D * Q + R) (hR : 0 ≤ R ∧ R < D) : Q = X ∧ R = 0 := by
  have e : D * (X - Q) = R := by rw [Int.mul_sub]; omega
  rcases (by omega : X - Q ≤ -1 ∨ X - Q = 0 ∨ 1 ≤ X - Q) with q | q | q
  · have := Int.mul_le_mul_of_nonneg_left q (Int.le_of_lt hD); omega
  · rw [q] at e; omega
  · have := Int.mul_le_mul_of_nonneg_left q (Int.le_of_lt hD); omega
theorem sm_up {m r : Nat} {f g : Nat → Int} {x : Int} (hr : r < m) (hf : f r = 0) (hg : g r = x) (h : ∀ k, k < m → k ≠ r → g k = f k) : sm m g = sm m f + x := by
  have e := sm_lin (n := m) (x := 1) (f := f) (g := fun k => if k = r then x else 0)
  rw [sm_1 (f := fun k => if k = r then x else 0) (a := r) hr (fun k _ ne => if_neg ne)] at e
  rw [show sm m g = sm m (fun k => 1 * f k + (if k = r then x else 0)) from sm_cg (fun k hk => by
    by_cases q : k = r
    · rw [q, if_pos rfl, hf, hg]; omega
    · rw [if_neg q, h k hk q]; omega), e, if_pos rfl]
  omega
theorem tab_j {m r : Nat} {B : Nat → Nat → Int} {D s : Int} {cj cs : Nat → Int} {tj ts Q R : Nat → Int} (hr : r < m) (hD : 0 < D) (hs : s = 1 ∨ s = -1) (hF : dt m B = s * D) (hj : ∀ i, D * cj i = sm m (fun k => tj k * B k i)) (has : ∀ i, D * cs i = sm m (fun k => ts k * B k i)) (hQ : ∀ k, k < m → k ≠ r → tj k * ts r - ts k * tj r = D * Q k + R k ∧ 0 ≤ R k ∧ R k < D) : (∀ k, k < m → k ≠ r → R k = 0) ∧ ∀ i, ts r * cj i = sm m (fun k => (if k = r then tj r else Q k) * up B r cs k i) := by
  have ex : ∀ k, k < m → k ≠ r → R k = 0 := fun k hk ne => by
    have a := dt_ex (i := k) hr hk ne (by omega) hs hF hj has
    have b := hQ k hk ne
    exact (ex_R hD (a.trans b.1) b.2).2
  refine ⟨ex, fun i => ?_⟩
  refine mul_cn (D := D) (by omega) ?_
  have e1 : D * sm m (fun k => (if k = r then tj r else Q k) * up B r cs k i) = sm m (fun k => D * ((if k = r then tj r else Q k) * up B r cs k i)) := by
    have := sm_lin (n := m) (x := D) (f := fun k => (if k = r then tj r else Q k) * up B r cs k i) (g := fun _ => 0)
    rw [sm_z (n := m) (f := fun _ => 0) (fun _ _ => rfl)] at this
    rw [show (fun k => D * ((if k = r then tj r else Q k) * up B r cs k i)) = fun k => D * ((if k = r then tj r else Q k) * up B r cs k i) + 0 from funext fun k => by omega, this]; omega
  have e2 : sm m (fun k => D * ((if k = r then tj r else Q k) * up B r cs k i)) = sm m (fun k => ts r * (tj k * B k i) + -tj r * (ts k * B k i)) + D * (tj r * cs i) := by
    refine sm_up (r := r) hr (by grind) (by rw [if_pos rfl, up_on]) (fun k hk ne => ?_)
    rw [if_neg ne, up_ne ne]
    have b := (hQ k hk ne).1
    rw [ex k hk ne] at b
    have c : D * (Q k * B k i) = (D * Q k) * B k i := by grind
    rw [c, show D * Q k = tj k * ts r - ts k * tj r by omega]; grind
  rw [e1, e2, sm_lin (n := m) (x := ts r) (f := fun k => tj k * B k i) (g := fun k => -tj r * (ts k * B k i))]
  have e3 : sm m (fun k => -tj r * (ts k * B k i)) = -tj r * sm m (fun k => ts k * B k i) := by
    have := sm_lin (n := m) (x := -tj r) (f := fun k => ts k * B k i) (g := fun _ => 0)
    rw [sm_z (n := m) (f := fun _ => 0) (fun _ _ => rfl)] at this
    rw [show (fun k => -tj r * (ts k * B k i)) = fun k => -tj r * (ts k * B k i) + 0 from funext fun k => by omega, this]; omega
  rw [e3, ← hj i, ← has i]; grind
theorem tab_s {m r : Nat} {B : Nat → Nat → Int} {D : Int} {cs : Nat → Int} {ts : Nat → Int} (hr : r < m) (has : ∀ i, D * cs i = sm m (fun k => ts k * B k i)) (i : Nat) : ts r * B r i = sm m (fun k => (if k = r then D else -ts k) * up B r cs k i) := by
  have e : sm m (fun k => (if k = r then D else -ts k) * up B r cs k i) = sm m (fun k => if k = r then 0 else -ts k * B k i) + D * cs i := sm_up (r := r) hr (if_pos rfl) (by rw [if_pos rfl, up_on]) (fun k _ ne => by rw [if_neg ne, if_neg ne, up_ne ne])
  have e2 : sm m (fun k => -1 * (ts k * B k i) + 0) = sm m (fun k => if k = r then 0 else -ts k * B k i) + -(ts r * B r i) := sm_up (r := r) hr (if_pos rfl) (by omega) (fun k _ ne => by rw [if_neg ne]; grind)
  have e3 := sm_lin (n := m) (x := -1) (f := fun k => ts k * B k i) (g := fun _ => 0)
  rw [sm_z (n := m) (f := fun _ => 0) (fun _ _ => rfl)] at e3
  rw [e, has i]
  omega
theorem sm_as {m : Nat} {z : Int} {f : Nat → Int} : asn z (sm m f) = sm m (fun k => asn z (f k)) := by
  unfold asn
  by_cases h : z = 0
  · rw [if_pos h]; exact sm_cg (fun k _ => (if_pos h).symm)
  · rw [if_neg h, show sm m (fun k => if z = 0 then f k else -f k) = sm m (fun k => -1 * f k + 0) from sm_cg (fun k _ => by rw [if_neg h]; omega)]
    have e3 := sm_lin (n := m) (x := -1) (f := f) (g := fun _ => 0)
    rw [sm_z (n := m) (f := fun _ => 0) (fun _ _ => rfl)] at e3
    omega
theorem as_mul {z x y : Int} : asn z x * y = asn z (x * y) := by
  unfold asn
  by_cases h : z = 0
  · rw [if_pos h, if_pos h]
  · rw [if_neg h, if_neg h, Int.neg_mul]
/-! The same over the reference's memory -/
def mR (S : sS) (i : Nat) (v : Int) : Int := S.2.2.1 290 (13 * ((i : Int) + 1) + v)
def Av (S : sS) (v : Int) : Nat → Int := fun i => if (i : Int) < S.1 231 47 then (if v = 0 then -1 else if v ≤ S.1 231 46 then mR S i v else if v = S.1 231 46 + ((i : Int) + 1) then 1 else 0) else 0
def Bz (S : sS) : Nat → Int := fun i => if (i : Int) < S.1 231 47 then mR S i 0 else 0
def Cv (S : sS) (j : Int) : Nat → Int := if j = 0 then Bz S else Av S (S.2.1 266 j)
def Bv (S : sS) : Nat → Nat → Int := fun k => Av S (S.2.1 265 ((k : Int) + 1))
def Tab (S : sS) : Prop := (∀ j, 0 ≤ j → j ≤ S.1 231 59 → ∀ i, nv (S.2.1 264) 0 * Cv S j i = sm (S.1 231 47).toNat (fun k => TV S ((k : Int) + 2) j * Bv S k i)) ∧ ∃ s, (s = 1 ∨ s = -1) ∧ dt (S.1 231 47).toNat (Bv S) = s * nv (S.2.1 264) 0
theorem asn_2 {z x : Int} : asn z (asn z x) = x := by
  unfold asn
  by_cases h : z = 0
  · rw [if_pos h, if_pos h]
  · rw [if_neg h, if_neg h, Int.neg_neg]
theorem asn_n {z x : Int} : -asn z x = asn z (-x) := by
  unfold asn
  by_cases h : z = 0
  · rw [if_pos h, if_pos h]
  · rw [if_neg h, if_neg h]
/-- what a pivot keeps of 231 and the model -/
def KM (S u : sS) : Prop := (∀ i, u.1 231 i = S.1 231 i) ∧ ∀ x, u.2.2.1 290 x = S.2.2.1 290 x
theorem KM.av {S u : sS} (h : KM S u) (v : Int) : Av u v = Av S v := by unfold Av mR; funext i; rw [h.1, h.1, h.2]
theorem KM.bz {S u : sS} (h : KM S u) : Bz u = Bz S := by unfold Bz mR; funext i; rw [h.1, h.2]
/-- the rest of a division is 0 in PHASE 1 -/
theorem Tab.ex {S : sS} {r s : Int} (h : Tab S) (hD : 0 < nv (S.2.1 264) 0) (hr : 1 ≤ r ∧ r ≤ S.1 231 47) (hs : 1 ≤ s ∧ s ≤ S.1 231 59) {j : Int} (hj : 0 ≤ j ∧ j ≤ S.1 231 59) {a Q R : Int} (ha : 2 ≤ a ∧ a ≤ S.1 231 47 + 1) (ne : a ≠ r + 1) (e : TV S a j * TV S (r + 1) s - TV S a s * TV S (r + 1) j = nv (S.2.1 264) 0 * Q + R) (hR : 0 ≤ R ∧ R < nv (S.2.1 264) 0) : R = 0 := by
  obtain ⟨z, hz, hF⟩ := h.2
  have k := dt_ex (n := (S.1 231 47).toNat) (B := Bv S) (r := (r - 1).toNat) (i := (a - 2).toNat) (D := nv (S.2.1 264) 0) (s := z) (by omega) (by omega) (by omega) (by omega) hz hF (h.1 j hj.1 hj.2) (h.1 s (by omega) hs.2)
  rw [show (((r - 1).toNat : Nat) : Int) + 2 = r + 1 by omega, show (((a - 2).toNat : Nat) : Int) + 2 = a by omega] at k
  exact (ex_R hD (k.trans e) hR).2
theorem Tab.pv {S u : sS} {r s tn : Int} (h : Tab S) (hK : KM S u) (hD : DOK S) (hpm : S.1 231 58 = S.1 231 47) (hr : 1 ≤ r ∧ r ≤ S.1 231 58) (hs : 1 ≤ s ∧ s ≤ S.1 231 59) (htn : 0 ≤ tn ∧ tn ≤ 1) (p : PV S u r s tn) : Tab u := by
  have hd1 := hD.1
  have hDp := hD.2.2.2
  obtain ⟨z, hz, hF⟩ := h.2
  obtain ⟨pD, pC, p5, p6⟩ := p
  have em : u.1 231 47 = S.1 231 47 := hK.1 47
  have ep : u.1 231 59 = S.1 231 59 := hK.1 59
  have hr0 : (r - 1).toNat < (S.1 231 47).toNat := by omega
  have er : (((r - 1).toNat : Nat) : Int) + 2 = r + 1 := by omega
  have eB : Bv u = up (Bv S) (r - 1).toNat (Cv S s) := funext fun k => by
    unfold Bv
    rw [p5, hK.av]
    by_cases q : k = (r - 1).toNat
    · rw [q, up_on, if_pos (by omega)]
      unfold Cv; rw [if_neg (by omega)]
    · rw [up_ne q, if_neg (by omega)]
  have cell : ∀ (k : Nat) (j : Int), k < (S.1 231 47).toNat → 0 ≤ j → j ≤ S.1 231 59 → PC S r s tn ((k : Int) + 2) j (TV u ((k : Int) + 2) j) := fun k j hk j0 j1 => pC _ j (by omega) (by omega) (fun q => by omega) j0 j1
  refine ⟨fun j j0 j1 i => ?_, asn tn z, ?_, ?_⟩
  · rw [ep] at j1
    rw [em, eB, pD]
    by_cases q : j = s
    · subst q
      have t := tab_s (m := (S.1 231 47).toNat) (r := (r - 1).toNat) (B := Bv S) (D := nv (S.2.1 264) 0) (cs := Cv S j) (ts := fun k => TV S ((k : Int) + 2) j) hr0 (h.1 j j0 j1) i
      rw [er] at t
      have ec : Cv u j i = Bv S (r - 1).toNat i := by
        unfold Cv Bv; rw [if_neg (by omega), hK.av, p6, if_pos rfl, show (((r - 1).toNat : Nat) : Int) + 1 = r by omega]
      rw [ec, as_mul, t, sm_as]
      refine sm_cg (fun k hk => ?_)
      have c := cell k j hk j0 j1
      rw [← as_mul]
      congr 1
      by_cases w : k = (r - 1).toNat
      · rw [if_pos w, c.1 ⟨by omega, rfl⟩]
      · rw [if_neg w, c.2.2.1 ⟨by omega, rfl⟩, asn_n]
    · have ec : Cv u j i = Cv S j i := by
        unfold Cv
        by_cases w : j = 0
        · rw [if_pos w, if_pos w, hK.bz]
        · rw [if_neg w, if_neg w, hK.av, p6, if_neg q]
      have t := (tab_j (m := (S.1 231 47).toNat) (r := (r - 1).toNat) (B := Bv S) (D := nv (S.2.1 264) 0) (s := z) (cj := Cv S j) (cs := Cv S s) (tj := fun k => TV S ((k : Int) + 2) j) (ts := fun k => TV S ((k : Int) + 2) s) (Q := fun k => asn tn (TV u ((k : Int) + 2) j)) (R := fun k => TV S ((k : Int) + 2) j * TV S (r + 1) s - TV S ((k : Int) + 2) s * TV S (r + 1) j - nv (S.2.1 264) 0 * asn tn (TV u ((k : Int) + 2) j)) hr0 hDp hz hF (h.1 j j0 j1) (h.1 s (by omega) hs.2) (fun k hk ne => by
        obtain ⟨Q, R, h1, h2, h3, h4⟩ := (cell k j hk j0 j1).2.2.2 ⟨by omega, q⟩
        have eQ : asn tn (TV u ((k : Int) + 2) j) = Q := by rw [h1, asn_2]
        show _ = _ * asn tn _ + (_ - _ * asn tn _) ∧ _
        rw [er, eQ]
        refine ⟨by omega, by omega, by omega⟩)).2 i
      rw [er] at t
      rw [ec, as_mul, t, sm_as]
      refine sm_cg (fun k hk => ?_)
      have c := cell k j hk j0 j1
      rw [← as_mul]
      congr 1
      by_cases w : k = (r - 1).toNat
      · rw [if_pos w, c.2.1 ⟨by omega, q⟩, w, er]
      · rw [if_neg w, asn_2]
  · unfold asn
    split <;> omega
  · rw [em, eB, pD, dt_nx (r := (r - 1).toNat) (D := nv (S.2.1 264) 0) (s := z) (ts := fun k => TV S ((k : Int) + 2) s) hr0 (by omega) hF (h.1 s (by omega) hs.2), er]
    unfold asn
    by_cases w : tn = 0
    · rw [if_pos w, if_pos w]
    · rw [if_neg w, if_neg w, Int.neg_mul_neg]
/-- the row of w, and where x0 is -/
def WX (S : sS) : Prop := (∃ r0, (1 ≤ r0 ∧ r0 ≤ S.1 231 58) ∧ S.2.1 265 r0 = 0 ∧ (∀ i, 1 ≤ i → i ≤ S.1 231 58 → i ≠ r0 → S.2.1 265 i ≠ 0) ∧ (∀ j, 1 ≤ j → j ≤ S.1 231 59 → S.2.1 266 j ≠ 0) ∧ (∀ j, 0 ≤ j → j ≤ S.1 231 59 → TV S 1 j = -TV S (r0 + 1) j) ∧ ∃ j, 1 ≤ j ∧ j ≤ S.1 231 59 ∧ TV S (r0 + 1) j ≠ 0) ∨ ((∀ i, 1 ≤ i → i ≤ S.1 231 58 → S.2.1 265 i ≠ 0) ∧ ∀ j, 1 ≤ j → j ≤ S.1 231 59 → 0 ≤ TV S 1 j)
theorem neg_Q {D Q Q' R' N : Int} (hD : 0 < D) (h1 : N = D * Q) (h2 : -N = D * Q' + R') (hR : 0 ≤ R' ∧ R' < D) : Q' = -Q := (ex_R (D := D) (X := -Q) hD (by rw [Int.mul_neg]; omega) hR).1
theorem WX.pv {S u : sS} {r s tn : Int} (h : WX S) (hT : Tab S) (hK : KM S u) (hD : DOK S) (hW : S.1 231 60 = 1) (hpm : S.1 231 58 = S.1 231 47) (hr : 1 ≤ r ∧ r ≤ S.1 231 58) (hs : 1 ≤ s ∧ s ≤ S.1 231 59) (htn : 0 ≤ tn ∧ tn ≤ 1) (hp : (tn = 1 → TV S (r + 1) s < 0) ∧ (tn = 0 → 0 < TV S (r + 1) s)) (hws : TV S 1 s < 0) (p : PV S u r s tn) : WX u := by
  have hDp := hD.2.2.2
  obtain ⟨pD, pC, p5, p6⟩ := p
  have ep : u.1 231 59 = S.1 231 59 := hK.1 59
  have e8 : u.1 231 58 = S.1 231 58 := hK.1 58
  have cw : ∀ j, 0 ≤ j → j ≤ S.1 231 59 → PC S r s tn 1 j (TV u 1 j) := fun j j0 j1 => pC 1 j (by omega) (by omega) (fun _ => hW) j0 j1
  rcases h with ⟨r0, h0, hb0, hbn, hon, hwx, _⟩ | ⟨_, hn⟩
  · have hxs : TV S (r0 + 1) s ≠ 0 := by have := hwx s (by omega) hs.2; omega
    by_cases q : r = r0
    · -- x0 leaves
      right
      subst q
      refine ⟨fun i i0 i1 => ?_, fun j j0 j1 => ?_⟩
      · rw [e8] at i1
        rw [p5]
        by_cases w : i = r
        · rw [if_pos w]; exact hon s hs.1 hs.2
        · rw [if_neg w]; exact hbn i i0 i1 w
      · rw [ep] at j1
        by_cases w : j = s
        · rw [(cw j (by omega) j1).2.2.1 ⟨by omega, w⟩, w, hwx s (by omega) hs.2, asn_n, Int.neg_neg]
          unfold asn
          split <;> omega
        · obtain ⟨Q, R, h1, h2, h3, h4⟩ := (cw j (by omega) j1).2.2.2 ⟨by omega, w⟩
          rw [hwx j (by omega) j1, hwx s (by omega) hs.2] at h2
          have z : -TV S (r + 1) j * TV S (r + 1) s - -TV S (r + 1) s * TV S (r + 1) j = 0 := by grind
          rw [z] at h2
          have := (ex_R (D := nv (S.2.1 264) 0) (X := 0) (Q := Q) (R := R) hDp (by rw [Int.mul_zero]; exact h2) ⟨h3, h4⟩).1
          rw [h1, this]
          unfold asn
          split <;> omega
    · left
      have cx : ∀ j, 0 ≤ j → j ≤ S.1 231 59 → PC S r s tn (r0 + 1) j (TV u (r0 + 1) j) := fun j j0 j1 => pC _ j (by omega) (by omega) (fun _ => hW) j0 j1
      refine ⟨r0, by rw [e8]; exact h0, by rw [p5, if_neg (fun z => q z.symm)]; exact hb0, fun i i0 i1 ne => ?_, fun j j0 j1 => ?_, fun j j0 j1 => ?_, s, hs.1, by rw [ep]; exact hs.2, ?_⟩
      · rw [e8] at i1
        rw [p5]
        by_cases w : i = r
        · rw [if_pos w]; exact hon s hs.1 hs.2
        · rw [if_neg w]; exact hbn i i0 i1 ne
      · rw [ep] at j1
        rw [p6]
        by_cases w : j = s
        · rw [if_pos w]; exact hbn r hr.1 hr.2 q
        · rw [if_neg w]; exact hon j j0 j1
      · rw [ep] at j1
        by_cases w : j = s
        · rw [(cw j j0 j1).2.2.1 ⟨by omega, w⟩, (cx j j0 j1).2.2.1 ⟨by omega, w⟩, hwx j j0 j1]; unfold asn; split <;> omega
        · obtain ⟨Q, R, h1, h2, h3, h4⟩ := (cw j j0 j1).2.2.2 ⟨by omega, w⟩
          obtain ⟨Q', R', k1, k2, k3, k4⟩ := (cx j j0 j1).2.2.2 ⟨by omega, w⟩
          have z := hT.ex hDp (by omega) hs ⟨j0, j1⟩ (a := r0 + 1) (by omega) (by omega) k2 ⟨k3, k4⟩
          rw [z] at k2
          rw [hwx j j0 j1, hwx s (by omega) hs.2] at h2
          have e : -TV S (r0 + 1) j * TV S (r + 1) s - -TV S (r0 + 1) s * TV S (r + 1) j = -(TV S (r0 + 1) j * TV S (r + 1) s - TV S (r0 + 1) s * TV S (r + 1) j) := by grind
          rw [e] at h2
          have := neg_Q (N := TV S (r0 + 1) j * TV S (r + 1) s - TV S (r0 + 1) s * TV S (r + 1) j) (Q := Q') (Q' := Q) (R' := R) hDp (by omega) h2 ⟨h3, h4⟩
          rw [h1, k1, this, asn_n]
      · rw [(cx s (by omega) hs.2).2.2.1 ⟨by omega, rfl⟩]
        unfold asn
        split <;> omega
  · exact absurd hws (by have := hn s hs.1 hs.2; omega)
