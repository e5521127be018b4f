/-! The machine's dictionaries: all divisions of a pivot go up -/
theorem sm_m {n : Nat} {x : Int} {f : Nat → Int} : sm n (fun k => x * f k) = x * sm n f := by
  have := sm_lin (n := n) (x := x) (f := f) (g := fun _ => 0)
  rw [sm_z (n := n) (f := fun _ => 0) (fun _ _ => rfl)] at this
  rw [show (fun k => x * f k) = fun k => x * f k + 0 from funext fun k => by omega, this]; omega
theorem sm_d {n r : Nat} {f : Nat → Int} (h : r < n) : sm n (fun k => f k * (if k = r then 1 else 0)) = f r := by
  rw [sm_1 (a := r) h (fun k _ ne => by rw [if_neg ne]; omega), if_pos rfl]; omega
theorem dt_cg : ∀ {n : Nat} {M K : Nat → Nat → Int}, (∀ a i, a < n → i < n → M a i = K a i) → dt n M = dt n K
  | 0, _, _, _ => rfl
  | n + 1, M, K, h => by
    show sm (n + 1) (fun k => sn k * M k n * dt n (fun a => M (sk k a))) = sm (n + 1) (fun k => sn k * K k n * dt n (fun a => K (sk k a)))
    refine sm_cg (fun k hk => ?_)
    rw [h k n hk (by omega), dt_cg (n := n) (M := fun a => M (sk k a)) (K := fun a => K (sk k a)) (fun a i ha hi => h _ i (by unfold sk; split <;> omega) (by omega))]
theorem dt_0v {n : Nat} {M : Nat → Nat → Int} {r : Nat} (hr : r < n) (h : ∀ i, i < n → M r i = 0) : dt n M = 0 := by
  rw [dt_cg (K := up M r (fun i => 0 * M r i)) (fun a i ha hi => by
    by_cases e : a = r
    · rw [e, up_on, h i hi]; rfl
    · rw [up_ne e]), dt_mul hr, Int.zero_mul]
theorem dt_bd {n : Nat} {M : Nat → Nat → Int} (hz : ∀ i, i < n → M n i = 0) (h1 : M n n = 1) : dt (n + 1) M = sn n * dt n M := by
  show sm (n + 1) (fun k => sn k * M k n * dt n (fun a => M (sk k a))) = _
  rw [sm_1 (a := n) (by omega) (fun k hk ne => ?_), h1, dt_cg (M := fun a => M (sk n a)) (K := M) (fun a i ha _ => by show M (sk n a) i = M a i; rw [show sk n a = a from if_pos ha])]
  · rw [Int.mul_one]
  · rw [dt_0v (r := n - 1) (by omega) (fun i hi => by show M (sk k (n - 1)) i = 0; rw [show sk k (n - 1) = n by unfold sk; rw [if_neg (by omega)]; omega]; exact hz i hi), Int.mul_zero]
theorem sn_1 (k : Nat) : sn k = 1 ∨ sn k = -1 := by unfold sn; split <;> omega
/-- a basis of determinant D or -D -/
def dEX (d : dT) : Prop := ∃ (C A : Nat → Nat → Int) (s : Int), (s = 1 ∨ s = -1) ∧ (∀ j : Nat, (j : Int) ≤ d.2.2.2.2.2 → ∀ k, d.1 * C j k = sm (d.2.2.2.2.1.toNat + 1) (fun i => d.2.1 i j * A i k)) ∧ dt (d.2.2.2.2.1.toNat + 1) A = s * d.1
theorem sgi_2 (x : Int) : sgi x * sgi x = 1 := by unfold sgi; split <;> rfl
theorem sgi_p {x : Int} (h : x ≠ 0) : 0 < sgi x * x := by unfold sgi; split <;> omega
theorem sgi_1 (x : Int) : sgi x = 1 ∨ sgi x = -1 := by unfold sgi; split <;> omega
section SLX
variable {d : dT} {n hw r s : Int}
theorem dEX.ex (h : dEX d) (hD : 0 < d.1) (hr : 1 ≤ r ∧ r ≤ d.2.2.2.2.1) (hs : 0 ≤ s ∧ s ≤ d.2.2.2.2.2) {i j : Int} (hi : 0 ≤ i ∧ i ≤ d.2.2.2.2.1) (ne : i ≠ r) (hj : 0 ≤ j ∧ j ≤ d.2.2.2.2.2) : d.1 * ((d.2.1 i j * d.2.1 r s - d.2.1 i s * d.2.1 r j) / d.1) = d.2.1 i j * d.2.1 r s - d.2.1 i s * d.2.1 r j := by
  obtain ⟨C, A, z, hz, hC, hA⟩ := h
  have k := dt_ex (n := d.2.2.2.2.1.toNat + 1) (B := A) (r := r.toNat) (i := i.toNat) (D := d.1) (s := z) (aj := C j.toNat) (as := C s.toNat) (tj := fun k => d.2.1 k j) (ts := fun k => d.2.1 k s) (by omega) (by omega) (by omega) (by omega) hz hA (fun q => by have e := hC j.toNat (by omega) q; rw [show ((j.toNat : Nat) : Int) = j by omega] at e; exact e) (fun q => by have e := hC s.toNat (by omega) q; rw [show ((s.toNat : Nat) : Int) = s by omega] at e; exact e)
  rw [show ((i.toNat : Nat) : Int) = i by omega, show ((r.toNat : Nat) : Int) = r by omega] at k
  rw [← k, Int.mul_ediv_cancel_left _ (by omega)]
theorem dEX.pv (h : dEX d) (hD : 0 < d.1) (hr : 1 ≤ r ∧ r ≤ d.2.2.2.2.1) (hs : 1 ≤ s ∧ s ≤ d.2.2.2.2.2) : dEX (pvD d r s) := by
  have ex := fun {i j : Int} => dEX.ex (i := i) (j := j) h hD hr (⟨by omega, hs.2⟩ : 0 ≤ s ∧ s ≤ d.2.2.2.2.2)
  obtain ⟨C, A, z, hz, hC, hA⟩ := h
  have hCs : ∀ q, d.1 * C s.toNat q = sm (d.2.2.2.2.1.toNat + 1) (fun k => d.2.1 k s * A k q) := fun q => by have e := hC s.toNat (by omega) q; rw [show ((s.toNat : Nat) : Int) = s by omega] at e; exact e
  have er : ((r.toNat : Nat) : Int) = r := by omega
  have g2 := sgi_2 (d.2.1 r s)
  refine ⟨up C s.toNat (A r.toNat), up A r.toNat (C s.toNat), z * sgi (d.2.1 r s), ?_, fun j hj k => ?_, ?_⟩
  · rcases hz with q | q <;> rcases sgi_1 (d.2.1 r s) with y | y <;> rw [q, y] <;> decide
  · show sgi (d.2.1 r s) * d.2.1 r s * up C s.toNat (A r.toNat) j k = sm (d.2.2.2.2.1.toNat + 1) (fun i => pvT d r s i j * up A r.toNat (C s.toNat) i k)
    have hj2 : (j : Int) ≤ d.2.2.2.2.2 := hj
    by_cases q : j = s.toNat
    · have t := tab_s (m := d.2.2.2.2.1.toNat + 1) (r := r.toNat) (B := A) (D := d.1) (cs := C s.toNat) (ts := fun k => d.2.1 k s) (by omega) hCs k
      rw [er] at t
      rw [q, up_on, Int.mul_assoc, t, ← sm_m]
      refine sm_cg (fun i hi => ?_)
      have e : pvT d r s i ((s.toNat : Nat) : Int) = sgi (d.2.1 r s) * (if i = r.toNat then d.1 else -d.2.1 i s) := by
        unfold pvT
        by_cases w : (i : Int) = r
        · rw [if_pos w, if_pos (by omega), if_pos (by omega)]
        · rw [if_neg w, if_pos (by omega), if_neg (by omega), Int.mul_neg]
      rw [e, Int.mul_assoc]
    · have hCj := hC j hj2
      have t := (tab_j (m := d.2.2.2.2.1.toNat + 1) (r := r.toNat) (B := A) (D := d.1) (s := z) (cj := C j) (cs := C s.toNat) (tj := fun k => d.2.1 k j) (ts := fun k => d.2.1 k s) (Q := fun k => (d.2.1 k j * d.2.1 r s - d.2.1 k s * d.2.1 r j) / d.1) (R := fun _ => 0) (by omega) hD hz hA hCj hCs (fun k hk ne => by
        have e := ex (i := (k : Int)) (j := (j : Int)) ⟨by omega, by omega⟩ (by omega) ⟨by omega, hj2⟩
        rw [er]
        exact ⟨by omega, by omega, hD⟩)).2 k
      rw [er] at t
      rw [up_ne q, Int.mul_assoc, t, ← sm_m]
      refine sm_cg (fun i hi => ?_)
      have e : pvT d r s i (j : Int) = sgi (d.2.1 r s) * (if i = r.toNat then d.2.1 r j else (d.2.1 i j * d.2.1 r s - d.2.1 i s * d.2.1 r j) / d.1) := by
        unfold pvT
        by_cases w : (i : Int) = r
        · rw [if_pos w, if_neg (by omega), if_pos (by omega)]
        · rw [if_neg w, if_neg (by omega), if_neg (by omega)]
      rw [e, Int.mul_assoc]
  · show dt (d.2.2.2.2.1.toNat + 1) (up A r.toNat (C s.toNat)) = z * sgi (d.2.1 r s) * (sgi (d.2.1 r s) * d.2.1 r s)
    rw [dt_nx (r := r.toNat) (D := d.1) (s := z) (ts := fun k => d.2.1 k s) (by omega) (by omega) hA hCs, er]
    have : z * sgi (d.2.1 r s) * (sgi (d.2.1 r s) * d.2.1 r s) = z * (sgi (d.2.1 r s) * sgi (d.2.1 r s)) * d.2.1 r s := by grind
    rw [this, g2, Int.mul_one]
theorem dEX.ad {t : Int → Int} {c b : Nat → Int} (h : dEX d) (hm : 0 ≤ d.2.2.2.2.1) (ht : ∀ j : Nat, (j : Int) ≤ d.2.2.2.2.2 → d.1 * c j = sm (d.2.2.2.2.1.toNat + 1) (fun i => d.2.1 i j * b i) + t j) : dEX (adR n d t) := by
  obtain ⟨C, A, z, hz, hC, hA⟩ := h
  have eM : (d.2.2.2.2.1 + 1).toNat + 1 = d.2.2.2.2.1.toNat + 1 + 1 := by omega
  have eI : ((d.2.2.2.2.1.toNat + 1 : Nat) : Int) = d.2.2.2.2.1 + 1 := by omega
  refine ⟨fun j k => if k = d.2.2.2.2.1.toNat + 1 then c j else C j k, fun i k => if i = d.2.2.2.2.1.toNat + 1 then (if k = d.2.2.2.2.1.toNat + 1 then 1 else 0) else if k = d.2.2.2.2.1.toNat + 1 then b i else A i k, z * sn (d.2.2.2.2.1.toNat + 1), ?_, fun j hj k => ?_, ?_⟩
  · rcases hz with q | q <;> rcases sn_1 (d.2.2.2.2.1.toNat + 1) with y | y <;> rw [q, y] <;> decide
  · have hj2 : (j : Int) ≤ d.2.2.2.2.2 := hj
    show d.1 * (if k = d.2.2.2.2.1.toNat + 1 then c j else C j k) = sm ((d.2.2.2.2.1 + 1).toNat + 1) _
    rw [eM]
    show _ = sm (d.2.2.2.2.1.toNat + 1) _ + (if ((d.2.2.2.2.1.toNat + 1 : Nat) : Int) = d.2.2.2.2.1 + 1 then t j else d.2.1 ((d.2.2.2.2.1.toNat + 1 : Nat) : Int) j) * (if d.2.2.2.2.1.toNat + 1 = d.2.2.2.2.1.toNat + 1 then (if k = d.2.2.2.2.1.toNat + 1 then 1 else 0) else if k = d.2.2.2.2.1.toNat + 1 then b (d.2.2.2.2.1.toNat + 1) else A (d.2.2.2.2.1.toNat + 1) k)
    rw [if_pos eI, if_pos rfl]
    by_cases q : k = d.2.2.2.2.1.toNat + 1
    · rw [if_pos q, if_pos q, Int.mul_one, ht j hj2]
      congr 1
      refine sm_cg (fun i hi => ?_)
      show _ = (if (i : Int) = d.2.2.2.2.1 + 1 then t j else d.2.1 i j) * (if i = d.2.2.2.2.1.toNat + 1 then (if k = d.2.2.2.2.1.toNat + 1 then 1 else 0) else if k = d.2.2.2.2.1.toNat + 1 then b i else A i k)
      rw [if_neg (by omega), if_neg (by omega), if_pos q]
    · rw [if_neg q, if_neg q, Int.mul_zero, Int.add_zero, hC j hj2 k]
      refine sm_cg (fun i hi => ?_)
      show _ = (if (i : Int) = d.2.2.2.2.1 + 1 then t j else d.2.1 i j) * (if i = d.2.2.2.2.1.toNat + 1 then (if k = d.2.2.2.2.1.toNat + 1 then 1 else 0) else if k = d.2.2.2.2.1.toNat + 1 then b i else A i k)
      rw [if_neg (by omega), if_neg (by omega), if_neg q]
  · show dt ((d.2.2.2.2.1 + 1).toNat + 1) _ = z * sn (d.2.2.2.2.1.toNat + 1) * d.1
    rw [eM, dt_bd (fun i hi => by rw [if_pos rfl, if_neg (by omega)]) (by rw [if_pos rfl, if_pos rfl]), dt_cg (K := A) (fun a i ha hi => by rw [if_neg (by omega), if_neg (by omega)]), hA]
    grind
theorem emod_e {a b : Int} : -(a % b) = b * (a / b) - a := by have := Int.mul_ediv_add_emod a b; omega
theorem dEX.cx (h : dEX d) (hr : 1 ≤ r ∧ r ≤ d.2.2.2.2.1) : dEX (adR n d (cuR d r)) := h.ad (c := fun j => d.2.1 r j / d.1) (b := fun i => if i = r.toNat then 1 else 0) (by omega) (fun j hj => by
  rw [sm_d (f := fun i => d.2.1 i j) (r := r.toNat) (by omega), show ((r.toNat : Nat) : Int) = r by omega]
  show _ = _ + -(d.2.1 r j % d.1)
  rw [emod_e]; omega)
theorem dEX.lo (h : dEX d) (hr : 1 ≤ r ∧ r ≤ d.2.2.2.2.1) : dEX (adR n d (loR d r)) := h.ad (c := fun j => if j = 0 then d.2.1 r 0 / d.1 else 0) (b := fun i => if i = r.toNat then 1 else 0) (by omega) (fun j hj => by
  rw [sm_d (f := fun i => d.2.1 i j) (r := r.toNat) (by omega), show ((r.toNat : Nat) : Int) = r by omega]
  show _ = _ + (if (j : Int) = 0 then -(d.2.1 r 0 % d.1) else -d.2.1 r j)
  by_cases q : j = 0
  · rw [if_pos q, if_pos (by omega), emod_e, show ((j : Nat) : Int) = 0 by omega]; omega
  · rw [if_neg q, if_neg (by omega)]; omega)
theorem dEX.hi (h : dEX d) (hr : 1 ≤ r ∧ r ≤ d.2.2.2.2.1) : dEX (adR n d (hiR d r)) := h.ad (c := fun j => if j = 0 then -(d.2.1 r 0 / d.1) - 1 else 0) (b := fun i => -1 * (if i = r.toNat then 1 else 0)) (by omega) (fun j hj => by
  rw [show (fun i : Nat => d.2.1 (i : Int) (j : Int) * (-1 * (if i = r.toNat then 1 else 0))) = fun i : Nat => -1 * (d.2.1 (i : Int) (j : Int) * (if i = r.toNat then 1 else 0)) from funext fun i => by grind, sm_m, sm_d (f := fun i => d.2.1 i j) (r := r.toNat) (by omega), show ((r.toNat : Nat) : Int) = r by omega]
  show _ = _ + (if (j : Int) = 0 then d.2.1 r 0 % d.1 - d.1 else d.2.1 r j)
  by_cases q : j = 0
  · rw [if_pos q, if_pos (by omega), show ((j : Nat) : Int) = 0 by omega]
    have := Int.mul_ediv_add_emod (d.2.1 r 0) d.1
    have e : d.1 * (-(d.2.1 r 0 / d.1) - 1) = -(d.1 * (d.2.1 r 0 / d.1)) - d.1 := by grind
    rw [e]; omega
  · rw [if_neg q, if_neg (by omega)]; omega)
theorem dEX.dp (h : dEX d) (hg : 1 ≤ pOf d 0 ∧ pOf d 0 ≤ d.2.2.2.2.2) : dEX (dpD d) := by
  obtain ⟨C, A, z, hz, hC, hA⟩ := h
  refine ⟨fun j => if j = (pOf d 0).toNat then C d.2.2.2.2.2.toNat else C j, A, z, hz, fun j hj k => ?_, hA⟩
  have hj2 : (j : Int) ≤ d.2.2.2.2.2 - 1 := hj
  show d.1 * (if j = (pOf d 0).toNat then C d.2.2.2.2.2.toNat else C j) k = sm (d.2.2.2.2.1.toNat + 1) (fun i => (if (j : Int) = pOf d 0 then d.2.1 i d.2.2.2.2.2 else d.2.1 i j) * A i k)
  by_cases q : j = (pOf d 0).toNat
  · rw [if_pos q, hC _ (by omega) k, show ((d.2.2.2.2.2.toNat : Nat) : Int) = d.2.2.2.2.2 by omega]
    exact sm_cg (fun i _ => by rw [if_pos (by omega)])
  · rw [if_neg q, hC j (by omega) k]
    exact sm_cg (fun i _ => by rw [if_neg (by omega)])
theorem dEX.st (h : d.1 = 1) (hm : 0 ≤ d.2.2.2.2.1) : dEX d := by
  have I := dt_I (n := d.2.2.2.2.1.toNat + 1) (M := fun i k => if i = k then 1 else 0) (fun a i _ _ => rfl)
  refine ⟨fun j k => if k < d.2.2.2.2.1.toNat + 1 then d.2.1 k j else 0, fun i k => if i = k then 1 else 0, dt (d.2.2.2.2.1.toNat + 1) (fun i k => if i = k then 1 else 0), I, fun j hj k => ?_, by rw [h, Int.mul_one]⟩
  rw [h, Int.one_mul]
  by_cases q : k < d.2.2.2.2.1.toNat + 1
  · show (if k < d.2.2.2.2.1.toNat + 1 then d.2.1 k j else 0) = sm (d.2.2.2.2.1.toNat + 1) (fun i => d.2.1 i j * (if i = k then 1 else 0))
    rw [if_pos q]
    exact (sm_d (f := fun i => d.2.1 i j) q).symm
  · show (if k < d.2.2.2.2.1.toNat + 1 then d.2.1 k j else 0) = sm (d.2.2.2.2.1.toNat + 1) (fun i => d.2.1 i j * (if i = k then 1 else 0))
    rw [if_neg q]
    exact (sm_z (fun i hi => by rw [if_neg (by omega), Int.mul_zero])).symm
/-- the numbers of the variables: each but once -/
def dIx (n hw : Int) (d : dT) : Prop := (∀ i, 1 ≤ i → i ≤ d.2.2.2.2.1 → 1 - hw ≤ d.2.2.1 i ∧ d.2.2.1 i ≤ n + d.2.2.2.2.1) ∧ (∀ j, 1 ≤ j → j ≤ d.2.2.2.2.2 → 1 - hw ≤ d.2.2.2.1 j ∧ d.2.2.2.1 j ≤ n + d.2.2.2.2.1) ∧ (∀ i k, 1 ≤ i → i ≤ d.2.2.2.2.1 → 1 ≤ k → k ≤ d.2.2.2.2.1 → d.2.2.1 i = d.2.2.1 k → i = k) ∧ (∀ i k, 1 ≤ i → i ≤ d.2.2.2.2.2 → 1 ≤ k → k ≤ d.2.2.2.2.2 → d.2.2.2.1 i = d.2.2.2.1 k → i = k) ∧ ∀ i j, 1 ≤ i → i ≤ d.2.2.2.2.1 → 1 ≤ j → j ≤ d.2.2.2.2.2 → d.2.2.1 i ≠ d.2.2.2.1 j
theorem dIx.pv (h : dIx n hw d) (hr : 1 ≤ r ∧ r ≤ d.2.2.2.2.1) (hs : 1 ≤ s ∧ s ≤ d.2.2.2.2.2) : dIx n hw (pvD d r s) := by
  obtain ⟨h1, h2, h3, h4, h5⟩ := h
  refine ⟨fun i i0 i1 => ?_, fun j j0 j1 => ?_, fun i k i0 i1 k0 k1 e => ?_, fun i k i0 i1 k0 k1 e => ?_, fun i j i0 i1 j0 j1 e => ?_⟩
  · show 1 - hw ≤ (if i = r then d.2.2.2.1 s else d.2.2.1 i) ∧ (if i = r then d.2.2.2.1 s else d.2.2.1 i) ≤ n + d.2.2.2.2.1
    split
    · exact h2 s hs.1 hs.2
    · exact h1 i i0 i1
  · show 1 - hw ≤ (if j = s then d.2.2.1 r else d.2.2.2.1 j) ∧ (if j = s then d.2.2.1 r else d.2.2.2.1 j) ≤ n + d.2.2.2.2.1
    split
    · exact h1 r hr.1 hr.2
    · exact h2 j j0 j1
  · have e : (if i = r then d.2.2.2.1 s else d.2.2.1 i) = (if k = r then d.2.2.2.1 s else d.2.2.1 k) := e
    by_cases a : i = r <;> by_cases b : k = r
    · omega
    · rw [if_pos a, if_neg b] at e; exact absurd e.symm (h5 k s k0 k1 hs.1 hs.2)
    · rw [if_neg a, if_pos b] at e; exact absurd e (h5 i s i0 i1 hs.1 hs.2)
    · rw [if_neg a, if_neg b] at e; exact h3 i k i0 i1 k0 k1 e
  · have e : (if i = s then d.2.2.1 r else d.2.2.2.1 i) = (if k = s then d.2.2.1 r else d.2.2.2.1 k) := e
    by_cases a : i = s <;> by_cases b : k = s
    · omega
    · rw [if_pos a, if_neg b] at e; exact absurd e (h5 r k hr.1 hr.2 k0 k1)
    · rw [if_neg a, if_pos b] at e; exact absurd e.symm (h5 r i hr.1 hr.2 i0 i1)
    · rw [if_neg a, if_neg b] at e; exact h4 i k i0 i1 k0 k1 e
  · have e : (if i = r then d.2.2.2.1 s else d.2.2.1 i) = (if j = s then d.2.2.1 r else d.2.2.2.1 j) := e
    by_cases a : i = r <;> by_cases b : j = s
    · rw [if_pos a, if_pos b] at e; exact h5 r s hr.1 hr.2 hs.1 hs.2 e.symm
    · rw [if_pos a, if_neg b] at e; exact b (h4 s j hs.1 hs.2 j0 j1 e).symm
    · rw [if_neg a, if_pos b] at e; exact a (h3 i r i0 i1 hr.1 hr.2 e)
    · rw [if_neg a, if_neg b] at e; exact h5 i j i0 i1 j0 j1 e
theorem dIx.ad {t : Int → Int} (h : dIx n hw d) (hn : 0 ≤ n) (hm : 0 ≤ d.2.2.2.2.1) (hw0 : 0 ≤ hw) : dIx n hw (adR n d t) := by
  obtain ⟨h1, h2, h3, h4, h5⟩ := h
  refine ⟨fun i i0 i1 => ?_, fun j j0 j1 => ?_, fun i k i0 i1 k0 k1 e => ?_, fun i k i0 i1 k0 k1 e => h4 i k i0 i1 k0 k1 e, fun i j i0 i1 j0 j1 e => ?_⟩
  · have i1 : i ≤ d.2.2.2.2.1 + 1 := i1
    show 1 - hw ≤ (if i = d.2.2.2.2.1 + 1 then n + (d.2.2.2.2.1 + 1) else d.2.2.1 i) ∧ (if i = d.2.2.2.2.1 + 1 then n + (d.2.2.2.2.1 + 1) else d.2.2.1 i) ≤ n + (d.2.2.2.2.1 + 1)
    split
    · omega
    · have := h1 i i0 (by omega); omega
  · have := h2 j j0 j1
    show 1 - hw ≤ d.2.2.2.1 j ∧ d.2.2.2.1 j ≤ n + (d.2.2.2.2.1 + 1)
    omega
  · have i1 : i ≤ d.2.2.2.2.1 + 1 := i1
    have k1 : k ≤ d.2.2.2.2.1 + 1 := k1
    have e : (if i = d.2.2.2.2.1 + 1 then n + (d.2.2.2.2.1 + 1) else d.2.2.1 i) = (if k = d.2.2.2.2.1 + 1 then n + (d.2.2.2.2.1 + 1) else d.2.2.1 k) := e
    by_cases a : i = d.2.2.2.2.1 + 1 <;> by_cases b : k = d.2.2.2.2.1 + 1
    · omega
    · rw [if_pos a, if_neg b] at e; have := h1 k k0 (by omega); omega
    · rw [if_neg a, if_pos b] at e; have := h1 i i0 (by omega); omega
    · rw [if_neg a, if_neg b] at e; exact h3 i k i0 (by omega) k0 (by omega) e
  · have i1 : i ≤ d.2.2.2.2.1 + 1 := i1
    have e : (if i = d.2.2.2.2.1 + 1 then n + (d.2.2.2.2.1 + 1) else d.2.2.1 i) = d.2.2.2.1 j := e
    by_cases a : i = d.2.2.2.2.1 + 1
    · rw [if_pos a] at e; have := h2 j j0 j1; omega
    · rw [if_neg a] at e; exact h5 i j i0 (by omega) j0 j1 e
theorem pOf_i {v : Int} (h : pOf d v ≠ 0) (hp : 0 ≤ d.2.2.2.2.2) : (1 ≤ pOf d v ∧ pOf d v ≤ d.2.2.2.2.2) ∧ d.2.2.2.1 (pOf d v) = v := by
  have r := pick_le (fun j => d.2.2.2.1 j = v) (fun _ _ => False) d.2.2.2.2.2.toNat
  have : pOf d v = pick (fun j => d.2.2.2.1 j = v) (fun _ _ => False) d.2.2.2.2.2.toNat := rfl
  exact ⟨by omega, pick_P _ h⟩
theorem rOf_i {v : Int} (h : rOf d v ≠ 0) (hp : 0 ≤ d.2.2.2.2.1) : (1 ≤ rOf d v ∧ rOf d v ≤ d.2.2.2.2.1) ∧ d.2.2.1 (rOf d v) = v := by
  have r := pick_le (fun j => d.2.2.1 j = v) (fun _ _ => False) d.2.2.2.2.1.toNat
  have : rOf d v = pick (fun j => d.2.2.1 j = v) (fun _ _ => False) d.2.2.2.2.1.toNat := rfl
  exact ⟨by omega, pick_P _ h⟩
theorem dIx.dp (h : dIx n 1 d) (hp : 0 ≤ d.2.2.2.2.2) (hg : pOf d 0 ≠ 0) : dIx n 0 (dpD d) := by
  obtain ⟨h1, h2, h3, h4, h5⟩ := h
  obtain ⟨⟨g0, g1⟩, gv⟩ := pOf_i hg hp
  have nz : ∀ j, 1 ≤ j → j ≤ d.2.2.2.2.2 → j ≠ pOf d 0 → d.2.2.2.1 j ≠ 0 := fun j a b ne e => ne (h4 j _ a b g0 g1 (by rw [e, gv]))
  refine ⟨fun i i0 i1 => ?_, fun j j0 j1 => ?_, h3, fun i k i0 i1 k0 k1 e => ?_, fun i j i0 i1 j0 j1 e => ?_⟩
  · have a := h1 i i0 i1
    have b := h5 i _ i0 i1 g0 g1
    rw [gv] at b
    show 1 - 0 ≤ d.2.2.1 i ∧ d.2.2.1 i ≤ n + d.2.2.2.2.1
    omega
  · have j1 : j ≤ d.2.2.2.2.2 - 1 := j1
    show 1 - 0 ≤ (if j = pOf d 0 then d.2.2.2.1 d.2.2.2.2.2 else d.2.2.2.1 j) ∧ (if j = pOf d 0 then d.2.2.2.1 d.2.2.2.2.2 else d.2.2.2.1 j) ≤ n + d.2.2.2.2.1
    split
    · have a := h2 _ (by omega) (Int.le_refl d.2.2.2.2.2); have b := nz _ (by omega) (Int.le_refl d.2.2.2.2.2) (by omega); omega
    · rename_i q; have a := h2 j j0 (by omega); have b := nz j j0 (by omega) q; omega
  · have i1 : i ≤ d.2.2.2.2.2 - 1 := i1
    have k1 : k ≤ d.2.2.2.2.2 - 1 := k1
    have e : (if i = pOf d 0 then d.2.2.2.1 d.2.2.2.2.2 else d.2.2.2.1 i) = (if k = pOf d 0 then d.2.2.2.1 d.2.2.2.2.2 else d.2.2.2.1 k) := e
    by_cases a : i = pOf d 0 <;> by_cases b : k = pOf d 0
    · omega
    · rw [if_pos a, if_neg b] at e; have := h4 _ k (by omega) (Int.le_refl d.2.2.2.2.2) k0 (by omega) e; omega
    · rw [if_neg a, if_pos b] at e; have := h4 i _ i0 (by omega) (by omega) (Int.le_refl d.2.2.2.2.2) e; omega
    · rw [if_neg a, if_neg b] at e; exact h4 i k i0 (by omega) k0 (by omega) e
  · have j1 : j ≤ d.2.2.2.2.2 - 1 := j1
    have e : d.2.2.1 i = (if j = pOf d 0 then d.2.2.2.1 d.2.2.2.2.2 else d.2.2.2.1 j) := e
    by_cases b : j = pOf d 0
    · rw [if_pos b] at e; exact h5 i _ i0 i1 (by omega) (Int.le_refl d.2.2.2.2.2) e
    · rw [if_neg b] at e; exact h5 i j i0 i1 j0 (by omega) e
theorem rOf_u (h : dIx n hw d) {i : Int} (hi : 1 ≤ i ∧ i ≤ d.2.2.2.2.1) : rOf d (d.2.2.1 i) = i := pick_one _ hi.1 (by omega) rfl (fun k k0 k1 e => h.2.2.1 k i k0 (by omega) hi.1 hi.2 e)
theorem pOf_u (h : dIx n hw d) {j : Int} (hj : 1 ≤ j ∧ j ≤ d.2.2.2.2.2) : pOf d (d.2.2.2.1 j) = j := pick_one _ hj.1 (by omega) rfl (fun k k0 k1 e => h.2.2.2.1 k j k0 (by omega) hj.1 hj.2 e)
/-- a dictionary that is right -/
def dOK (n hw : Int) (d : dT) : Prop := (0 ≤ d.2.2.2.2.1 ∧ d.2.2.2.2.1 ≤ 40) ∧ (0 ≤ d.2.2.2.2.2 ∧ d.2.2.2.2.2 ≤ 12 + hw) ∧ 0 < d.1 ∧ dEX d ∧ dIx n hw d
theorem dOK.pv (h : dOK n hw d) (hr : 1 ≤ r ∧ r ≤ d.2.2.2.2.1) (hs : 1 ≤ s ∧ s ≤ d.2.2.2.2.2) (ne : d.2.1 r s ≠ 0) : dOK n hw (pvD d r s) := ⟨h.1, h.2.1, sgi_p ne, h.2.2.2.1.pv h.2.2.1 hr hs, h.2.2.2.2.pv hr hs⟩
theorem dOK.ad {t : Int → Int} (h : dOK n 0 d) (hn : 0 ≤ n) (hm : d.2.2.2.2.1 < 40) (e : dEX (adR n d t)) : dOK n 0 (adR n d t) := ⟨⟨by show 0 ≤ d.2.2.2.2.1 + 1; have := h.1; omega, by show d.2.2.2.2.1 + 1 ≤ 40; omega⟩, h.2.1, h.2.2.1, e, h.2.2.2.2.ad hn h.1.1 (by omega)⟩
theorem dOK.dp (h : dOK n 1 d) (hg : pOf d 0 ≠ 0) : dOK n 0 (dpD d) := by
  have g := pOf_i hg h.2.1.1
  have b := h.2.1
  exact ⟨h.1, ⟨by show 0 ≤ d.2.2.2.2.2 - 1; omega, by show d.2.2.2.2.2 - 1 ≤ 12 + 0; omega⟩, h.2.2.1, h.2.2.2.1.dp g.1, h.2.2.2.2.dp h.2.1.1 hg⟩
/-- PHASE 1 -/
def wFs (d : dT) : Prop := d.1 = 1 ∧ (∀ j, 0 ≤ j → j < d.2.2.2.2.2 → d.2.1 (-1) j = 0) ∧ d.2.1 (-1) d.2.2.2.2.2 = 1 ∧ (∀ i, 1 ≤ i → i ≤ d.2.2.2.2.1 → d.2.1 i d.2.2.2.2.2 = -1) ∧ d.2.2.2.1 d.2.2.2.2.2 = 0 ∧ 1 ≤ d.2.2.2.2.1 ∧ 1 ≤ d.2.2.2.2.2 ∧ ∀ i, 1 ≤ i → i ≤ d.2.2.2.2.1 → -999999999 ≤ d.2.1 i 0 ∧ d.2.1 i 0 ≤ 999999999
def wIn (d : dT) : Prop := ∃ r0, (1 ≤ r0 ∧ r0 ≤ d.2.2.2.2.1) ∧ d.2.2.1 r0 = 0 ∧ (∀ j, 0 ≤ j → j ≤ d.2.2.2.2.2 → d.2.1 (-1) j = -d.2.1 r0 j) ∧ ∃ j, (1 ≤ j ∧ j ≤ d.2.2.2.2.2) ∧ d.2.1 r0 j ≠ 0
def wOu (d : dT) : Prop := pOf d 0 ≠ 0 ∧ rOf d 0 = 0 ∧ (∀ j, 1 ≤ j → j ≤ d.2.2.2.2.2 → 0 ≤ d.2.1 (-1) j) ∧ 0 ≤ d.2.1 (-1) 0
theorem wFs.pv (h : wFs d) (hr : 1 ≤ r ∧ r ≤ d.2.2.2.2.1) : wIn (pvD d r d.2.2.2.2.2) := by
  obtain ⟨h1, h2, h3, h4, h5, h6, h7, _⟩ := h
  refine ⟨r, hr, ?_, fun j j0 j1 => ?_, d.2.2.2.2.2, ⟨h7, Int.le_refl _⟩, ?_⟩
  · show (if r = r then d.2.2.2.1 d.2.2.2.2.2 else d.2.2.1 r) = 0
    rw [if_pos rfl, h5]
  · have j1 : j ≤ d.2.2.2.2.2 := j1
    show pvT d r d.2.2.2.2.2 (-1) j = -pvT d r d.2.2.2.2.2 r j
    unfold pvT
    rw [if_neg (by omega), if_pos rfl]
    by_cases q : j = d.2.2.2.2.2
    · rw [if_pos q, if_pos q, h1, h3]
    · rw [if_neg q, if_neg q, h2 j j0 (by omega), h3, h1, Int.zero_mul, Int.one_mul, Int.ediv_one, Int.zero_sub, Int.mul_neg]
  · show pvT d r d.2.2.2.2.2 r d.2.2.2.2.2 ≠ 0
    unfold pvT
    rw [if_pos rfl, if_pos rfl, h1]
    rcases sgi_1 (d.2.1 r d.2.2.2.2.2) with q | q <;> rw [q] <;> decide
theorem wIn.pv (h : wIn d) (hx : dIx n hw d) (hE : dEX d) (hD : 0 < d.1) (hr : 1 ≤ r ∧ r ≤ d.2.2.2.2.1) (hs : 1 ≤ s ∧ s ≤ d.2.2.2.2.2) (hn : d.2.1 (-1) s ≠ 0) (nr : d.2.2.1 r ≠ 0) : wIn (pvD d r s) := by
  obtain ⟨r0, h1, h2, h3, h4⟩ := h
  have ne : r0 ≠ r := fun e => nr (by rw [← e]; exact h2)
  refine ⟨r0, h1, ?_, fun j j0 j1 => ?_, s, hs, ?_⟩
  · show (if r0 = r then d.2.2.2.1 s else d.2.2.1 r0) = 0
    rw [if_neg ne, h2]
  · have j1 : j ≤ d.2.2.2.2.2 := j1
    show pvT d r s (-1) j = -pvT d r s r0 j
    unfold pvT
    rw [if_neg (by omega), if_neg ne]
    by_cases q : j = s
    · rw [if_pos q, if_pos q, h3 s (by omega) hs.2, Int.mul_neg]
    · rw [if_neg q, if_neg q, h3 j j0 j1, h3 s (by omega) hs.2]
      have e := hE.ex (i := r0) (j := j) hD hr ⟨by omega, hs.2⟩ ⟨by omega, h1.2⟩ ne ⟨j0, j1⟩
      have k : -d.2.1 r0 j * d.2.1 r s - -d.2.1 r0 s * d.2.1 r j = d.1 * -((d.2.1 r0 j * d.2.1 r s - d.2.1 r0 s * d.2.1 r j) / d.1) := by
        rw [Int.mul_neg, e, Int.neg_mul, Int.neg_mul]; omega
      rw [k, Int.mul_ediv_cancel_left _ (by omega), Int.mul_neg]
  · show pvT d r s r0 s ≠ 0
    unfold pvT
    rw [if_neg ne, if_pos rfl]
    have e := h3 s (by omega) hs.2
    rcases sgi_1 (d.2.1 r s) with q | q <;> rw [q] <;> omega
theorem wIn.ou (h : wIn d) (hx : dIx n hw d) (hD : 0 < d.1) (hr : 1 ≤ r ∧ r ≤ d.2.2.2.2.1) (hs : 1 ≤ s ∧ s ≤ d.2.2.2.2.2) (z : d.2.2.1 r = 0) (np : d.2.1 r s ≠ 0) : wOu (pvD d r s) := by
  obtain ⟨r0, h1, h2, h3, h4⟩ := h
  have er : r0 = r := hx.2.2.1 r0 r h1.1 h1.2 hr.1 hr.2 (by rw [h2, z])
  rw [er] at h3
  have x := hx.pv (r := r) (s := s) hr hs
  have hs2 : (pvD d r s).2.2.2.1 s = 0 := by show (if s = s then d.2.2.1 r else d.2.2.2.1 s) = 0; rw [if_pos rfl, z]
  have eP : pOf (pvD d r s) 0 = s := by rw [← hs2]; exact pOf_u x hs
  have T0 : ∀ j, 0 ≤ j → j ≤ d.2.2.2.2.2 → j ≠ s → pvT d r s (-1) j = 0 := fun j j0 j1 ne => by
    unfold pvT
    rw [if_neg (by omega), if_neg ne, h3 j j0 j1, h3 s (by omega) hs.2, show -d.2.1 r j * d.2.1 r s - -d.2.1 r s * d.2.1 r j = 0 by grind, Int.zero_ediv, Int.mul_zero]
  refine ⟨by rw [eP]; omega, ?_, fun j j0 j1 => ?_, ?_⟩
  · refine pick_no (fun i i0 i1 e => ?_)
    have i2 : i ≤ (d.2.2.2.2.1.toNat : Int) := i1
    exact x.2.2.2.2 i s i0 (show i ≤ d.2.2.2.2.1 by omega) hs.1 hs.2 (by rw [hs2]; exact e)
  · show 0 ≤ pvT d r s (-1) j
    by_cases q : j = s
    · rw [q]
      unfold pvT
      rw [if_neg (by omega), if_pos rfl, h3 s (by omega) hs.2, Int.mul_neg, Int.neg_neg]
      exact Int.le_of_lt (sgi_p np)
    · rw [T0 j (by omega) j1 q]; omega
  · show 0 ≤ pvT d r s (-1) 0
    rw [T0 0 (by omega) (by omega) (by omega)]; omega
end SLX
