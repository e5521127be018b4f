/-! The work's points are never below naught -/
theorem rat_tr {ax sx ay sy ai si : Int} (hx : 0 < sx) (hy : 0 < sy) (hi : 0 < si) (h1 : ay * sx ≤ ax * sy) (h2 : ax * si ≤ ai * sx) : ay * si ≤ ai * sy := by
  have p1 : (ay * sx) * si ≤ (ax * sy) * si := Int.mul_le_mul_of_nonneg_right h1 (Int.le_of_lt hi)
  have p2 : (ax * si) * sy ≤ (ai * sx) * sy := Int.mul_le_mul_of_nonneg_right h2 (Int.le_of_lt hy)
  have e1 : sx * (ay * si) = (ay * sx) * si := by grind
  have e2 : (ax * sy) * si = (ax * si) * sy := by grind
  have e3 : (ai * sx) * sy = sx * (ai * sy) := by grind
  have a : sx * (ay * si) ≤ sx * (ai * sy) := by omega
  exact Int.le_of_mul_le_mul_left a hx
theorem rU_min {d : dT} {s : Int} : ∀ k : Nat, pick (fun i => 0 < d.2.1 i s) (ltU d s) k ≠ 0 → ∀ i : Int, 1 ≤ i → i ≤ (k : Int) → 0 < d.2.1 i s → d.2.1 (pick (fun i => 0 < d.2.1 i s) (ltU d s) k) 0 * d.2.1 i s ≤ d.2.1 i 0 * d.2.1 (pick (fun i => 0 < d.2.1 i s) (ltU d s) k) s
  | 0, h, _, _, _, _ => absurd rfl h
  | k + 1, h, i, i0, i1, p => by
    rw [pick_S k] at h ⊢
    by_cases c : 0 < d.2.1 ((k : Int) + 1) s ∧ (pick (fun i => 0 < d.2.1 i s) (ltU d s) k = 0 ∨ ltU d s ((k : Int) + 1) (pick (fun i => 0 < d.2.1 i s) (ltU d s) k))
    · rw [cif_t c]
      by_cases e : i = (k : Int) + 1
      · rw [e]; exact Int.le_refl _
      · have x0 : pick (fun i => 0 < d.2.1 i s) (ltU d s) k ≠ 0 := fun z => pick_0 k z i i0 (by omega) p
        have ih := rU_min k x0 i i0 (by omega) p
        have px : 0 < d.2.1 (pick (fun i => 0 < d.2.1 i s) (ltU d s) k) s := pick_P k x0
        have lw : d.2.1 ((k : Int) + 1) 0 * d.2.1 (pick (fun i => 0 < d.2.1 i s) (ltU d s) k) s ≤ d.2.1 (pick (fun i => 0 < d.2.1 i s) (ltU d s) k) 0 * d.2.1 ((k : Int) + 1) s := by
          rcases c.2 with z | z
          · exact absurd z x0
          · unfold ltU at z
            rcases z with z | z
            · exact Int.le_of_lt z
            · exact Int.le_of_eq z.1
        exact rat_tr px c.1 p lw ih
    · rw [cif_f c] at h ⊢
      by_cases e : i = (k : Int) + 1
      · have nl : ¬ ltU d s ((k : Int) + 1) (pick (fun i => 0 < d.2.1 i s) (ltU d s) k) := fun z => c ⟨by rw [← e]; exact p, .inr z⟩
        rw [e]
        rcases Int.lt_or_le (d.2.1 ((k : Int) + 1) 0 * d.2.1 (pick (fun i => 0 < d.2.1 i s) (ltU d s) k) s) (d.2.1 (pick (fun i => 0 < d.2.1 i s) (ltU d s) k) 0 * d.2.1 ((k : Int) + 1) s) with y | y
        · exact absurd (.inl y) nl
        · exact y
      · exact rU_min k h i i0 (by omega) p
theorem rFi_min {d : dT} : ∀ k : Nat, ∀ i : Int, 1 ≤ i → i ≤ (k : Int) → d.2.1 (pick (fun _ => True) (fun i r => d.2.1 i 0 < d.2.1 r 0) k) 0 ≤ d.2.1 i 0
  | 0, i, i0, i1 => absurd i0 (by omega)
  | k + 1, i, i0, i1 => by
    rw [pick_S k]
    by_cases c : True ∧ (pick (fun _ => True) (fun i r => d.2.1 i 0 < d.2.1 r 0) k = 0 ∨ d.2.1 ((k : Int) + 1) 0 < d.2.1 (pick (fun _ => True) (fun i r => d.2.1 i 0 < d.2.1 r 0) k) 0)
    · rw [cif_t c]
      by_cases e : i = (k : Int) + 1
      · rw [e]; exact Int.le_refl _
      · have ih := rFi_min (d := d) k i i0 (by omega)
        rcases c.2 with z | z
        · exact absurd trivial (pick_0 k z i i0 (by omega))
        · exact Int.le_trans (Int.le_of_lt z) ih
    · rw [cif_f c]
      by_cases e : i = (k : Int) + 1
      · rw [e]
        rcases Int.lt_or_le (d.2.1 ((k : Int) + 1) 0) (d.2.1 (pick (fun _ => True) (fun i r => d.2.1 i 0 < d.2.1 r 0) k) 0) with y | y
        · exact absurd ⟨trivial, .inr y⟩ c
        · exact y
      · exact rFi_min k i i0 (by omega)
/-- no number of the first column is below naught -/
def nn0 (d : dT) : Prop := ∀ i, 1 ≤ i → i ≤ d.2.2.2.2.1 → 0 ≤ d.2.1 i 0
/-- what the pivot that waits needs, so that it stays so -/
def nnP (W : wT) : Prop := (W.2.1 3 = 0 → ∀ i, 1 ≤ i → i ≤ W.1.2.2.2.2.1 → W.1.2.1 (W.2.1 8) 0 ≤ W.1.2.1 i 0) ∧ (W.2.1 3 = 1 ∨ W.2.1 3 = 3 → 0 < W.1.2.1 (W.2.1 8) (W.2.1 9) ∧ ∀ i, 1 ≤ i → i ≤ W.1.2.2.2.2.1 → 0 < W.1.2.1 i (W.2.1 9) → W.1.2.1 (W.2.1 8) 0 * W.1.2.1 i (W.2.1 9) ≤ W.1.2.1 i 0 * W.1.2.1 (W.2.1 8) (W.2.1 9)) ∧ (W.2.1 3 = 5 → W.1.2.1 (W.2.1 8) 0 = 0)
def Jp (W : wT) : Prop := (W.2.1 3 = 0 → ∃ i, (1 ≤ i ∧ i ≤ W.1.2.2.2.2.1) ∧ W.1.2.1 i 0 < 0) ∧ (W.2.1 3 = 1 ∨ W.2.1 3 = 5 ∨ W.2.1 3 = 3 → nn0 W.1) ∧ (W.2.1 1 = 1 → nnP W) ∧ (W.2.1 1 = 2 → nn0 W.1) ∧ (0 < W.2.1 6 → ∀ v, 0 ≤ W.2.2.2.2.2.2 v)
section SP
variable {K : qT} {W : wT}
theorem ptB_nn {d : dT} (h : nn0 d) (hm : 0 ≤ d.2.2.2.2.1) (v : Int) : 0 ≤ ptB d v := by
  unfold ptB
  by_cases q : rOf d v ≠ 0
  · rw [cif_t q]
    have r := rOf_i q hm
    exact h _ r.1.1 r.1.2
  · rw [cif_f q]; exact Int.le_refl _
/-- a pivot by the ratio -/
theorem nn_pv {d : dT} {r s : Int} (h : nn0 d) (hD : 0 < d.1) (hr : 1 ≤ r ∧ r ≤ d.2.2.2.2.1) (hs : 1 ≤ s) (hp : 0 < d.2.1 r s) (hm : ∀ i, 1 ≤ i → i ≤ d.2.2.2.2.1 → 0 < d.2.1 i s → d.2.1 r 0 * d.2.1 i s ≤ d.2.1 i 0 * d.2.1 r s) : nn0 (pvD d r s) := fun i i0 i1 => by
  have i1 : i ≤ d.2.2.2.2.1 := i1
  have sg : sgi (d.2.1 r s) = 1 := if_pos (Int.le_of_lt hp)
  have r0 := h r hr.1 hr.2
  have a0 := h i i0 i1
  show 0 ≤ pvT d r s i 0
  by_cases e : i = r
  · unfold pvT
    rw [if_pos e, if_neg (by omega), sg, Int.one_mul]; exact r0
  · rw [pvT_o e (by omega), sg, Int.one_mul]
    refine Int.ediv_nonneg ?_ (Int.le_of_lt hD)
    have p1 : 0 ≤ d.2.1 i 0 * d.2.1 r s := Int.mul_nonneg a0 (Int.le_of_lt hp)
    rcases Int.lt_or_le 0 (d.2.1 i s) with z | z
    · have q := hm i i0 i1 z
      have e2 : d.2.1 i s * d.2.1 r 0 = d.2.1 r 0 * d.2.1 i s := Int.mul_comm _ _
      omega
    · have q : d.2.1 i s * d.2.1 r 0 ≤ 0 * d.2.1 r 0 := Int.mul_le_mul_of_nonneg_right z r0
      rw [Int.zero_mul] at q
      omega
/-- the first pivot -/
theorem nn_fs {d : dT} {r : Int} (h : wFs d) (hr : 1 ≤ r ∧ r ≤ d.2.2.2.2.1) (hm : ∀ i, 1 ≤ i → i ≤ d.2.2.2.2.1 → d.2.1 r 0 ≤ d.2.1 i 0) (hn : ∃ i, (1 ≤ i ∧ i ≤ d.2.2.2.2.1) ∧ d.2.1 i 0 < 0) : nn0 (pvD d r d.2.2.2.2.2) := fun i i0 i1 => by
  have i1 : i ≤ d.2.2.2.2.1 := i1
  obtain ⟨h1, _, _, h4, _, _, h7, _⟩ := h
  have er := h4 r hr.1 hr.2
  have ei := h4 i i0 i1
  have sg : sgi (d.2.1 r d.2.2.2.2.2) = -1 := by rw [er]; rfl
  obtain ⟨x, hx, xn⟩ := hn
  have xr := hm x hx.1 hx.2
  have ir := hm i i0 i1
  show 0 ≤ pvT d r d.2.2.2.2.2 i 0
  by_cases e : i = r
  · unfold pvT
    rw [if_pos e, if_neg (by omega), sg]; omega
  · rw [pvT_o e (by omega), sg, er, ei, h1, Int.ediv_one]; omega
/-- the helper goes out at naught -/
theorem nn_ou {d : dT} {r s : Int} (h : nn0 d) (hD : 0 < d.1) (hr : 1 ≤ r ∧ r ≤ d.2.2.2.2.1) (hs : 1 ≤ s) (hp : d.2.1 r s ≠ 0) (z : d.2.1 r 0 = 0) (hx : ∀ i, 1 ≤ i → i ≤ d.2.2.2.2.1 → i ≠ r → d.1 * ((d.2.1 i 0 * d.2.1 r s - d.2.1 i s * d.2.1 r 0) / d.1) = d.2.1 i 0 * d.2.1 r s - d.2.1 i s * d.2.1 r 0) : nn0 (pvD d r s) := fun i i0 i1 => by
  have i1 : i ≤ d.2.2.2.2.1 := i1
  have a0 := h i i0 i1
  show 0 ≤ pvT d r s i 0
  by_cases e : i = r
  · unfold pvT
    rw [if_pos e, if_neg (by omega), z, Int.mul_zero]; exact Int.le_refl _
  · rw [pvT_o e (by omega)]
    have x := hx i i0 i1 e
    rw [z, Int.mul_zero, Int.sub_zero] at x ⊢
    have p := sgi_p hp
    have q : d.1 * (sgi (d.2.1 r s) * (d.2.1 i 0 * d.2.1 r s / d.1)) = d.2.1 i 0 * (sgi (d.2.1 r s) * d.2.1 r s) := by
      have e1 : d.1 * (sgi (d.2.1 r s) * (d.2.1 i 0 * d.2.1 r s / d.1)) = sgi (d.2.1 r s) * (d.1 * (d.2.1 i 0 * d.2.1 r s / d.1)) := by grind
      rw [e1, x]; grind
    have nn : 0 ≤ d.2.1 i 0 * (sgi (d.2.1 r s) * d.2.1 r s) := Int.mul_nonneg a0 (Int.le_of_lt p)
    rcases Int.lt_or_le (sgi (d.2.1 r s) * (d.2.1 i 0 * d.2.1 r s / d.1)) 0 with y | y
    · have b : d.1 * (sgi (d.2.1 r s) * (d.2.1 i 0 * d.2.1 r s / d.1)) < d.1 * 0 := Int.mul_lt_mul_of_pos_left y hD
      rw [Int.mul_zero] at b
      omega
    · exact y
theorem Jp.tP {r s : Int} (j : Jp W) (n : nnP (toP W r s)) : Jp (toP W r s) := ⟨j.1, j.2.1, fun _ => n, fun q => absurd (show (1 : Int) = 2 from q) (by decide), j.2.2.2.2⟩
theorem Jp.tC {c : Nat → Int} (j : Jp W) (e3 : c 3 = W.2.1 3) (e6 : c 6 = W.2.1 6) (e1 : c 1 ≠ 1) (h2 : c 1 = 2 → nn0 W.1) : Jp (wC W c) := ⟨fun q => j.1 (e3.symm.trans q), fun q => j.2.1 (by rw [← e3]; exact q), fun q => absurd q e1, h2, fun q => j.2.2.2.2 (by rw [← e6]; exact q)⟩
theorem Jp.tD (j : Jp W) (h3 : W.2.1 3 = 1 ∨ W.2.1 3 = 5) (h1 : W.2.1 1 = 0) (hg : pOf W.1 0 ≠ 0) (hp : 0 ≤ W.1.2.2.2.2.2) : Jp (dpW W) := by
  have g := pOf_i hg hp
  have n := j.2.1 (by omega)
  refine ⟨fun q => absurd (show (3 : Int) = 0 from q) (by decide), fun _ i i0 i1 => ?_, fun q => absurd (show W.2.1 1 = 1 from q) (by omega), fun q => absurd (show W.2.1 1 = 2 from q) (by omega), j.2.2.2.2⟩
  show 0 ≤ (if (0 : Int) = pOf W.1 0 then W.1.2.1 i W.1.2.2.2.2.2 else W.1.2.1 i 0)
  rw [if_neg (by omega)]; exact n i i0 i1
theorem Jp.ch (h : Iv K W) (j : Jp W) (hn : W.2.1 1 = 0) : Jp (s_ch W) := by
  have a := h.1
  have pl := a.2.1.1
  have ml := a.1.1
  have mn : ∀ {k : Int}, k ≤ W.1.2.2.2.2.1 → k ≤ ((W.1.2.2.2.2.1.toNat : Nat) : Int) := fun hk => by omega
  rcases h.2.2.1 with f | f | f | f | f
  · rw [ch_0 f.1]
    refine j.tP ⟨fun _ i i0 i1 => rFi_min _ i i0 (mn i1), fun q => ?_, fun q => ?_⟩
    · have q : W.2.1 3 = 1 ∨ W.2.1 3 = 3 := q
      have := f.1; omega
    · have q : W.2.1 3 = 5 := q
      have := f.1; omega
  · by_cases q : cU W.1 (-1) ≠ 0 ∧ rU W.1 (cU W.1 (-1)) ≠ 0
    · rw [ch_1p f.1 q]
      refine j.tP ⟨fun z => ?_, fun _ => ⟨(rU_i ml q.2).2, fun i i0 i1 p => rU_min _ q.2 i i0 (mn i1) p⟩, fun z => ?_⟩
      · have z : W.2.1 3 = 0 := z
        have := f.1; omega
      · have z : W.2.1 3 = 5 := z
        have := f.1; omega
    · by_cases z : W.1.2.1 (-1) 0 < 0
      · rw [ch_1l f.1 q z]
        exact j.tC rfl rfl (show (3 : Int) ≠ 1 by decide) (fun e => absurd (show (3 : Int) = 2 from e) (by decide))
      · by_cases y : rOf W.1 0 ≠ 0
        · rw [ch_1o f.1 q z y]
          have wi : wIn W.1 := by
            rcases f.2.1 with w | w
            · exact w
            · exact absurd w.2.1 y
          obtain ⟨r0, g1, g2, g3, _⟩ := wi
          have er : rOf W.1 0 = r0 := by rw [← g2]; exact rOf_u a.2.2.2.2 g1
          have e0 := g3 0 (by omega) pl
          have n0 := j.2.1 (.inl f.1) r0 g1.1 g1.2
          refine ⟨fun e => absurd (show (5 : Int) = 0 from e) (by decide), fun _ => j.2.1 (.inl f.1), fun _ => ⟨fun e => absurd (show (5 : Int) = 0 from e) (by decide), fun e => ?_, fun _ => ?_⟩, fun e => absurd (show (1 : Int) = 2 from e) (by decide), j.2.2.2.2⟩
          · have e : (5 : Int) = 1 ∨ (5 : Int) = 3 := e
            omega
          · show W.1.2.1 (rOf W.1 0) 0 = 0
            rw [er]; omega
        · rw [ch_1d f.1 q z y]
          have wo : wOu W.1 := by
            rcases f.2.1 with w | w
            · exact absurd (w.r a.2.2.2.2) y
            · exact w
          exact j.tD (.inl f.1) hn wo.1 pl
  · rw [ch_5 f.1]
    rcases f.2.1 with w | w
    · omega
    · exact j.tD (.inr f.1) hn w.2.1 pl
  · have n3 := j.2.1 (.inr (.inr f.1))
    by_cases q : cU W.1 0 = 0
    · rw [ch_3j f.1 q]
      exact j.tC rfl rfl (show (2 : Int) ≠ 1 by decide) (fun _ => n3)
    · by_cases z : rU W.1 (cU W.1 0) = 0
      · rw [ch_3u f.1 q z]
        exact j.tC rfl rfl (show W.2.1 1 ≠ 1 by omega) (fun e => absurd (show W.2.1 1 = 2 from e) (by omega))
      · rw [ch_3p f.1 q z]
        refine j.tP ⟨fun e => ?_, fun _ => ⟨(rU_i ml z).2, fun i i0 i1 p => rU_min _ z i i0 (mn i1) p⟩, fun e => ?_⟩
        · have e : W.2.1 3 = 0 := e
          have := f.1; omega
        · have e : W.2.1 3 = 5 := e
          have := f.1; omega
  · by_cases q : rDn W.1 = 0
    · rw [ch_4j f q]
      refine j.tC rfl rfl (show (2 : Int) ≠ 1 by decide) (fun _ i i0 i1 => ?_)
      have z : ¬ W.1.2.1 i 0 < 0 := pick_0 _ q i i0 (mn i1)
      omega
    · by_cases z : cDn W.1 (rDn W.1) = 0
      · rw [ch_4l f q z]
        exact j.tC rfl rfl (show (3 : Int) ≠ 1 by decide) (fun e => absurd (show (3 : Int) = 2 from e) (by decide))
      · rw [ch_4p f q z]
        refine j.tP ⟨fun e => ?_, fun e => ?_, fun e => ?_⟩
        · have e : W.2.1 3 = 0 := e
          omega
        · have e : W.2.1 3 = 1 ∨ W.2.1 3 = 3 := e
          omega
        · have e : W.2.1 3 = 5 := e
          omega
theorem Jp.pv (h : Iv K W) (j : Jp W) (hn : W.2.1 1 = 1) : Jp (s_pv W) := by
  by_cases b : bgx (hwS W) W.1 (W.2.1 8) (W.2.1 9)
  · rw [show s_pv W = _ from cif_t b]
    exact ⟨j.1, j.2.1, j.2.2.1, j.2.2.2.1, j.2.2.2.2⟩
  · rw [show s_pv W = _ from cif_f b]
    obtain ⟨r, s, np, q0, q1, q5⟩ := Iv.n1 h.2.2.2.1 hn
    have hD := h.1.2.2.1
    have P := j.2.2.1 hn
    have e3 : (if W.2.1 3 = 0 then 1 else W.2.1 3) ≠ 0 := by split <;> omega
    refine ⟨fun q => absurd (show (if W.2.1 3 = 0 then 1 else W.2.1 3) = 0 from q) e3, fun q => ?_, fun q => absurd (show (0 : Int) = 1 from q) (by decide), fun q => absurd (show (0 : Int) = 2 from q) (by decide), j.2.2.2.2⟩
    have q : (if W.2.1 3 = 0 then 1 else W.2.1 3) = 1 ∨ (if W.2.1 3 = 0 then 1 else W.2.1 3) = 5 ∨ (if W.2.1 3 = 0 then 1 else W.2.1 3) = 3 := q
    show nn0 (pvD W.1 (W.2.1 8) (W.2.1 9))
    rcases h.2.2.1 with f | f | f | f | f
    · rw [q0 f.1]; exact nn_fs f.2.1 r (P.1 f.1) (j.1 f.1)
    · exact nn_pv (j.2.1 (.inl f.1)) hD r s.1 (P.2.1 (.inl f.1)).1 (P.2.1 (.inl f.1)).2
    · exact nn_ou (j.2.1 (.inr (.inl f.1))) hD r s.1 np (P.2.2 f.1) (fun i i0 i1 ne => h.ex hn i 0 (by omega) i1 (by omega) ne (by omega) (by have := h.1.2.1.1; omega))
    · exact nn_pv (j.2.1 (.inr (.inr f.1))) hD r s.1 (P.2.1 (.inr f.1)).1 (P.2.1 (.inr f.1)).2
    · rw [if_neg (by omega)] at q; omega
/-- a step -/
theorem Jp.st (h : Iv K W) (j : Jp W) : Jp (stp K W) := by
  rcases h.2.2.2.1 with n | n | n | n | n | n
  · rw [stp_0 n]; exact Jp.ch h j n
  · rw [stp_1 n.1]; exact Jp.pv h j n.1
  · rw [stp_2 n.1]
    by_cases q : 0 < W.2.1 6 ∧ ¬ abv K W
    · rw [show s_ju K W = toL W 0 from cif_t q]
      exact j.tC rfl rfl (show (3 : Int) ≠ 1 by decide) (fun e => absurd (show (3 : Int) = 2 from e) (by decide))
    · by_cases z : bRk K.1 K.2.1 W.1 = 0
      · rw [show s_ju K W = _ from (cif_f q).trans (cif_t z)]
        refine ⟨j.1, j.2.1, fun e => absurd (show (3 : Int) = 1 from e) (by decide), fun e => absurd (show (3 : Int) = 2 from e) (by decide), fun _ v => ?_⟩
        exact ptB_nn (j.2.2.2.1 n.1) h.1.1.1 v
      · rw [show s_ju K W = _ from (cif_f q).trans (cif_f z)]
        have c45 : cif (K.2.2.2.1 ∧ W.2.1 7 < K.2.2.1) (4 : Int) 5 = 4 ∨ cif (K.2.2.2.1 ∧ W.2.1 7 < K.2.2.1) (4 : Int) 5 = 5 := by
          by_cases y : K.2.2.2.1 ∧ W.2.1 7 < K.2.2.1
          · exact .inl (cif_t y)
          · exact .inr (cif_f y)
        exact j.tC rfl rfl (show cif (K.2.2.2.1 ∧ W.2.1 7 < K.2.2.1) (4 : Int) 5 ≠ 1 by omega) (fun e => absurd (show cif (K.2.2.2.1 ∧ W.2.1 7 < K.2.2.1) (4 : Int) 5 = 2 from e) (by omega))
  · rw [stp_3 n.1]
    by_cases t : 30000 < (leT K.1 W.1 (W.2.1 2) W.2.2.1).length
    · rw [show s_le K W = _ from cif_t t]
      exact ⟨j.1, j.2.1, j.2.2.1, j.2.2.2.1, j.2.2.2.2⟩
    · rw [show s_le K W = _ from cif_f t]
      by_cases s : W.2.2.2.1.length = 0
      · rw [cif_t s]
        exact ⟨j.1, j.2.1, j.2.2.1, j.2.2.2.1, j.2.2.2.2⟩
      · rw [cif_f s]
        exact ⟨j.1, j.2.1, fun e => absurd (show (6 : Int) = 1 from e) (by decide), fun e => absurd (show (6 : Int) = 2 from e) (by decide), j.2.2.2.2⟩
  · have C : ∀ (d : dT) (c : Nat → Int) (L : List Int) (t : List (dT × Int)), c 3 = 4 → c 1 = 0 → c 6 = W.2.1 6 → Jp (d, c, L, t, W.2.2.2.2) := fun d c L t c3 c1 c6 => ⟨fun e => absurd (show c 3 = 0 from e) (by omega), fun e => absurd (show c 3 = 1 ∨ c 3 = 5 ∨ c 3 = 3 from e) (by omega), fun e => absurd (show c 1 = 1 from e) (by omega), fun e => absurd (show c 1 = 2 from e) (by omega), fun e => j.2.2.2.2 (by have e : 0 < c 6 := e; omega)⟩
    rcases n.1 with e | e
    · rw [stp_4 e]
      by_cases t : 30000 < (cuT K.1 W.1 (W.2.1 2) W.2.2.1).length ∨ 40 ≤ W.1.2.2.2.2.1 ∨ 1000 ≤ W.2.1 5
      · rw [show s_cu K W = _ from cif_t t]
        exact ⟨j.1, j.2.1, j.2.2.1, j.2.2.2.1, j.2.2.2.2⟩
      · rw [show s_cu K W = _ from cif_f t]
        exact C _ _ _ _ rfl rfl rfl
    · rw [stp_5 e]
      by_cases t : 30000 < (brT W.1 (W.2.1 2) W.2.2.1).length ∨ 40 ≤ W.1.2.2.2.2.1 ∨ 1000 ≤ W.2.1 5
      · rw [show s_br K W = _ from cif_t t]
        exact ⟨j.1, j.2.1, j.2.2.1, j.2.2.2.1, j.2.2.2.2⟩
      · rw [show s_br K W = _ from cif_f t]
        exact C _ _ _ _ rfl rfl rfl
  · rw [stp_6 n.1]
    by_cases t : 1000 ≤ W.2.1 5
    · rw [show s_se K W = _ from cif_t t]
      exact ⟨j.1, j.2.1, j.2.2.1, j.2.2.2.1, j.2.2.2.2⟩
    · rw [show s_se K W = _ from cif_f t]
      obtain ⟨d, cc, tr, sk, bb⟩ := W
      cases sk with
      | nil => exact absurd rfl n.2.1
      | cons q t' => exact ⟨fun e => absurd (show (4 : Int) = 0 from e) (by decide), fun e => absurd (show (4 : Int) = 1 ∨ (4 : Int) = 5 ∨ (4 : Int) = 3 from e) (by omega), fun e => absurd (show (0 : Int) = 1 from e) (by decide), fun e => absurd (show (0 : Int) = 2 from e) (by decide), j.2.2.2.2⟩
end SP
theorem W0_jp {n mm : Int} {A : Int → Int → Int} {hw : Int} (h : hwA mm A hw) (hn : 0 ≤ n) : Jp (W0m n mm A hw) := by
  have c0 : ∀ i, 1 ≤ i → (W0m n mm A hw).1.2.1 i 0 = A i 0 := fun i i0 => by
    show (if (0 : Int) = n + 1 then (if i = -1 then 1 else if i = 0 then 0 else -1) else if i = -1 then 0 else if i = 0 ∧ (0 : Int) < 0 then -A 0 0 else A i 0) = A i 0
    rw [if_neg (by omega), if_neg (by omega), if_neg (by omega)]
  refine ⟨fun q => ?_, fun q i i0 i1 => ?_, fun q => absurd (show (0 : Int) = 1 from q) (by decide), fun q => absurd (show (0 : Int) = 2 from q) (by decide), fun q => absurd (show (0 : Int) < 0 from q) (by decide)⟩
  · have q : (if hw = 1 then (0 : Int) else 3) = 0 := q
    rcases h with ⟨e, _⟩ | ⟨e, i, hi, z⟩
    · rw [e] at q; exact absurd q (by decide)
    · exact ⟨i, hi, by rw [c0 i hi.1]; exact z⟩
  · have q : (if hw = 1 then (0 : Int) else 3) = 1 ∨ (if hw = 1 then (0 : Int) else 3) = 5 ∨ (if hw = 1 then (0 : Int) else 3) = 3 := q
    rw [c0 i i0]
    rcases h with ⟨e, z⟩ | ⟨e, _⟩
    · exact z i i0 i1
    · rw [if_pos e] at q; omega
