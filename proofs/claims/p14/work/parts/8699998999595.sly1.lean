/-! What holds between the machine's steps -/
section SLY
variable {K : qT} {W : wT} {n b : Int}
theorem stp_0 (h : W.2.1 1 = 0) : stp K W = s_ch W := by unfold stp; rw [cif_t h]
theorem stp_1 (h : W.2.1 1 = 1) : stp K W = s_pv W := by unfold stp; rw [cif_f (by omega), cif_t h]
theorem stp_2 (h : W.2.1 1 = 2) : stp K W = s_ju K W := by unfold stp; rw [cif_f (by omega), cif_f (by omega), cif_t h]
theorem stp_3 (h : W.2.1 1 = 3) : stp K W = s_le K W := by unfold stp; rw [cif_f (by omega), cif_f (by omega), cif_f (by omega), cif_t h]
theorem stp_4 (h : W.2.1 1 = 4) : stp K W = s_cu K W := by unfold stp; rw [cif_f (by omega), cif_f (by omega), cif_f (by omega), cif_f (by omega), cif_t h]
theorem stp_5 (h : W.2.1 1 = 5) : stp K W = s_br K W := by unfold stp; rw [cif_f (by omega), cif_f (by omega), cif_f (by omega), cif_f (by omega), cif_f (by omega), cif_t h]
theorem stp_6 (h : W.2.1 1 = 6) : stp K W = s_se K W := by unfold stp; rw [cif_f (by omega), cif_f (by omega), cif_f (by omega), cif_f (by omega), cif_f (by omega), cif_f (by omega)]
theorem ch_0 (h : W.2.1 3 = 0) : s_ch W = toP W (rFi W.1) W.1.2.2.2.2.2 := by unfold s_ch; rw [cif_t h]
theorem ch_1p (h : W.2.1 3 = 1) (q : cU W.1 (-1) ≠ 0 ∧ rU W.1 (cU W.1 (-1)) ≠ 0) : s_ch W = toP W (rU W.1 (cU W.1 (-1))) (cU W.1 (-1)) := by unfold s_ch; rw [cif_f (by omega), cif_t h, cif_t q]
theorem ch_1l (h : W.2.1 3 = 1) (q : ¬ (cU W.1 (-1) ≠ 0 ∧ rU W.1 (cU W.1 (-1)) ≠ 0)) (z : W.1.2.1 (-1) 0 < 0) : s_ch W = toL W (-1) := by unfold s_ch; rw [cif_f (by omega), cif_t h, cif_f q, cif_t z]
theorem ch_1o (h : W.2.1 3 = 1) (q : ¬ (cU W.1 (-1) ≠ 0 ∧ rU W.1 (cU W.1 (-1)) ≠ 0)) (z : ¬ W.1.2.1 (-1) 0 < 0) (y : rOf W.1 0 ≠ 0) : s_ch W = toP (wC W (cu W.2.1 3 5)) (rOf W.1 0) (cOu W.1 (rOf W.1 0)) := by unfold s_ch; rw [cif_f (by omega), cif_t h, cif_f q, cif_f z, cif_t y]
theorem ch_1d (h : W.2.1 3 = 1) (q : ¬ (cU W.1 (-1) ≠ 0 ∧ rU W.1 (cU W.1 (-1)) ≠ 0)) (z : ¬ W.1.2.1 (-1) 0 < 0) (y : ¬ rOf W.1 0 ≠ 0) : s_ch W = dpW W := by unfold s_ch; rw [cif_f (by omega), cif_t h, cif_f q, cif_f z, cif_f y]
theorem ch_5 (h : W.2.1 3 = 5) : s_ch W = dpW W := by unfold s_ch; rw [cif_f (by omega), cif_f (by omega), cif_t h]
theorem ch_3j (h : W.2.1 3 = 3) (q : cU W.1 0 = 0) : s_ch W = wC W (cu W.2.1 1 2) := by unfold s_ch; rw [cif_f (by omega), cif_f (by omega), cif_f (by omega), cif_t h, cif_t q]
theorem ch_3u (h : W.2.1 3 = 3) (q : cU W.1 0 ≠ 0) (z : rU W.1 (cU W.1 0) = 0) : s_ch W = wC W (cu (cu W.2.1 9 (cU W.1 0)) 0 4) := by unfold s_ch; rw [cif_f (by omega), cif_f (by omega), cif_f (by omega), cif_t h, cif_f q, cif_t z]
theorem ch_3p (h : W.2.1 3 = 3) (q : cU W.1 0 ≠ 0) (z : rU W.1 (cU W.1 0) ≠ 0) : s_ch W = toP W (rU W.1 (cU W.1 0)) (cU W.1 0) := by unfold s_ch; rw [cif_f (by omega), cif_f (by omega), cif_f (by omega), cif_t h, cif_f q, cif_f z]
theorem ch_4j (h : W.2.1 3 = 4) (q : rDn W.1 = 0) : s_ch W = wC W (cu W.2.1 1 2) := by unfold s_ch; rw [cif_f (by omega), cif_f (by omega), cif_f (by omega), cif_f (by omega), cif_t q]
theorem ch_4l (h : W.2.1 3 = 4) (q : rDn W.1 ≠ 0) (z : cDn W.1 (rDn W.1) = 0) : s_ch W = toL W (rDn W.1) := by unfold s_ch; rw [cif_f (by omega), cif_f (by omega), cif_f (by omega), cif_f (by omega), cif_f q, cif_t z]
theorem ch_4p (h : W.2.1 3 = 4) (q : rDn W.1 ≠ 0) (z : cDn W.1 (rDn W.1) ≠ 0) : s_ch W = toP W (rDn W.1) (cDn W.1 (rDn W.1)) := by unfold s_ch; rw [cif_f (by omega), cif_f (by omega), cif_f (by omega), cif_f (by omega), cif_f q, cif_f z]
/-- what waits -/
def skO (n : Int) : Int → List (dT × Int) → Prop
  | _, [] => True
  | b, q :: t => q.1.2.2.2.2.1 < b ∧ dOK n 0 q.1 ∧ (1 ≤ q.2 ∧ q.2 ≤ q.1.2.2.2.2.1) ∧ (1 ≤ q.1.2.2.1 q.2 ∧ q.1.2.2.1 q.2 ≤ n) ∧ skO n q.1.2.2.2.2.1 t
theorem skO.mono {c : Int} (hc : b ≤ c) : ∀ {l : List (dT × Int)}, skO n b l → skO n c l
  | [], _ => trivial
  | _ :: _, h => ⟨Int.lt_of_lt_of_le h.1 hc, h.2⟩
def phF (W : wT) : Prop := (W.2.1 3 = 0 ∧ wFs W.1 ∧ W.2.2.2.1 = []) ∨ (W.2.1 3 = 1 ∧ (wIn W.1 ∨ wOu W.1) ∧ W.2.2.2.1 = []) ∨ (W.2.1 3 = 5 ∧ ((W.2.1 1 = 1 ∧ wIn W.1) ∨ (W.2.1 1 = 0 ∧ wOu W.1)) ∧ W.2.2.2.1 = []) ∨ (W.2.1 3 = 3 ∧ W.2.2.2.1 = []) ∨ W.2.1 3 = 4
def nxF (K : qT) (W : wT) : Prop := W.2.1 1 = 0
  ∨ (W.2.1 1 = 1 ∧ (1 ≤ W.2.1 8 ∧ W.2.1 8 ≤ W.1.2.2.2.2.1) ∧ (1 ≤ W.2.1 9 ∧ W.2.1 9 ≤ W.1.2.2.2.2.2) ∧ W.1.2.1 (W.2.1 8) (W.2.1 9) ≠ 0 ∧ (W.2.1 3 = 0 → W.2.1 9 = W.1.2.2.2.2.2) ∧ (W.2.1 3 = 1 → W.1.2.1 (-1) (W.2.1 9) < 0) ∧ (W.2.1 3 = 5 → W.1.2.2.1 (W.2.1 8) = 0))
  ∨ (W.2.1 1 = 2 ∧ (W.2.1 3 = 3 ∨ W.2.1 3 = 4))
  ∨ (W.2.1 1 = 3 ∧ (-1 ≤ W.2.1 2 ∧ W.2.1 2 ≤ W.1.2.2.2.2.1) ∧ (W.2.1 2 = -1 → W.2.1 3 = 1) ∧ (W.2.1 2 ≠ -1 → W.2.1 3 = 3 ∨ W.2.1 3 = 4))
  ∨ ((W.2.1 1 = 4 ∨ W.2.1 1 = 5) ∧ (W.2.1 3 = 3 ∨ W.2.1 3 = 4) ∧ (1 ≤ W.2.1 2 ∧ W.2.1 2 ≤ W.1.2.2.2.2.1) ∧ (1 ≤ W.1.2.2.1 (W.2.1 2) ∧ W.1.2.2.1 (W.2.1 2) ≤ K.1) ∧ (W.2.1 1 = 4 ↔ (K.2.2.2.1 ∧ W.2.1 7 < K.2.2.1)))
  ∨ (W.2.1 1 = 6 ∧ W.2.2.2.1 ≠ [] ∧ W.2.1 3 = 4)
def Iv (K : qT) (W : wT) : Prop := dOK K.1 (hwS W) W.1 ∧ ((1 ≤ W.2.1 5 ∧ W.2.1 5 ≤ 1000) ∧ 0 ≤ W.2.1 6 ∧ (0 < W.2.1 6 → 0 < W.2.2.2.2.2.1) ∧ 0 ≤ W.2.1 7 ∧ 0 ≤ W.2.1 4) ∧ phF W ∧ nxF K W ∧ skO K.1 W.1.2.2.2.2.1 W.2.2.2.1 ∧ (W.2.2.2.1 ≠ [] → ¬ (K.2.2.2.1 ∧ W.2.1 7 < K.2.2.1))
theorem cU_i {d : dT} {g : Int} (hp : 0 ≤ d.2.2.2.2.2) (h : cU d g ≠ 0) : (1 ≤ cU d g ∧ cU d g ≤ d.2.2.2.2.2) ∧ d.2.1 g (cU d g) < 0 := by
  have r := pick_le (fun j => d.2.1 g j < 0) (fun j s => d.2.2.2.1 j < d.2.2.2.1 s) d.2.2.2.2.2.toNat
  have : cU d g = pick (fun j => d.2.1 g j < 0) (fun j s => d.2.2.2.1 j < d.2.2.2.1 s) d.2.2.2.2.2.toNat := rfl
  exact ⟨by omega, pick_P _ h⟩
theorem rU_i {d : dT} {s : Int} (hm : 0 ≤ d.2.2.2.2.1) (h : rU d s ≠ 0) : (1 ≤ rU d s ∧ rU d s ≤ d.2.2.2.2.1) ∧ 0 < d.2.1 (rU d s) s := by
  have r := pick_le (fun i => 0 < d.2.1 i s) (ltU d s) d.2.2.2.2.1.toNat
  have : rU d s = pick (fun i => 0 < d.2.1 i s) (ltU d s) d.2.2.2.2.1.toNat := rfl
  exact ⟨by omega, pick_P _ h⟩
theorem rDn_i {d : dT} (hm : 0 ≤ d.2.2.2.2.1) (h : rDn d ≠ 0) : (1 ≤ rDn d ∧ rDn d ≤ d.2.2.2.2.1) ∧ d.2.1 (rDn d) 0 < 0 := by
  have r := pick_le (fun i => d.2.1 i 0 < 0) (fun i r => d.2.2.1 i < d.2.2.1 r) d.2.2.2.2.1.toNat
  have : rDn d = pick (fun i => d.2.1 i 0 < 0) (fun i r => d.2.2.1 i < d.2.2.1 r) d.2.2.2.2.1.toNat := rfl
  exact ⟨by omega, pick_P _ h⟩
theorem cDn_i {d : dT} {r : Int} (hp : 0 ≤ d.2.2.2.2.2) (h : cDn d r ≠ 0) : (1 ≤ cDn d r ∧ cDn d r ≤ d.2.2.2.2.2) ∧ d.2.1 r (cDn d r) < 0 := by
  have z := pick_le (fun j => d.2.1 r j < 0) (ltD d r) d.2.2.2.2.2.toNat
  have : cDn d r = pick (fun j => d.2.1 r j < 0) (ltD d r) d.2.2.2.2.2.toNat := rfl
  exact ⟨by omega, pick_P _ h⟩
theorem cOu_i {d : dT} {r : Int} (hp : 0 ≤ d.2.2.2.2.2) (h : cOu d r ≠ 0) : (1 ≤ cOu d r ∧ cOu d r ≤ d.2.2.2.2.2) ∧ d.2.1 r (cOu d r) ≠ 0 := by
  have z := pick_le (fun j => d.2.1 r j ≠ 0) (fun j s => d.2.2.2.1 j < d.2.2.2.1 s) d.2.2.2.2.2.toNat
  have : cOu d r = pick (fun j => d.2.1 r j ≠ 0) (fun j s => d.2.2.2.1 j < d.2.2.2.1 s) d.2.2.2.2.2.toNat := rfl
  exact ⟨by omega, pick_P _ h⟩
theorem rFi_i {d : dT} (hm : 1 ≤ d.2.2.2.2.1) : 1 ≤ rFi d ∧ rFi d ≤ d.2.2.2.2.1 := by
  have z := pick_le (fun _ => True) (fun i r => d.2.1 i 0 < d.2.1 r 0) d.2.2.2.2.1.toNat
  have e : rFi d = pick (fun _ => True) (fun i r => d.2.1 i 0 < d.2.1 r 0) d.2.2.2.2.1.toNat := rfl
  have : rFi d ≠ 0 := fun q => pick_0 _ q 1 (by omega) (by omega) trivial
  omega
theorem bRk_i {n : Int} {wh : Int → Int} {d : dT} (hm : 0 ≤ d.2.2.2.2.1) (h : bRk n wh d ≠ 0) : (1 ≤ bRk n wh d ∧ bRk n wh d ≤ d.2.2.2.2.1) ∧ bkP n wh d (bRk n wh d) := by
  have z := pick_le (bkP n wh d) (fun i r => d.2.2.1 i < d.2.2.1 r) d.2.2.2.2.1.toNat
  have : bRk n wh d = pick (bkP n wh d) (fun i r => d.2.2.1 i < d.2.2.1 r) d.2.2.2.2.1.toNat := rfl
  exact ⟨by omega, pick_P _ h⟩
theorem cOu_in {d : dT} (h : wIn d) (hx : dIx n b d) (hm : 0 ≤ d.2.2.2.2.1) (hr : rOf d 0 ≠ 0) : cOu d (rOf d 0) ≠ 0 := fun q => by
  obtain ⟨r0, h1, h2, h3, j, hj, h4⟩ := h
  have e : rOf d 0 = r0 := by rw [← h2]; exact rOf_u hx h1
  rw [e] at q
  exact pick_0 _ q j hj.1 (by omega) h4
theorem wIn.r {d : dT} (h : wIn d) (hx : dIx n b d) : rOf d 0 ≠ 0 := by
  obtain ⟨r0, h1, h2, _⟩ := h
  have e : rOf d 0 = r0 := by rw [← h2]; exact rOf_u hx h1
  omega
theorem hw_0 (h : W.2.1 3 = 3 ∨ W.2.1 3 = 4) : hwS W = 0 := if_pos h
theorem hw_1 (h : W.2.1 3 = 0 ∨ W.2.1 3 = 1 ∨ W.2.1 3 = 5) : hwS W = 1 := if_neg (by omega)
theorem hw_cg {U : wT} (h : U.2.1 3 = W.2.1 3) : hwS U = hwS W := by unfold hwS; rw [h]
theorem Iv.P (h : Iv K W) (hn : W.2.1 1 = 0) {r s : Int} (h5 : W.2.1 3 ≠ 5) (hr : 1 ≤ r ∧ r ≤ W.1.2.2.2.2.1) (hs : 1 ≤ s ∧ s ≤ W.1.2.2.2.2.2) (hp : W.1.2.1 r s ≠ 0) (h0 : W.2.1 3 = 0 → s = W.1.2.2.2.2.2) (h1 : W.2.1 3 = 1 → W.1.2.1 (-1) s < 0) : Iv K (toP W r s) := by
  obtain ⟨a, c, f, g, k, l⟩ := h
  refine ⟨?_, c, ?_, .inr (.inl ⟨rfl, hr, hs, hp, h0, h1, fun q => absurd q h5⟩), k, l⟩
  · rw [show hwS (toP W r s) = hwS W from hw_cg rfl]; exact a
  · rcases f with f | f | f | f | f
    · exact .inl f
    · exact .inr (.inl f)
    · exact absurd f.1 h5
    · exact .inr (.inr (.inr (.inl f)))
    · exact .inr (.inr (.inr (.inr f)))
theorem Iv.L (h : Iv K W) (h5 : W.2.1 3 ≠ 5) {i : Int} (hi : -1 ≤ i ∧ i ≤ W.1.2.2.2.2.1) (h1 : i = -1 → W.2.1 3 = 1) (h2 : i ≠ -1 → W.2.1 3 = 3 ∨ W.2.1 3 = 4) : Iv K (toL W i) := by
  obtain ⟨a, c, f, g, k, l⟩ := h
  refine ⟨?_, c, ?_, .inr (.inr (.inr (.inl ⟨rfl, hi, h1, h2⟩))), k, l⟩
  · rw [show hwS (toL W i) = hwS W from hw_cg rfl]; exact a
  · rcases f with f | f | f | f | f
    · exact .inl f
    · exact .inr (.inl f)
    · exact absurd f.1 h5
    · exact .inr (.inr (.inr (.inl f)))
    · exact .inr (.inr (.inr (.inr f)))
theorem Iv.J (h : Iv K W) (h3 : W.2.1 3 = 3 ∨ W.2.1 3 = 4) : Iv K (wC W (cu W.2.1 1 2)) := by
  obtain ⟨a, c, f, g, k, l⟩ := h
  refine ⟨?_, c, ?_, .inr (.inr (.inl ⟨rfl, h3⟩)), k, l⟩
  · rw [show hwS (wC W (cu W.2.1 1 2)) = hwS W from hw_cg rfl]; exact a
  · rcases f with f | f | f | f | f
    · exact .inl f
    · exact .inr (.inl f)
    · have := f.1; omega
    · exact .inr (.inr (.inr (.inl f)))
    · exact .inr (.inr (.inr (.inr f)))
theorem Iv.D (h : Iv K W) (hn : W.2.1 1 = 0) (ho : wOu W.1) (h1 : W.2.1 3 = 1 ∨ W.2.1 3 = 5) : Iv K (dpW W) := by
  obtain ⟨a, c, f, g, k, l⟩ := h
  have hs : W.2.2.2.1 = [] := by
    rcases f with f | f | f | f | f
    · exact f.2.2
    · exact f.2.2
    · exact f.2.2
    · exact f.2
    · omega
  rw [hw_1 (by omega)] at a
  refine ⟨?_, c, .inr (.inr (.inr (.inl ⟨rfl, hs⟩))), .inl hn, ?_, ?_⟩
  · rw [show hwS (dpW W) = 0 from hw_0 (.inl rfl)]; exact a.dp ho.1
  · show skO K.1 W.1.2.2.2.2.1 W.2.2.2.1
    exact k
  · exact l
/-- the choice -/
theorem Iv.ch (h : Iv K W) (hn : W.2.1 1 = 0) (hg : (s_ch W).2.1 0 = 1) : Iv K (s_ch W) := by
  have a := h.1
  have f := h.2.2.1
  have pl := a.2.1.1
  have ml := a.1.1
  rcases f with f | f | f | f | f
  · rw [ch_0 f.1]
    have w := f.2.1
    have r := rFi_i (d := W.1) w.2.2.2.2.2.1
    exact h.P hn (by omega) r ⟨w.2.2.2.2.2.2.1, Int.le_refl _⟩ (by rw [w.2.2.2.1 _ r.1 r.2]; decide) (fun _ => rfl) (fun q => absurd q (by omega))
  · by_cases q : cU W.1 (-1) ≠ 0 ∧ rU W.1 (cU W.1 (-1)) ≠ 0
    · rw [ch_1p f.1 q]
      have s := cU_i pl q.1
      have r := rU_i ml q.2
      exact h.P hn (by omega) r.1 s.1 (by have := r.2; omega) (fun q => absurd q (by omega)) (fun _ => s.2)
    · by_cases z : W.1.2.1 (-1) 0 < 0
      · rw [ch_1l f.1 q z]
        exact h.L (by omega) ⟨by omega, by omega⟩ (fun _ => f.1) (fun e => absurd rfl e)
      · by_cases y : rOf W.1 0 ≠ 0
        · rw [ch_1o f.1 q z y]
          have wi : wIn W.1 := by
            rcases f.2.1 with w | w
            · exact w
            · exact absurd w.2.1 y
          have s := cOu_i (r := rOf W.1 0) pl (cOu_in wi a.2.2.2.2 ml y)
          have r := rOf_i y ml
          obtain ⟨a, c, f0, g, k, l⟩ := h
          refine ⟨?_, c, .inr (.inr (.inl ⟨rfl, .inl ⟨rfl, wi⟩, f.2.2⟩)), .inr (.inl ⟨rfl, r.1, s.1, s.2, fun q => ?_, fun q => ?_, fun _ => r.2⟩), k, l⟩
          · rw [show hwS (toP (wC W (cu W.2.1 3 5)) (rOf W.1 0) (cOu W.1 (rOf W.1 0))) = 1 from hw_1 (.inr (.inr rfl))]
            rw [hw_1 (W := W) (by omega)] at a; exact a
          · exact absurd (show (5 : Int) = 0 from q) (by decide)
          · exact absurd (show (5 : Int) = 1 from q) (by decide)
        · rw [ch_1d f.1 q z y]
          rcases f.2.1 with w | w
          · exact absurd (w.r a.2.2.2.2) y
          · exact h.D hn w (.inl f.1)
  · rw [ch_5 f.1]
    rcases f.2.1 with w | w
    · omega
    · exact h.D hn w.2 (.inr f.1)
  · by_cases q : cU W.1 0 = 0
    · rw [ch_3j f.1 q]; exact h.J (.inl f.1)
    · by_cases z : rU W.1 (cU W.1 0) = 0
      · rw [ch_3u f.1 q z] at hg; exact absurd (show (4 : Int) = 1 from hg) (by decide)
      · rw [ch_3p f.1 q z]
        have s := cU_i pl q
        have r := rU_i ml z
        exact h.P hn (by omega) r.1 s.1 (by have := r.2; omega) (fun q => absurd q (by omega)) (fun q => absurd q (by omega))
  · by_cases q : rDn W.1 = 0
    · rw [ch_4j f q]; exact h.J (.inr f)
    · have r := rDn_i ml q
      by_cases z : cDn W.1 (rDn W.1) = 0
      · rw [ch_4l f q z]
        exact h.L (by omega) ⟨by omega, r.1.2⟩ (fun e => by omega) (fun _ => .inr f)
      · rw [ch_4p f q z]
        have s := cDn_i pl z
        exact h.P hn (by omega) r.1 s.1 (by have := s.2; omega) (fun q => absurd q (by omega)) (fun q => absurd q (by omega))
/-- the pivot -/
theorem Iv.n1 (h : nxF K W) (hn : W.2.1 1 = 1) : (1 ≤ W.2.1 8 ∧ W.2.1 8 ≤ W.1.2.2.2.2.1) ∧ (1 ≤ W.2.1 9 ∧ W.2.1 9 ≤ W.1.2.2.2.2.2) ∧ W.1.2.1 (W.2.1 8) (W.2.1 9) ≠ 0 ∧ (W.2.1 3 = 0 → W.2.1 9 = W.1.2.2.2.2.2) ∧ (W.2.1 3 = 1 → W.1.2.1 (-1) (W.2.1 9) < 0) ∧ (W.2.1 3 = 5 → W.1.2.2.1 (W.2.1 8) = 0) := by
  rcases h with h | h | h | h | h | h
  · omega
  · exact h.2
  · omega
  · omega
  · omega
  · omega
theorem Iv.pv (h : Iv K W) (hn : W.2.1 1 = 1) (hb : ¬ bgx (hwS W) W.1 (W.2.1 8) (W.2.1 9)) : Iv K (s_pv W) := by
  obtain ⟨a, c, f, g, k, l⟩ := h
  obtain ⟨r, s, np, q0, q1, q5⟩ := Iv.n1 g hn
  have d := a.pv r s np
  rw [show s_pv W = _ from cif_f hb]
  have e3 : (if W.2.1 3 = 0 then 1 else W.2.1 3) = 1 ∨ (if W.2.1 3 = 0 then 1 else W.2.1 3) = W.2.1 3 := by split <;> omega
  refine ⟨?_, ⟨c.1, c.2.1, c.2.2.1, c.2.2.2.1, ?_⟩, ?_, .inl rfl, k, l⟩
  · have : hwS (pvD W.1 (W.2.1 8) (W.2.1 9), cu (cu (cu W.2.1 4 (W.2.1 4 + 1)) 1 0) 3 (if W.2.1 3 = 0 then 1 else W.2.1 3), W.2.2) = hwS W := by
      unfold hwS
      show (if (if W.2.1 3 = 0 then 1 else W.2.1 3) = 3 ∨ (if W.2.1 3 = 0 then 1 else W.2.1 3) = 4 then (0 : Int) else 1) = _
      by_cases z : W.2.1 3 = 0
      · rw [if_pos z, if_neg (by omega), if_neg (by omega)]
      · rw [if_neg z]
    rw [this]; exact d
  · show 0 ≤ W.2.1 4 + 1
    have := c.2.2.2.2; omega
  · rcases f with f | f | f | f | f
    · refine .inr (.inl ⟨if_pos f.1, .inl ?_, f.2.2⟩)
      show wIn (pvD W.1 (W.2.1 8) (W.2.1 9))
      rw [q0 f.1]; exact f.2.1.pv r
    · refine .inr (.inl ⟨(if_neg (by omega)).trans f.1, ?_, f.2.2⟩)
      show wIn (pvD W.1 (W.2.1 8) (W.2.1 9)) ∨ wOu (pvD W.1 (W.2.1 8) (W.2.1 9))
      have n1 := q1 f.1
      rcases f.2.1 with w | w
      · by_cases z : W.1.2.2.1 (W.2.1 8) = 0
        · exact .inr (w.ou a.2.2.2.2 a.2.2.1 r s z np)
        · exact .inl (w.pv a.2.2.2.2 a.2.2.2.1 a.2.2.1 r s (by omega) z)
      · have := w.2.2.1 _ s.1 s.2; omega
    · refine .inr (.inr (.inl ⟨(if_neg (by omega)).trans f.1, .inr ⟨rfl, ?_⟩, f.2.2⟩))
      show wOu (pvD W.1 (W.2.1 8) (W.2.1 9))
      rcases f.2.1 with w | w
      · exact w.2.ou a.2.2.2.2 a.2.2.1 r s (q5 f.1) np
      · omega
    · exact .inr (.inr (.inr (.inl ⟨(if_neg (by omega)).trans f.1, f.2⟩)))
    · exact .inr (.inr (.inr (.inr ((if_neg (by omega)).trans f))))
theorem phF.nn (h : phF W) {U : wT} (n5 : W.2.1 3 ≠ 5) (e1 : U.1 = W.1) (e3 : U.2.1 3 = W.2.1 3) (e4 : U.2.2.2.1 = W.2.2.2.1) : phF U := by
  rcases h with f | f | f | f | f
  · exact .inl ⟨e3.trans f.1, by rw [e1]; exact f.2.1, by rw [e4]; exact f.2.2⟩
  · exact .inr (.inl ⟨e3.trans f.1, by rw [e1]; exact f.2.1, by rw [e4]; exact f.2.2⟩)
  · exact absurd f.1 n5
  · exact .inr (.inr (.inr (.inl ⟨e3.trans f.1, by rw [e4]; exact f.2⟩)))
  · exact .inr (.inr (.inr (.inr (e3.trans f))))
theorem Iv.n2 (h : nxF K W) (hn : W.2.1 1 = 2) : W.2.1 3 = 3 ∨ W.2.1 3 = 4 := by
  rcases h with h | h | h | h | h | h
  · omega
  · omega
  · exact h.2
  · omega
  · omega
  · omega
theorem Iv.ju (h : Iv K W) (hn : W.2.1 1 = 2) : Iv K (s_ju K W) := by
  obtain ⟨a, c, f, g, k, l⟩ := id h
  have p3 := Iv.n2 g hn
  have hw := hw_0 p3
  by_cases q : 0 < W.2.1 6 ∧ ¬ abv K W
  · rw [show s_ju K W = toL W 0 from cif_t q]
    exact h.L (by omega) ⟨by omega, a.1.1⟩ (fun e => by omega) (fun _ => p3)
  · by_cases z : bRk K.1 K.2.1 W.1 = 0
    · rw [show s_ju K W = _ from (cif_f q).trans (cif_t z)]
      refine ⟨?_, ⟨c.1, ?_, fun _ => a.2.2.1, c.2.2.2⟩, f.nn (by omega) rfl rfl rfl, .inr (.inr (.inr (.inl ⟨rfl, ⟨?_, a.1.1⟩, fun e => absurd (show (0 : Int) = -1 from e) (by decide), fun _ => p3⟩))), k, l⟩
      · rw [show hwS (W.1, cu (cu (cu W.2.1 6 (W.2.1 6 + 1)) 2 0) 1 3, W.2.2.1, W.2.2.2.1, W.1.2.1 0 0, W.1.1, ptB W.1) = hwS W from hw_cg rfl]; exact a
      · show 0 ≤ W.2.1 6 + 1
        have := c.2.1; omega
      · show (-1 : Int) ≤ 0
        decide
    · rw [show s_ju K W = _ from (cif_f q).trans (cif_f z)]
      have r := bRk_i a.1.1 z
      refine ⟨?_, c, f.nn (by omega) rfl rfl rfl, .inr (.inr (.inr (.inr (.inl ⟨?_, p3, r.1, r.2.1, ?_⟩)))), k, l⟩
      · rw [show hwS (wC W (cu (cu W.2.1 2 (bRk K.1 K.2.1 W.1)) 1 (cif (K.2.2.2.1 ∧ W.2.1 7 < K.2.2.1) 4 5))) = hwS W from hw_cg rfl]; exact a
      · show cif (K.2.2.2.1 ∧ W.2.1 7 < K.2.2.1) (4 : Int) 5 = 4 ∨ cif (K.2.2.2.1 ∧ W.2.1 7 < K.2.2.1) (4 : Int) 5 = 5
        by_cases y : K.2.2.2.1 ∧ W.2.1 7 < K.2.2.1
        · exact .inl (cif_t y)
        · exact .inr (cif_f y)
      · show cif (K.2.2.2.1 ∧ W.2.1 7 < K.2.2.1) (4 : Int) 5 = 4 ↔ _
        by_cases y : K.2.2.2.1 ∧ W.2.1 7 < K.2.2.1
        · rw [cif_t y]; exact ⟨fun _ => y, fun _ => rfl⟩
        · rw [cif_f y]; exact ⟨fun e => absurd e (by decide), fun e => absurd e y⟩
theorem Iv.n3 (h : nxF K W) (hn : W.2.1 1 = 3) : (-1 ≤ W.2.1 2 ∧ W.2.1 2 ≤ W.1.2.2.2.2.1) ∧ (W.2.1 2 = -1 → W.2.1 3 = 1) ∧ (W.2.1 2 ≠ -1 → W.2.1 3 = 3 ∨ W.2.1 3 = 4) := by
  rcases h with h | h | h | h | h | h
  · omega
  · omega
  · omega
  · exact h.2
  · omega
  · omega
theorem phF.sk (h : phF W) (q : W.2.2.2.1 ≠ []) : W.2.1 3 = 4 := by
  rcases h with f | f | f | f | f
  · exact absurd f.2.2 q
  · exact absurd f.2.2 q
  · exact absurd f.2.2 q
  · exact absurd f.2 q
  · exact f
theorem Iv.le (h : Iv K W) (hn : W.2.1 1 = 3) (ht : ¬ 30000 < (leT K.1 W.1 (W.2.1 2) W.2.2.1).length) (hs : W.2.2.2.1.length ≠ 0) : Iv K (s_le K W) := by
  obtain ⟨a, c, f, g, k, l⟩ := h
  have ns : W.2.2.2.1 ≠ [] := fun e => hs (by rw [e]; rfl)
  have p4 := f.sk ns
  rw [show s_le K W = _ from cif_f ht, cif_f hs]
  refine ⟨?_, c, f.nn (by omega) rfl rfl rfl, .inr (.inr (.inr (.inr (.inr ⟨rfl, ns, p4⟩)))), k, l⟩
  rw [show hwS (W.1, cu W.2.1 1 6, leT K.1 W.1 (W.2.1 2) W.2.2.1, W.2.2.2) = hwS W from hw_cg rfl]; exact a
theorem Iv.n45 (h : nxF K W) (hn : W.2.1 1 = 4 ∨ W.2.1 1 = 5) : (W.2.1 3 = 3 ∨ W.2.1 3 = 4) ∧ (1 ≤ W.2.1 2 ∧ W.2.1 2 ≤ W.1.2.2.2.2.1) ∧ (1 ≤ W.1.2.2.1 (W.2.1 2) ∧ W.1.2.2.1 (W.2.1 2) ≤ K.1) ∧ (W.2.1 1 = 4 ↔ (K.2.2.2.1 ∧ W.2.1 7 < K.2.2.1)) := by
  rcases h with h | h | h | h | h | h
  · omega
  · omega
  · omega
  · omega
  · exact h.2
  · omega
theorem Iv.cx (h : Iv K W) (hn : W.2.1 1 = 4) (hq : ¬ (30000 < (cuT K.1 W.1 (W.2.1 2) W.2.2.1).length ∨ 40 ≤ W.1.2.2.2.2.1 ∨ 1000 ≤ W.2.1 5)) (hK : 0 ≤ K.1) : Iv K (s_cu K W) := by
  obtain ⟨a, c, f, g, k, l⟩ := h
  obtain ⟨p3, r, v, w⟩ := Iv.n45 g (.inl hn)
  rw [hw_0 p3] at a
  have hs : W.2.2.2.1 = [] := by
    by_cases e : W.2.2.2.1 = []
    · exact e
    · exact absurd (w.mp hn) (l e)
  rw [show s_cu K W = _ from cif_f hq]
  refine ⟨?_, ⟨⟨?_, ?_⟩, c.2.1, c.2.2.1, ?_, c.2.2.2.2⟩, .inr (.inr (.inr (.inr rfl))), .inl rfl, ?_, fun e => absurd hs e⟩
  · rw [show hwS (adR K.1 W.1 (cuR W.1 (W.2.1 2)), cu (chC W.2.1) 7 (W.2.1 7 + 1), cuT K.1 W.1 (W.2.1 2) W.2.2.1, W.2.2.2) = 0 from hw_0 (.inr rfl)]
    exact a.ad hK (by omega) (a.2.2.2.1.cx r)
  · show 1 ≤ W.2.1 5 + 1
    have := c.1; omega
  · show W.2.1 5 + 1 ≤ 1000
    omega
  · show 0 ≤ W.2.1 7 + 1
    have := c.2.2.2.1; omega
  · show skO K.1 _ W.2.2.2.1
    rw [hs]; trivial
theorem Iv.br (h : Iv K W) (hn : W.2.1 1 = 5) (hq : ¬ (30000 < (brT W.1 (W.2.1 2) W.2.2.1).length ∨ 40 ≤ W.1.2.2.2.2.1 ∨ 1000 ≤ W.2.1 5)) (hK : 0 ≤ K.1) : Iv K (s_br K W) := by
  obtain ⟨a, c, f, g, k, l⟩ := h
  obtain ⟨p3, r, v, w⟩ := Iv.n45 g (.inr hn)
  rw [hw_0 p3] at a
  rw [show s_br K W = _ from cif_f hq]
  refine ⟨?_, ⟨⟨?_, ?_⟩, c.2.1, c.2.2.1, c.2.2.2.1, c.2.2.2.2⟩, .inr (.inr (.inr (.inr rfl))), .inl rfl, ⟨?_, a, r, v, k⟩, fun _ e => ?_⟩
  · rw [show hwS (adR K.1 W.1 (loR W.1 (W.2.1 2)), chC W.2.1, brT W.1 (W.2.1 2) W.2.2.1, (W.1, W.2.1 2) :: W.2.2.2.1, W.2.2.2.2) = 0 from hw_0 (.inr rfl)]
    exact a.ad hK (by omega) (a.2.2.2.1.lo r)
  · show 1 ≤ W.2.1 5 + 1
    have := c.1; omega
  · show W.2.1 5 + 1 ≤ 1000
    omega
  · show W.1.2.2.2.2.1 < W.1.2.2.2.2.1 + 1
    omega
  · have := w.mpr e; omega
theorem Iv.se (h : Iv K W) (hn : W.2.1 1 = 6) (hq : ¬ 1000 ≤ W.2.1 5) (hK : 0 ≤ K.1) : Iv K (s_se K W) := by
  obtain ⟨a, c, f, g, k, l⟩ := h
  have ns : W.2.2.2.1 ≠ [] ∧ W.2.1 3 = 4 := by
    rcases g with h | h | h | h | h | h
    · omega
    · omega
    · omega
    · omega
    · omega
    · exact h.2
  have lm := a.1.2
  rw [show s_se K W = _ from cif_f hq]
  obtain ⟨d, cc, tr, sk, bb⟩ := W
  cases sk with
  | nil => exact absurd rfl ns.1
  | cons q t =>
    have k1 : q.1.2.2.2.2.1 < d.2.2.2.2.1 := k.1
    refine ⟨?_, ⟨⟨?_, ?_⟩, c.2.1, c.2.2.1, c.2.2.2.1, c.2.2.2.2⟩, .inr (.inr (.inr (.inr rfl))), .inl rfl, ?_, fun _ => l ns.1⟩
    · exact k.2.1.ad hK (by have : d.2.2.2.2.1 ≤ 40 := lm; omega) (k.2.1.2.2.2.1.hi k.2.2.1)
    · show 1 ≤ cc 5 + 1
      have : 1 ≤ cc 5 := c.1.1
      omega
    · show cc 5 + 1 ≤ 1000
      have : ¬ 1000 ≤ cc 5 := hq
      omega
    · exact skO.mono (by show q.1.2.2.2.2.1 ≤ q.1.2.2.2.2.1 + 1; omega) k.2.2.2.2
end SLY
section SLZ
variable {K : qT} {W : wT}
/-- counters that stay small; how far the work is -/
def Iw (W : wT) : Prop := W.2.1 6 + (if W.2.1 1 ≤ 2 then 1 else 0) ≤ W.2.1 5 ∧ (W.2.1 3 = 0 → W.2.1 4 = 0) ∧ (W.2.1 3 = 1 ∨ W.2.1 3 = 5 → 1 ≤ W.2.1 4)
def phW (W : wT) : Int := 10 * W.2.1 5 + 3 * W.2.1 4 + W.2.1 1 + (if W.2.1 3 = 3 ∨ W.2.1 3 = 4 then 8 else 0)
theorem Iw.mk {U : wT} {a1 a3 a4 a5 a6 : Int} (e1 : U.2.1 1 = a1) (e3 : U.2.1 3 = a3) (e4 : U.2.1 4 = a4) (e5 : U.2.1 5 = a5) (e6 : U.2.1 6 = a6) (h : (a1 ≤ 2 → a6 + 1 ≤ a5) ∧ a6 ≤ a5) (h1 : a3 = 0 → a4 = 0) (h2 : a3 = 1 ∨ a3 = 5 → 1 ≤ a4) : Iw U := by
  unfold Iw
  rw [e1, e3, e4, e5, e6]
  refine ⟨?_, h1, h2⟩
  split <;> omega
theorem phW.mk {U : wT} {a1 a3 a4 a5 : Int} (e1 : U.2.1 1 = a1) (e3 : U.2.1 3 = a3) (e4 : U.2.1 4 = a4) (e5 : U.2.1 5 = a5) : phW U = 10 * a5 + 3 * a4 + a1 + (if a3 = 3 ∨ a3 = 4 then 8 else 0) := by unfold phW; rw [e1, e3, e4, e5]
theorem phS {U : wT} {a1 a3 a4 a5 : Int} (e1 : U.2.1 1 = a1) (e3 : U.2.1 3 = a3) (e4 : U.2.1 4 = a4) (e5 : U.2.1 5 = a5) (h : phW W + 1 ≤ 10 * a5 + 3 * a4 + a1 + (if a3 = 3 ∨ a3 = 4 then 8 else 0)) : phW W + 1 ≤ phW U := by rw [phW.mk (U := U) e1 e3 e4 e5]; exact h
theorem Iw.b (h : Iw W) : (W.2.1 1 ≤ 2 → W.2.1 6 + 1 ≤ W.2.1 5) ∧ W.2.1 6 ≤ W.2.1 5 := by
  have := h.1
  split at this <;> omega
/-- a step of the work that goes on -/
theorem Iv.st (h : Iv K W) (w : Iw W) (hK : 0 ≤ K.1) (hg : (stp K W).2.1 0 = 1) : Iv K (stp K W) ∧ Iw (stp K W) ∧ phW W + 1 ≤ phW (stp K W) := by
  have w1 := w.b
  have w2 := w.2.1
  have w3 := w.2.2
  have P0 := phW.mk (U := W) rfl rfl rfl rfl
  rcases h.2.2.2.1 with n | n | n | n | n | n
  · rw [stp_0 n] at hg ⊢
    refine ⟨h.ch n hg, ?_⟩
    have toP' : ∀ r s, Iw (toP W r s) ∧ phW W + 1 ≤ phW (toP W r s) := fun r s => ⟨Iw.mk rfl rfl rfl rfl rfl ⟨fun _ => w1.1 (by omega), w1.2⟩ w2 w3, phS (a1 := 1) (a3 := W.2.1 3) (a4 := W.2.1 4) (a5 := W.2.1 5) rfl rfl rfl rfl (by rw [P0, n]; omega)⟩
    have toL' : ∀ i, Iw (toL W i) ∧ phW W + 1 ≤ phW (toL W i) := fun i => ⟨Iw.mk (U := toL W i) (a1 := 3) rfl rfl rfl rfl rfl ⟨fun q => absurd q (by omega), w1.2⟩ w2 w3, phS (a1 := 3) (a3 := W.2.1 3) (a4 := W.2.1 4) (a5 := W.2.1 5) rfl rfl rfl rfl (by rw [P0, n]; omega)⟩
    have toJ' : Iw (wC W (cu W.2.1 1 2)) ∧ phW W + 1 ≤ phW (wC W (cu W.2.1 1 2)) := ⟨Iw.mk (U := wC W (cu W.2.1 1 2)) (a1 := 2) rfl rfl rfl rfl rfl ⟨fun _ => w1.1 (by omega), w1.2⟩ w2 w3, phS (a1 := 2) (a3 := W.2.1 3) (a4 := W.2.1 4) (a5 := W.2.1 5) rfl rfl rfl rfl (by rw [P0, n]; omega)⟩
    have toD' : (W.2.1 3 = 1 ∨ W.2.1 3 = 5) → Iw (dpW W) ∧ phW W + 1 ≤ phW (dpW W) := fun q => ⟨Iw.mk (U := dpW W) (a1 := W.2.1 1) (a3 := 3) (a4 := W.2.1 4) (a5 := W.2.1 5) (a6 := W.2.1 6) rfl rfl rfl rfl rfl ⟨fun _ => w1.1 (by omega), w1.2⟩ (fun z => absurd z (by decide)) (fun z => by omega), phS (a1 := W.2.1 1) (a3 := 3) (a4 := W.2.1 4) (a5 := W.2.1 5) rfl rfl rfl rfl (by rw [P0, if_neg (by omega), if_pos (.inl rfl)]; omega)⟩
    rcases h.2.2.1 with f | f | f | f | f
    · rw [ch_0 f.1]; exact toP' _ _
    · by_cases q : cU W.1 (-1) ≠ 0 ∧ rU W.1 (cU W.1 (-1)) ≠ 0
      · rw [ch_1p f.1 q]; exact toP' _ _
      · by_cases z : W.1.2.1 (-1) 0 < 0
        · rw [ch_1l f.1 q z]; exact toL' _
        · by_cases y : rOf W.1 0 ≠ 0
          · rw [ch_1o f.1 q z y]
            have c4 := w3 (.inl f.1)
            exact ⟨Iw.mk (U := toP (wC W (cu W.2.1 3 5)) (rOf W.1 0) (cOu W.1 (rOf W.1 0))) (a1 := 1) (a3 := 5) (a4 := W.2.1 4) (a5 := W.2.1 5) (a6 := W.2.1 6) rfl rfl rfl rfl rfl ⟨fun _ => w1.1 (by omega), w1.2⟩ (fun z => absurd z (by decide)) (fun _ => c4), phS (a1 := 1) (a3 := 5) (a4 := W.2.1 4) (a5 := W.2.1 5) rfl rfl rfl rfl (by rw [P0, if_neg (by omega), if_neg (by omega)]; omega)⟩
          · rw [ch_1d f.1 q z y]; exact toD' (.inl f.1)
    · rw [ch_5 f.1]; exact toD' (.inr f.1)
    · by_cases q : cU W.1 0 = 0
      · rw [ch_3j f.1 q]; exact toJ'
      · by_cases z : rU W.1 (cU W.1 0) = 0
        · rw [ch_3u f.1 q z] at hg; exact absurd (show (4 : Int) = 1 from hg) (by decide)
        · rw [ch_3p f.1 q z]; exact toP' _ _
    · by_cases q : rDn W.1 = 0
      · rw [ch_4j f q]; exact toJ'
      · by_cases z : cDn W.1 (rDn W.1) = 0
        · rw [ch_4l f q z]; exact toL' _
        · rw [ch_4p f q z]; exact toP' _ _
  · rw [stp_1 n.1] at hg ⊢
    by_cases b : bgx (hwS W) W.1 (W.2.1 8) (W.2.1 9)
    · rw [show s_pv W = _ from cif_t b] at hg; exact absurd (show (5 : Int) = 1 from hg) (by decide)
    · refine ⟨h.pv n.1 b, ?_⟩
      rw [show s_pv W = _ from cif_f b]
      have c4 : 0 ≤ W.2.1 4 := h.2.1.2.2.2.2
      have c3 : (if W.2.1 3 = 0 then 1 else W.2.1 3) ≠ 0 := by split <;> omega
      have c3' : ((if W.2.1 3 = 0 then 1 else W.2.1 3) = 3 ∨ (if W.2.1 3 = 0 then 1 else W.2.1 3) = 4) ↔ (W.2.1 3 = 3 ∨ W.2.1 3 = 4) := by split <;> omega
      refine ⟨Iw.mk (a1 := 0) (a3 := if W.2.1 3 = 0 then 1 else W.2.1 3) (a4 := W.2.1 4 + 1) (a5 := W.2.1 5) (a6 := W.2.1 6) rfl rfl rfl rfl rfl ⟨fun _ => w1.1 (by omega), w1.2⟩ (fun z => absurd z c3) (fun _ => by omega), ?_⟩
      refine phS (a1 := 0) (a3 := if W.2.1 3 = 0 then 1 else W.2.1 3) (a4 := W.2.1 4 + 1) (a5 := W.2.1 5) rfl rfl rfl rfl ?_
      rw [P0]
      by_cases y : W.2.1 3 = 3 ∨ W.2.1 3 = 4
      · rw [if_pos y, if_pos (c3'.mpr y)]; omega
      · rw [if_neg y, if_neg (fun z => y (c3'.mp z))]; omega
  · rw [stp_2 n.1] at hg ⊢
    refine ⟨h.ju n.1, ?_⟩
    have c6 := h.2.1.2.1
    by_cases q : 0 < W.2.1 6 ∧ ¬ abv K W
    · rw [show s_ju K W = toL W 0 from cif_t q]
      exact ⟨Iw.mk (U := toL W 0) (a1 := 3) rfl rfl rfl rfl rfl ⟨fun q => absurd q (by omega), w1.2⟩ w2 w3, phS (a1 := 3) (a3 := W.2.1 3) (a4 := W.2.1 4) (a5 := W.2.1 5) rfl rfl rfl rfl (by rw [P0]; omega)⟩
    · by_cases z : bRk K.1 K.2.1 W.1 = 0
      · rw [show s_ju K W = _ from (cif_f q).trans (cif_t z)]
        have c5 := w1.1 (by omega)
        exact ⟨Iw.mk (a1 := 3) (a3 := W.2.1 3) (a4 := W.2.1 4) (a5 := W.2.1 5) (a6 := W.2.1 6 + 1) rfl rfl rfl rfl rfl ⟨fun q => absurd q (by omega), c5⟩ w2 w3, phS (a1 := 3) (a3 := W.2.1 3) (a4 := W.2.1 4) (a5 := W.2.1 5) rfl rfl rfl rfl (by rw [P0]; omega)⟩
      · rw [show s_ju K W = _ from (cif_f q).trans (cif_f z)]
        have c45 : cif (K.2.2.2.1 ∧ W.2.1 7 < K.2.2.1) (4 : Int) 5 = 4 ∨ cif (K.2.2.2.1 ∧ W.2.1 7 < K.2.2.1) (4 : Int) 5 = 5 := by
          by_cases y : K.2.2.2.1 ∧ W.2.1 7 < K.2.2.1
          · exact .inl (cif_t y)
          · exact .inr (cif_f y)
        exact ⟨Iw.mk (a1 := cif (K.2.2.2.1 ∧ W.2.1 7 < K.2.2.1) (4 : Int) 5) (a3 := W.2.1 3) (a4 := W.2.1 4) (a5 := W.2.1 5) (a6 := W.2.1 6) rfl rfl rfl rfl rfl ⟨fun q => by omega, w1.2⟩ w2 w3, phS (a1 := cif (K.2.2.2.1 ∧ W.2.1 7 < K.2.2.1) (4 : Int) 5) (a3 := W.2.1 3) (a4 := W.2.1 4) (a5 := W.2.1 5) rfl rfl rfl rfl (by rw [P0]; omega)⟩
  · rw [stp_3 n.1] at hg ⊢
    by_cases t : 30000 < (leT K.1 W.1 (W.2.1 2) W.2.2.1).length
    · rw [show s_le K W = _ from cif_t t] at hg; exact absurd (show (6 : Int) = 1 from hg) (by decide)
    · by_cases s : W.2.2.2.1.length = 0
      · rw [show s_le K W = _ from cif_f t] at hg
        have hg : cif (W.2.2.2.1.length = 0) (cu W.2.1 0 (if 0 < W.2.1 6 then 2 else 3)) (cu W.2.1 1 6) 0 = 1 := hg
        rw [cif_t s] at hg
        have hg : (if 0 < W.2.1 6 then (2 : Int) else 3) = 1 := hg
        split at hg <;> omega
      · refine ⟨h.le n.1 t s, ?_⟩
        rw [show s_le K W = _ from cif_f t, cif_f s]
        exact ⟨Iw.mk (a1 := 6) (a3 := W.2.1 3) (a4 := W.2.1 4) (a5 := W.2.1 5) (a6 := W.2.1 6) rfl rfl rfl rfl rfl ⟨fun q => absurd q (by omega), w1.2⟩ w2 w3, phS (a1 := 6) (a3 := W.2.1 3) (a4 := W.2.1 4) (a5 := W.2.1 5) rfl rfl rfl rfl (by rw [P0]; omega)⟩
  · have p3 := n.2.1
    rcases n.1 with e | e
    · rw [stp_4 e] at hg ⊢
      by_cases t : 30000 < (cuT K.1 W.1 (W.2.1 2) W.2.2.1).length ∨ 40 ≤ W.1.2.2.2.2.1 ∨ 1000 ≤ W.2.1 5
      · rw [show s_cu K W = _ from cif_t t] at hg; exact absurd (show (6 : Int) = 1 from hg) (by decide)
      · refine ⟨h.cx e t hK, ?_⟩
        rw [show s_cu K W = _ from cif_f t]
        exact ⟨Iw.mk (a1 := 0) (a3 := 4) (a4 := W.2.1 4) (a5 := W.2.1 5 + 1) (a6 := W.2.1 6) rfl rfl rfl rfl rfl ⟨fun _ => by omega, by omega⟩ (fun z => absurd z (by decide)) (fun z => by omega), phS (a1 := 0) (a3 := 4) (a4 := W.2.1 4) (a5 := W.2.1 5 + 1) rfl rfl rfl rfl (by rw [P0, if_pos p3, if_pos (.inr rfl)]; omega)⟩
    · rw [stp_5 e] at hg ⊢
      by_cases t : 30000 < (brT W.1 (W.2.1 2) W.2.2.1).length ∨ 40 ≤ W.1.2.2.2.2.1 ∨ 1000 ≤ W.2.1 5
      · rw [show s_br K W = _ from cif_t t] at hg; exact absurd (show (6 : Int) = 1 from hg) (by decide)
      · refine ⟨h.br e t hK, ?_⟩
        rw [show s_br K W = _ from cif_f t]
        exact ⟨Iw.mk (a1 := 0) (a3 := 4) (a4 := W.2.1 4) (a5 := W.2.1 5 + 1) (a6 := W.2.1 6) rfl rfl rfl rfl rfl ⟨fun _ => by omega, by omega⟩ (fun z => absurd z (by decide)) (fun z => by omega), phS (a1 := 0) (a3 := 4) (a4 := W.2.1 4) (a5 := W.2.1 5 + 1) rfl rfl rfl rfl (by rw [P0, if_pos p3, if_pos (.inr rfl)]; omega)⟩
  · rw [stp_6 n.1] at hg ⊢
    by_cases t : 1000 ≤ W.2.1 5
    · rw [show s_se K W = _ from cif_t t] at hg; exact absurd (show (6 : Int) = 1 from hg) (by decide)
    · refine ⟨h.se n.1 t hK, ?_⟩
      rw [show s_se K W = _ from cif_f t]
      obtain ⟨d, cc, tr, sk, bb⟩ := W
      cases sk with
      | nil => exact absurd rfl n.2.1
      | cons q t' =>
        have n1 : cc 1 = 6 := n.1
        have n3 : cc 3 = 4 := n.2.2
        have v1 : cc 6 ≤ cc 5 := w1.2
        have Q : phW (d, cc, tr, q :: t', bb) = 10 * cc 5 + 3 * cc 4 + cc 1 + (if cc 3 = 3 ∨ cc 3 = 4 then 8 else 0) := rfl
        exact ⟨Iw.mk (a1 := 0) (a3 := 4) (a4 := cc 4) (a5 := cc 5 + 1) (a6 := cc 6) rfl rfl rfl rfl rfl ⟨fun _ => by omega, by omega⟩ (fun z => absurd z (by decide)) (fun z => by omega), phS (a1 := 0) (a3 := 4) (a4 := cc 4) (a5 := cc 5 + 1) rfl rfl rfl rfl (by rw [Q, if_pos (.inr n3), if_pos (.inr rfl)]; omega)⟩
/-- the exact divisions of the pivot that waits -/
theorem Iv.ex (h : Iv K W) (hn : W.2.1 1 = 1) : ∀ i j, -1 ≤ i → i ≤ W.1.2.2.2.2.1 → (i = -1 → hwS W = 1) → i ≠ W.2.1 8 → 0 ≤ j → j ≤ W.1.2.2.2.2.2 → W.1.1 * ((W.1.2.1 i j * W.1.2.1 (W.2.1 8) (W.2.1 9) - W.1.2.1 i (W.2.1 9) * W.1.2.1 (W.2.1 8) j) / W.1.1) = W.1.2.1 i j * W.1.2.1 (W.2.1 8) (W.2.1 9) - W.1.2.1 i (W.2.1 9) * W.1.2.1 (W.2.1 8) j := by
  intro i j i0 i1 iw ne j0 j1
  obtain ⟨r, s, np, q0, q1, q5⟩ := Iv.n1 h.2.2.2.1 hn
  have hD := h.1.2.2.1
  have hE := h.1.2.2.2.1
  have hx := h.1.2.2.2.2
  by_cases e : i = -1
  · have ind : ∀ {x y : Int}, x = W.1.1 * y → W.1.1 * (x / W.1.1) = x := fun {x y} q => by rw [q, Int.mul_ediv_cancel_left _ (by omega)]
    have win : wIn W.1 → W.1.1 * ((W.1.2.1 i j * W.1.2.1 (W.2.1 8) (W.2.1 9) - W.1.2.1 i (W.2.1 9) * W.1.2.1 (W.2.1 8) j) / W.1.1) = W.1.2.1 i j * W.1.2.1 (W.2.1 8) (W.2.1 9) - W.1.2.1 i (W.2.1 9) * W.1.2.1 (W.2.1 8) j := fun ⟨r0, h1, h2, h3, h4⟩ => by
      rw [e, h3 j j0 j1, h3 (W.2.1 9) (by omega) s.2]
      by_cases z : r0 = W.2.1 8
      · rw [z]; exact ind (y := 0) (by grind)
      · have x := hE.ex (i := r0) (j := j) hD r ⟨by omega, s.2⟩ ⟨by omega, h1.2⟩ z ⟨j0, j1⟩
        refine ind (y := -((W.1.2.1 r0 j * W.1.2.1 (W.2.1 8) (W.2.1 9) - W.1.2.1 r0 (W.2.1 9) * W.1.2.1 (W.2.1 8) j) / W.1.1)) ?_
        rw [Int.mul_neg, x, Int.neg_mul, Int.neg_mul]; omega
    have hw1 := iw e
    rcases h.2.2.1 with f | f | f | f | f
    · have d1 := f.2.1.1
      rw [d1, Int.one_mul, Int.ediv_one]
    · rcases f.2.1 with w | w
      · exact win w
      · have := w.2.2.1 _ s.1 s.2
        have := q1 f.1
        omega
    · rcases f.2.1 with w | w
      · exact win w.2
      · omega
    · rw [hw_0 (.inl f.1)] at hw1; omega
    · rw [hw_0 (.inr f)] at hw1; omega
  · exact hE.ex hD r ⟨by omega, s.2⟩ ⟨by omega, i1⟩ ne ⟨j0, j1⟩
end SLZ
/-- the model's side of the machine -/
def KKm (n : Int) (A : Int → Int → Int) (wh : Int → Int) (al : Int) : qT := (n, wh, al, wct wh n.toNat = n, ∀ i, 1 ≤ i → i ≤ n → A 0 i ≠ 0 → wh i = 1)
