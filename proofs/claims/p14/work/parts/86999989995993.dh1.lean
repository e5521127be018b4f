/-! Cuts, branches, the run -/
theorem RBd.cut {K : qT} {c7 m D : Int} {RR : Int → Int → Int} {ff : Int → Int} (h : RBd K c7 m RR) (hc : K.2.2.2.1 ∧ c7 < K.2.2.1) (h7 : 0 ≤ c7) (hal : K.2.2.1 ≤ 20) (hD : 0 < D) (hm : 0 ≤ m ∧ m ≤ 40) (hf : ∀ k : Int, 1 ≤ k → k ≤ m → 0 ≤ ff k ∧ ff k ≤ D) : (∀ j, 0 ≤ j → j ≤ K.1 → ¬ lg60 (smf ff RR j m.toNat / D)) ∧ RBd K (c7 + 1) (m + 1) (upR RR (m + 1) (fun j => smf ff RR j m.toNat / D)) := by
  have b := h hc
  have p := rbp_p c7.toNat
  have e : rbp (c7 + 1).toNat = 41 * rbp c7.toNat := by rw [show (c7 + 1).toNat = c7.toNat + 1 by omega]; rfl
  have B : ∀ j, 0 ≤ j → j ≤ K.1 → -(41 * rbp c7.toNat) ≤ smf ff RR j m.toNat / D ∧ smf ff RR j m.toNat / D ≤ 41 * rbp c7.toNat := fun j j0 j1 => cut_b hD p hm hf (fun k k0 k1 => b k j k0 k1 j0 j1)
  refine ⟨fun j j0 j1 => lg_no (by omega) (B j j0 j1), fun _ k j k0 k1 j0 j1 => ?_⟩
  rw [e]
  unfold upR
  by_cases q : k = m + 1
  · rw [if_pos q]; exact B j j0 j1
  · rw [if_neg q]; have := b k j k0 (by omega) j0 j1; omega
theorem emod_r {a D : Int} (h : 0 < D) : 0 ≤ a % D ∧ a % D ≤ D := ⟨Int.emod_nonneg _ (by omega), Int.le_of_lt (Int.emod_lt_of_pos _ h)⟩
theorem wkW.go {K : qT} {W U : wT} {b : Int} (h : wkW K W b U) (q : U.2.1 0 = 1) : W.2.1 0 = 1 := by
  obtain ⟨k, e, f⟩ := h
  cases k with
  | zero => rw [e] at q; exact q
  | succ k =>
    by_cases z : W.2.1 0 = 1
    · exact z
    · exact absurd (show stW (itW K W 0) b from .inl z) (f 0 (by omega))
def RNq (G : sG) (S : sS) (md : Nat) (n mm mx al : Int) (A : Int → Int → Int) (wh : Int → Int) (W0 : wT) (b dn i : Int) : Prop := ∃ U, wkW (KKm n A wh al) W0 b U ∧ S.1 119 9 = U.2.1 0 ∧ (1 ≤ U.2.1 0 ∧ U.2.1 0 ≤ 6) ∧ (U.2.1 0 ≤ 4 → ∃ oc od RR, SRq G S oc od md n mm mx al A wh RR U) ∧ dn = U.2.1 4 - W0.2.1 4 ∧ (U.2.1 0 = 1 → (Iv (KKm n A wh al) U ∧ Iw U) ∧ i + phW W0 ≤ phW U ∧ ¬ 30000 < U.2.2.1.length)
theorem wT_c0 {K : qT} {W : wT} (h : Iv K W) (h0 : W.2.1 0 = 1) : 1 ≤ (stp K W).2.1 0 ∧ (stp K W).2.1 0 ≤ 6 := by
  have P : ∀ r s, (toP W r s).2.1 0 = W.2.1 0 := fun _ _ => rfl
  have L : ∀ i, (toL W i).2.1 0 = W.2.1 0 := fun _ => rfl
  rcases h.2.2.2.1 with n | n | n | n | n | n
  · rw [stp_0 n]
    rcases h.2.2.1 with f | f | f | f | f
    · rw [ch_0 f.1, P]; omega
    · by_cases q : cU W.1 (-1) ≠ 0 ∧ rU W.1 (cU W.1 (-1)) ≠ 0
      · rw [ch_1p f.1 q, P]; omega
      · by_cases z : W.1.2.1 (-1) 0 < 0
        · rw [ch_1l f.1 q z, L]; omega
        · by_cases y : rOf W.1 0 ≠ 0
          · rw [ch_1o f.1 q z y]; show 1 ≤ W.2.1 0 ∧ W.2.1 0 ≤ 6; omega
          · rw [ch_1d f.1 q z y]; show 1 ≤ W.2.1 0 ∧ W.2.1 0 ≤ 6; omega
    · rw [ch_5 f.1]; show 1 ≤ W.2.1 0 ∧ W.2.1 0 ≤ 6; omega
    · by_cases q : cU W.1 0 = 0
      · rw [ch_3j f.1 q]; show 1 ≤ W.2.1 0 ∧ W.2.1 0 ≤ 6; omega
      · by_cases z : rU W.1 (cU W.1 0) = 0
        · rw [ch_3u f.1 q z]; show 1 ≤ (4 : Int) ∧ (4 : Int) ≤ 6; omega
        · rw [ch_3p f.1 q z, P]; omega
    · by_cases q : rDn W.1 = 0
      · rw [ch_4j f q]; show 1 ≤ W.2.1 0 ∧ W.2.1 0 ≤ 6; omega
      · by_cases z : cDn W.1 (rDn W.1) = 0
        · rw [ch_4l f q z, L]; omega
        · rw [ch_4p f q z, P]; omega
  · rw [stp_1 n.1]
    by_cases b : bgx (hwS W) W.1 (W.2.1 8) (W.2.1 9)
    · rw [show s_pv W = _ from cif_t b]; show 1 ≤ (5 : Int) ∧ (5 : Int) ≤ 6; omega
    · rw [show s_pv W = _ from cif_f b]; show 1 ≤ W.2.1 0 ∧ W.2.1 0 ≤ 6; omega
  · rw [stp_2 n.1]
    by_cases q : 0 < W.2.1 6 ∧ ¬ abv K W
    · rw [show s_ju K W = toL W 0 from cif_t q, L]; omega
    · by_cases z : bRk K.1 K.2.1 W.1 = 0
      · rw [show s_ju K W = _ from (cif_f q).trans (cif_t z)]; show 1 ≤ W.2.1 0 ∧ W.2.1 0 ≤ 6; omega
      · rw [show s_ju K W = _ from (cif_f q).trans (cif_f z)]; show 1 ≤ W.2.1 0 ∧ W.2.1 0 ≤ 6; omega
  · rw [stp_3 n.1]
    by_cases t : 30000 < (leT K.1 W.1 (W.2.1 2) W.2.2.1).length
    · rw [show s_le K W = _ from cif_t t]; show 1 ≤ (6 : Int) ∧ (6 : Int) ≤ 6; omega
    · rw [show s_le K W = _ from cif_f t]
      by_cases s : W.2.2.2.1.length = 0
      · rw [cif_t s]; show 1 ≤ (if 0 < W.2.1 6 then (2 : Int) else 3) ∧ (if 0 < W.2.1 6 then (2 : Int) else 3) ≤ 6; split <;> omega
      · rw [cif_f s]; show 1 ≤ W.2.1 0 ∧ W.2.1 0 ≤ 6; omega
  · rcases n.1 with e | e
    · rw [stp_4 e]
      by_cases t : 30000 < (cuT K.1 W.1 (W.2.1 2) W.2.2.1).length ∨ 40 ≤ W.1.2.2.2.2.1 ∨ 1000 ≤ W.2.1 5
      · rw [show s_cu K W = _ from cif_t t]; show 1 ≤ (6 : Int) ∧ (6 : Int) ≤ 6; omega
      · rw [show s_cu K W = _ from cif_f t]; show 1 ≤ W.2.1 0 ∧ W.2.1 0 ≤ 6; omega
    · rw [stp_5 e]
      by_cases t : 30000 < (brT W.1 (W.2.1 2) W.2.2.1).length ∨ 40 ≤ W.1.2.2.2.2.1 ∨ 1000 ≤ W.2.1 5
      · rw [show s_br K W = _ from cif_t t]; show 1 ≤ (6 : Int) ∧ (6 : Int) ≤ 6; omega
      · rw [show s_br K W = _ from cif_f t]; show 1 ≤ W.2.1 0 ∧ W.2.1 0 ≤ 6; omega
  · rw [stp_6 n.1]
    by_cases t : 1000 ≤ W.2.1 5
    · rw [show s_se K W = _ from cif_t t]; show 1 ≤ (6 : Int) ∧ (6 : Int) ≤ 6; omega
    · rw [show s_se K W = _ from cif_f t]
      obtain ⟨d, cc, tr, sk, bb⟩ := W
      cases sk with
      | nil => exact absurd rfl n.2.1
      | cons q t' => show 1 ≤ cc 0 ∧ cc 0 ≤ 6; have : cc 0 = 1 := h0; omega
/-- the TREES of a work that goes on are short enough; only a pivot counts -/
theorem tl_st {K : qT} {W : wT} (h : Iv K W) (hl : ¬ 30000 < W.2.2.1.length) (hg : (stp K W).2.1 0 = 1) : ¬ 30000 < (stp K W).2.2.1.length := by
  rcases h.2.2.2.1 with n | n | n | n | n | n
  · rw [stp_0 n]
    rcases h.2.2.1 with f | f | f | f | f
    · rw [ch_0 f.1]; exact hl
    · by_cases q : cU W.1 (-1) ≠ 0 ∧ rU W.1 (cU W.1 (-1)) ≠ 0
      · rw [ch_1p f.1 q]; exact hl
      · by_cases z : W.1.2.1 (-1) 0 < 0
        · rw [ch_1l f.1 q z]; exact hl
        · by_cases y : rOf W.1 0 ≠ 0
          · rw [ch_1o f.1 q z y]; exact hl
          · rw [ch_1d f.1 q z y]; exact hl
    · rw [ch_5 f.1]; exact hl
    · by_cases q : cU W.1 0 = 0
      · rw [ch_3j f.1 q]; exact hl
      · by_cases z : rU W.1 (cU W.1 0) = 0
        · rw [ch_3u f.1 q z]; exact hl
        · rw [ch_3p f.1 q z]; exact hl
    · by_cases q : rDn W.1 = 0
      · rw [ch_4j f q]; exact hl
      · by_cases z : cDn W.1 (rDn W.1) = 0
        · rw [ch_4l f q z]; exact hl
        · rw [ch_4p f q z]; exact hl
  · rw [stp_1 n.1]
    by_cases b : bgx (hwS W) W.1 (W.2.1 8) (W.2.1 9)
    · rw [show s_pv W = _ from cif_t b]; exact hl
    · rw [show s_pv W = _ from cif_f b]; exact hl
  · rw [stp_2 n.1]
    by_cases q : 0 < W.2.1 6 ∧ ¬ abv K W
    · rw [show s_ju K W = toL W 0 from cif_t q]; exact hl
    · by_cases z : bRk K.1 K.2.1 W.1 = 0
      · rw [show s_ju K W = _ from (cif_f q).trans (cif_t z)]; exact hl
      · rw [show s_ju K W = _ from (cif_f q).trans (cif_f z)]; exact hl
  · rw [stp_3 n.1]
    by_cases t : 30000 < (leT K.1 W.1 (W.2.1 2) W.2.2.1).length
    · rw [show s_le K W = _ from cif_t t]; exact hl
    · rw [show s_le K W = _ from cif_f t]; exact t
  · rcases n.1 with e | e
    · rw [stp_4 e]
      by_cases t : 30000 < (cuT K.1 W.1 (W.2.1 2) W.2.2.1).length ∨ 40 ≤ W.1.2.2.2.2.1 ∨ 1000 ≤ W.2.1 5
      · rw [show s_cu K W = _ from cif_t t]; exact hl
      · rw [show s_cu K W = _ from cif_f t]; exact fun z => t (.inl z)
    · rw [stp_5 e]
      by_cases t : 30000 < (brT W.1 (W.2.1 2) W.2.2.1).length ∨ 40 ≤ W.1.2.2.2.2.1 ∨ 1000 ≤ W.2.1 5
      · rw [show s_br K W = _ from cif_t t]; exact hl
      · rw [show s_br K W = _ from cif_f t]; exact fun z => t (.inl z)
  · rw [stp_6 n.1]
    by_cases t : 1000 ≤ W.2.1 5
    · rw [show s_se K W = _ from cif_t t]; exact hl
    · rw [show s_se K W = _ from cif_f t]
      obtain ⟨d, cc, tr, sk, bb⟩ := W
      cases sk with
      | nil => exact absurd rfl n.2.1
      | cons q t' => exact hl
theorem c4_st {K : qT} {W : wT} (h : Iv K W) (n1 : W.2.1 1 ≠ 1) : (stp K W).2.1 4 = W.2.1 4 := by
  rcases h.2.2.2.1 with n | n | n | n | n | n
  · rw [stp_0 n]
    rcases h.2.2.1 with f | f | f | f | f
    · rw [ch_0 f.1]; rfl
    · by_cases q : cU W.1 (-1) ≠ 0 ∧ rU W.1 (cU W.1 (-1)) ≠ 0
      · rw [ch_1p f.1 q]; rfl
      · by_cases z : W.1.2.1 (-1) 0 < 0
        · rw [ch_1l f.1 q z]; rfl
        · by_cases y : rOf W.1 0 ≠ 0
          · rw [ch_1o f.1 q z y]; rfl
          · rw [ch_1d f.1 q z y]; rfl
    · rw [ch_5 f.1]; rfl
    · by_cases q : cU W.1 0 = 0
      · rw [ch_3j f.1 q]; rfl
      · by_cases z : rU W.1 (cU W.1 0) = 0
        · rw [ch_3u f.1 q z]; rfl
        · rw [ch_3p f.1 q z]; rfl
    · by_cases q : rDn W.1 = 0
      · rw [ch_4j f q]; rfl
      · by_cases z : cDn W.1 (rDn W.1) = 0
        · rw [ch_4l f q z]; rfl
        · rw [ch_4p f q z]; rfl
  · exact absurd n.1 n1
  · rw [stp_2 n.1]
    by_cases q : 0 < W.2.1 6 ∧ ¬ abv K W
    · rw [show s_ju K W = toL W 0 from cif_t q]; rfl
    · by_cases z : bRk K.1 K.2.1 W.1 = 0
      · rw [show s_ju K W = _ from (cif_f q).trans (cif_t z)]; rfl
      · rw [show s_ju K W = _ from (cif_f q).trans (cif_f z)]; rfl
  · rw [stp_3 n.1]
    by_cases t : 30000 < (leT K.1 W.1 (W.2.1 2) W.2.2.1).length
    · rw [show s_le K W = _ from cif_t t]; rfl
    · rw [show s_le K W = _ from cif_f t]
      by_cases s : W.2.2.2.1.length = 0
      · rw [cif_t s]; rfl
      · rw [cif_f s]; rfl
  · rcases n.1 with e | e
    · rw [stp_4 e]
      by_cases t : 30000 < (cuT K.1 W.1 (W.2.1 2) W.2.2.1).length ∨ 40 ≤ W.1.2.2.2.2.1 ∨ 1000 ≤ W.2.1 5
      · rw [show s_cu K W = _ from cif_t t]; rfl
      · rw [show s_cu K W = _ from cif_f t]; rfl
    · rw [stp_5 e]
      by_cases t : 30000 < (brT W.1 (W.2.1 2) W.2.2.1).length ∨ 40 ≤ W.1.2.2.2.2.1 ∨ 1000 ≤ W.2.1 5
      · rw [show s_br K W = _ from cif_t t]; rfl
      · rw [show s_br K W = _ from cif_f t]; rfl
  · rw [stp_6 n.1]
    by_cases t : 1000 ≤ W.2.1 5
    · rw [show s_se K W = _ from cif_t t]; rfl
    · rw [show s_se K W = _ from cif_f t]
      obtain ⟨d, cc, tr, sk, bb⟩ := W
      cases sk with
      | nil => exact absurd rfl n.2.1
      | cons q t' => rfl
/-- one turn of the run -/
theorem RNq.st {G : sG} {u : sS} {md : Nat} {n mm mx al : Int} {A : Int → Int → Int} {wh : Int → Int} {W0 U : wT} {b dn2 i : Int} (hn : 0 ≤ n) (hw : wkW (KKm n A wh al) W0 b U) (hs : ¬ stW U b) (hI : Iv (KKm n A wh al) U ∧ Iw U) (hi : i + phW W0 ≤ phW U) (hl : ¬ 30000 < U.2.2.1.length) (h0 : U.2.1 0 = 1) (h9 : u.1 119 9 = (stp (KKm n A wh al) U).2.1 0) (hS : (stp (KKm n A wh al) U).2.1 0 ≤ 4 → ∃ oc od RR, SRq G u oc od md n mm mx al A wh RR (stp (KKm n A wh al) U)) (hd : dn2 = (stp (KKm n A wh al) U).2.1 4 - W0.2.1 4) : RNq G u md n mm mx al A wh W0 b dn2 (i + 1) := by
  refine ⟨stp (KKm n A wh al) U, hw.st hs, h9, wT_c0 hI.1 h0, hS, hd, fun g => ?_⟩
  have s := hI.1.st hI.2 (show 0 ≤ (KKm n A wh al).1 from hn) g
  exact ⟨⟨s.1, s.2.1⟩, by have := s.2.2; omega, tl_st hI.1 hl g⟩
theorem phW_b {K : qT} {W U : wT} (hW : Iv K W) (hU : Iv K U) : phW U - phW W ≤ 10004 + 3 * (U.2.1 4 - W.2.1 4) := by
  have a := phW.mk (U := U) rfl rfl rfl rfl
  have b := phW.mk (U := W) rfl rfl rfl rfl
  have c := hW.2.1.1
  have d := hU.2.1.1
  have e : 0 ≤ W.2.1 1 := by rcases hW.2.2.2.1 with n | n | n | n | n | n <;> omega
  have f : U.2.1 1 ≤ 6 := by rcases hU.2.2.2.1 with n | n | n | n | n | n <;> omega
  rw [a, b]
  split <;> split <;> omega
theorem hwpv (U : wT) : hwS (pvD U.1 (U.2.1 8) (U.2.1 9), cu (cu (cu U.2.1 4 (U.2.1 4 + 1)) 1 0) 3 (if U.2.1 3 = 0 then 1 else U.2.1 3), U.2.2) = hwS U := by
  unfold hwS
  show (if (if U.2.1 3 = 0 then 1 else U.2.1 3) = 3 ∨ (if U.2.1 3 = 0 then 1 else U.2.1 3) = 4 then (0 : Int) else 1) = _
  by_cases z : U.2.1 3 = 0
  · rw [if_pos z, if_neg (by omega), if_neg (by omega)]
  · rw [if_neg z]
theorem phC_p {p : Int} : phC (if p = 0 then 1 else p) = phC p := by
  by_cases z : p = 0
  · rw [if_pos z, z]; rfl
  · rw [if_neg z]
/-- the work AT FIRST -/
def W0m (n mm : Int) (A : Int → Int → Int) (hw : Int) : wT := (dS0 n mm A hw, (fun k => if k = 0 then 1 else if k = 3 then (if hw = 1 then 0 else 3) else if k = 5 then 1 else 0), [], [], 0, 0, fun _ => 0)
theorem W0_hw {n mm : Int} {A : Int → Int → Int} {hw : Int} (h : hw = 0 ∨ hw = 1) : hwS (W0m n mm A hw) = hw := by
  rcases h with e | e <;> subst e <;> rfl
theorem W0_iv {n mm al : Int} {A : Int → Int → Int} {wh : Int → Int} {hw : Int} (h : hwA mm A hw) (hn : 0 ≤ n ∧ n ≤ 12) (hm : 0 ≤ mm ∧ mm ≤ 16) (hA : ∀ i j, -100000 ≤ A i j ∧ A i j ≤ 100000) : Iv (KKm n A wh al) (W0m n mm A hw) ∧ Iw (W0m n mm A hw) := by
  have hw01 : hw = 0 ∨ hw = 1 := by rcases h with h | h; (exact .inl h.1); (exact .inr h.1)
  have OK : dOK n hw (dS0 n mm A hw) := by
    refine ⟨⟨hm.1, by show mm ≤ 40; omega⟩, ⟨by show 0 ≤ n + hw; omega, by show n + hw ≤ 12 + hw; omega⟩, by show (0 : Int) < 1; decide, dEX.st rfl hm.1, fun i i0 i1 => ?_, fun j j0 j1 => ?_, fun i k i0 i1 k0 k1 e => ?_, fun i k i0 i1 k0 k1 e => ?_, fun i j i0 i1 j0 j1 e => ?_⟩
    · have i1 : i ≤ mm := i1
      show 1 - hw ≤ n + i ∧ n + i ≤ n + mm
      omega
    · have j1 : j ≤ n + hw := j1
      show 1 - hw ≤ (if j = n + 1 then 0 else j) ∧ (if j = n + 1 then 0 else j) ≤ n + mm
      split <;> omega
    · have e : n + i = n + k := e
      omega
    · have i1 : i ≤ n + hw := i1
      have k1 : k ≤ n + hw := k1
      have e : (if i = n + 1 then 0 else i) = (if k = n + 1 then 0 else k) := e
      split at e <;> split at e <;> omega
    · have i1 : i ≤ mm := i1
      have j1 : j ≤ n + hw := j1
      have e : n + i = (if j = n + 1 then 0 else j) := e
      split at e <;> omega
  refine ⟨⟨?_, ⟨⟨(show (1 : Int) ≤ 1 by decide), (show (1 : Int) ≤ 1000 by decide)⟩, (show (0 : Int) ≤ 0 by decide), fun q => absurd (show (0 : Int) < 0 from q) (by decide), (show (0 : Int) ≤ 0 by decide), (show (0 : Int) ≤ 0 by decide)⟩, ?_, .inl rfl, trivial, fun q => absurd rfl q⟩, by
    rcases hw01 with e | e <;> subst e
    · exact Iw.mk (U := W0m n mm A 0) (a1 := 0) (a3 := 3) (a4 := 0) (a5 := 1) (a6 := 0) rfl rfl rfl rfl rfl ⟨fun _ => by omega, by omega⟩ (fun _ => rfl) (fun z => by omega)
    · exact Iw.mk (U := W0m n mm A 1) (a1 := 0) (a3 := 0) (a4 := 0) (a5 := 1) (a6 := 0) rfl rfl rfl rfl rfl ⟨fun _ => by omega, by omega⟩ (fun _ => rfl) (fun z => by omega)⟩
  · rw [W0_hw hw01]; exact OK
  · rcases h with h | h
    · exact .inr (.inr (.inr (.inl ⟨by rw [h.1]; rfl, rfl⟩)))
    · have e := h.1
      subst e
      obtain ⟨i, hi, _⟩ := h.2
      refine .inl ⟨rfl, ⟨rfl, fun j j0 j1 => ?_, ?_, fun i i0 i1 => ?_, ?_, by show 1 ≤ mm; omega, by show 1 ≤ n + 1; omega, fun i i0 i1 => ?_⟩, rfl⟩
      · have j1 : j < n + 1 := j1
        show (if j = n + 1 then (if (-1 : Int) = -1 then 1 else if (-1 : Int) = 0 then 0 else -1) else if (-1 : Int) = -1 then 0 else if (-1 : Int) = 0 ∧ 0 < j then -A 0 j else A (-1) j) = 0
        rw [if_neg (by omega), if_pos rfl]
      · show (if n + 1 = n + 1 then (if (-1 : Int) = -1 then 1 else if (-1 : Int) = 0 then 0 else -1) else _) = 1
        rw [if_pos rfl, if_pos rfl]
      · show (if n + 1 = n + 1 then (if i = -1 then 1 else if i = 0 then 0 else -1) else _) = -1
        rw [if_pos rfl, if_neg (by omega), if_neg (by omega)]
      · show (if n + 1 = n + 1 then 0 else n + 1) = 0
        rw [if_pos rfl]
      · have := hA i 0
        show -999999999 ≤ (if (0 : Int) = n + 1 then (if i = -1 then 1 else if i = 0 then 0 else -1) else if i = -1 then 0 else if i = 0 ∧ (0 : Int) < 0 then -A 0 0 else A i 0) ∧ (if (0 : Int) = n + 1 then (if i = -1 then 1 else if i = 0 then 0 else -1) else if i = -1 then 0 else if i = 0 ∧ (0 : Int) < 0 then -A 0 0 else A i 0) ≤ 999999999
        rw [if_neg (by omega), if_neg (by omega), if_neg (by omega)]
        omega
def pBg (k : Nat) : Bool := rgB 119 139 k || rgB 158 161 k
def pCl (k : Nat) : Bool := rgB 158 161 k
theorem pCl_Bg : ∀ k, pCl k = true → pBg k = true := fun k h => by
  simp only [pCl, pBg, rgB, Bool.or_eq_true, Bool.and_eq_true, Nat.ble_eq, Nat.beq_eq] at h ⊢; omega
theorem pCl_N : ∀ k, pCl k = true → pN k = true := fun k h => by
  simp only [pCl, pN, rgB, Bool.or_eq_true, Bool.and_eq_true, Nat.ble_eq, Nat.beq_eq] at h ⊢; omega
theorem pRz_Bg : ∀ k, pRz k = true → pBg k = true := fun k h => by
  simp only [pRz, pBg, rgB, Bool.or_eq_true, Bool.and_eq_true, Nat.ble_eq, Nat.beq_eq] at h ⊢; omega
theorem pSt_Bg : ∀ k, pSt k = true → pBg k = true := fun k h => by
  simp only [pSt, pBg, rgB, Bool.or_eq_true, Bool.and_eq_true, Nat.ble_eq, Nat.beq_eq] at h ⊢; omega
theorem pBg_H : ∀ k, pBg k = true → pH k = true := fun k h => by
  simp only [pBg, pH, rgB, Bool.or_eq_true, Bool.and_eq_true, Nat.ble_eq, Nat.beq_eq] at h ⊢; omega
theorem dic_pBg {o : Nat} (m : dc o) : pBg o = true := by rcases m with rfl | rfl <;> rfl
theorem mo_pBg {o : Nat} (m : mdl o) : pBg o = false ∧ pBg (o + 1) = false ∧ pBg (o + 2) = false := by
  have a : ∀ o, o < 231 → tau o = .inl 3 → pBg o = false ∧ pBg (o + 1) = false ∧ pBg (o + 2) = false := by decide +kernel
  exact a o (mdl_k m) m.1
theorem dic_pCl {o : Nat} (m : dc o) : pCl o = false := by rcases m with rfl | rfl <;> rfl
theorem mo_pCl {o : Nat} (m : mdl o) : pCl o = false ∧ pCl (o + 1) = false ∧ pCl (o + 2) = false := by
  have a : ∀ o, o < 231 → tau o = .inl 3 → pCl o = false ∧ pCl (o + 1) = false ∧ pCl (o + 2) = false := by decide +kernel
  exact a o (mdl_k m) m.1
set_option maxRecDepth 100000 in
set_option maxHeartbeats 4000000 in
theorem v_X7_leaf (l : Launch) (G : sG) (S : sS) {oc od md : Nat} {n mm mx al : Int} {A : Int → Int → Int} {wh : Int → Int} {RR : Int → Int → Int} {Wm : wT} (hI : cX G S 0 0 0) (hmo : mdl md) (hSR : Hd (SRq G S oc od md n mm mx al A wh RR Wm)) (hIv : Hd (Iv (KKm n A wh al) Wm ∧ Iw Wm)) (hn12 : 0 ≤ n ∧ n ≤ 12 ∧ 0 ≤ al ∧ al ≤ 20) (hst : Wm.2.1 0 = 1) (hnx : Wm.2.1 1 = 3) : Met l yX7_leaf (.code yX7_leaf cX7_leaf 1 none :: tb) (rmk 8 0 0) (sPc G 294 S [.ref (G.2.2.1 + 119)]) (sQv G 294 (fun u => cX G u 0 0 0 ∧ Fr S u pSr ∧ (Hd (u.1 119 9 = (stp (KKm n A wh al) Wm).2.1 0) ∧ Hd ((stp (KKm n A wh al) Wm).2.1 0 ≤ 4 → SRq G u oc od md n mm mx al A wh RR (stp (KKm n A wh al) Wm))))) 0 0 (sF G) := by
  refine sEnter (by decide) (Nat.le_of_ble_eq_true rfl) ?_
  intro p e s m args below meth c Cx hr hlk hnm hW ls hl
  have Cx : sC G p m c cX7_leaf 1 s args RX7 := Cx
  obtain ⟨hx, hb, hml, hown, hts⟩ := id Cx.1
  have hL : sL G [] := sL_nil
  have hl : lv_has ls 1 [(0, .ref (G.2.2.1 + 119))] := hl
  have hW0 := hW
  obtain ⟨hdq, hDR, hKS, hT, hRW, hRB, ⟨hmr, hMD⟩, hBP, hCR⟩ := id hSR
  obtain ⟨k8, k9, k10, k11, k12, k13, k14, k15, k16, k17, k18⟩ := id hCR
  have hiv := hIv.1; have hiw := hIv.2.b; have hiw2 := hIv.2.2.1; have hiw3 := hIv.2.2.2; have hOK := hiv.1; have hok1 := hOK.1; have hok2 := hOK.2.1; have hDp := hOK.2.2.1; have hcn := hiv.2.1; have hmd1 := hMD.1; have hmd2 := hMD.2.1
  obtain ⟨hoc, hod, hcd, hec, hed⟩ := id hdq
  have hd13 := hDR.2.2.2.2.1; have hd14 := hDR.2.2.2.2.2.1; have hd15 := hDR.2.2.2.2.2.2.1; have hd16 := hDR.2.2.2.2.2.2.2; have hm40 : 0 ≤ S.1 135 14 ∧ S.1 135 14 ≤ 40 := hI.fi 135 14 2 (by decide) rfl; have hp13 : 0 ≤ S.1 135 15 ∧ S.1 135 15 ≤ 13 := hI.fi 135 15 2 (by decide) rfl
  have h3 := Iv.n3 hiv.2.2.2.1 hnx; have h3a := h3.1; have h3b := h3.2.1; have h3c := h3.2.2; have hwv : Wm.2.1 2 = -1 → hwS Wm = 1 := fun q => hw_1 (by have := h3b q; omega)
  have hks : 0 < S.1 135 19 ↔ Wm.2.2.2.1.length ≠ 0 := by cases hz : Wm.2.2.2.1 with | nil => (have e : S.1 135 19 = 0 := (by have e := hKS; rw [hz] at e; exact e); simp; omega) | cons q t => (obtain ⟨b, b1, b2, _⟩ := (by have e := hKS; rw [hz] at e; exact e : KSc (S.2.1 140) (S.1 135 19) (q :: t)); have sm := (by have e := hiv.2.2.2.2.1; rw [hz] at e; exact e : skO _ _ (q :: t)); have s1 := sm.2.1.1; have s2 := sm.2.1.2.1; simp; omega)
  refine lv_aload_n hx hb dX7_leaf_0 rfl (lv_at hl 0 rfl) ?_
  refine g_X7_28 Cx hW (k := 119) (by decide) rfl (v := .ref (G.2.2.1 + 157)) (rf_119_2 hI) dX7_leaf_1 ?_
  refine lv_aload_n hx hb dX7_leaf_4 rfl (lv_at hl 0 rfl) ?_
  refine g_X7_21 Cx hW (k := 119) (by decide) rfl (v := .ref (G.2.2.1 + 135)) (rf_119_1 hI) dX7_leaf_5 ?_
  refine lv_aload_n hx hb dX7_leaf_8 rfl (lv_at hl 0 rfl) ?_
  refine g_X7_51 Cx hW (k := 119) (by decide) rfl (v := .ref (G.2.2.1 + md)) hmr dX7_leaf_9 ?_
  have q_1 : 0 ≤ S.1 md 2 ∧ S.1 md 2 ≤ 12 := hI.fi md 2 3 (mdl_k hmo) hmo.1
  refine g_X7_110 Cx hW (k := md) (mdl_l hmo) hmo.1 (v := S.1 md 2) rfl dX7_leaf_12 ?_
  refine lv_aload_n hx hb dX7_leaf_15 rfl (lv_at hl 0 rfl) ?_
  have q_2 : (-1) ≤ S.1 119 16 ∧ S.1 119 16 ≤ 40 := hI.fi 119 16 7 (by decide) rfl
  refine g_X7_190 Cx hW (k := 119) (by decide) rfl (v := S.1 119 16) rfl dX7_leaf_16 ?_
  refine sBv (sV (As := [.ref (G.2.2.1 + 135), .int (iv (S.1 md 2)), .int (iv (S.1 119 16))]) (rest := []) (k := 157) Cx (v_X5_writeLeaf l G S (vs := S.1 md 2) (so := S.1 119 16) (oc := oc) (od := od) (n := n) (hw := (hwS Wm)) (d := Wm.1) (L := Wm.2.2.1) hI ⟨hoc, hod, (neD hcd), hec, hed⟩ hDR hT (by omega) (by omega) (by omega)) (c_X7_241 Cx rfl rfl (rmk_ok (by omega) (by decide))) hW (by decide) rfl rfl rfl hl.1 rfl (Nat.le_of_ble_eq_true rfl) dX7_leaf_19 ⟨Nat.le_of_ble_eq_true rfl, Nat.le_of_ble_eq_true rfl⟩) hL (fun u_3 H locs k_4 hW hL => ?_)
  obtain ⟨iu_3, fu_3, xu_3⟩ := k_4
  have F_5 := (Fr.rf : Fr S S pSr).trans (fu_3.to pWl_Sr)
  refine lv_aload_n hx hb dX7_leaf_22 rfl (lv_at hl 0 rfl) ?_
  refine g_X7_28 Cx hW (k := 119) (by decide) rfl (v := .ref (G.2.2.1 + 157)) (rf_119_2 iu_3) dX7_leaf_23 ?_
  refine sBi (sV (As := []) (rest := []) (k := 157) Cx (v_X5_isTreeOver l G u_3 (L := (leT n Wm.1 (S.1 119 16) Wm.2.2.1)) iu_3 xu_3) (c_X7_245 Cx rfl rfl (rmk_ok (by omega) (by decide))) hW (by decide) rfl rfl rfl hl.1 rfl (Nat.le_of_ble_eq_true rfl) dX7_leaf_26 ⟨Nat.le_of_ble_eq_true rfl, Nat.le_of_ble_eq_true rfl⟩) hL (fun r_8 u_6 H locs k_7 hW hL => ?_)
  obtain ⟨eu_6, xu_6⟩ := k_7
  rw [eu_6] at hW
  refine r_if_eq (tgt := 41) hx hb ⟨(by omega), (by omega)⟩ dX7_leaf_29 (by decide) (fun c_9 => ?_) (fun c_9 => ?_)
  · refine lv_aload_n hx hb dX7_leaf_41 rfl (lv_at hl 0 rfl) ?_
    refine g_X7_21 Cx hW (k := 119) (by decide) rfl (v := .ref (G.2.2.1 + 135)) (rf_119_1 iu_3) dX7_leaf_42 ?_
    have q_10 : 0 ≤ S.1 135 19 ∧ S.1 135 19 ≤ 102220 := hI.fi 135 19 2 (by decide) rfl
    have lk_11 : u_3.1 135 19 = S.1 135 19 := (fu_3 135 rfl).1 19
    refine sBi (sV (As := []) (rest := []) (k := 135) Cx (v_X2_hasKept l G u_3 (oc := oc) (od := od) (n := n) (hw := (hwS Wm)) (d := Wm.1) iu_3 ⟨hoc, hod, (neD hcd), (((fu_3 135 rfl).2.2.2 0).trans hec), (((fu_3 135 rfl).2.2.2 1).trans hed)⟩ (DRc.of hDR (show u_3.1 135 13 = S.1 135 13 from (fu_3 135 rfl).1 13) (show u_3.1 135 14 = S.1 135 14 from (fu_3 135 rfl).1 14) (show u_3.1 135 15 = S.1 135 15 from (fu_3 135 rfl).1 15) (show u_3.1 135 16 = S.1 135 16 from (fu_3 135 rfl).1 16) (show u_3.2.1 oc = S.2.1 oc from funext fun x => (fu_3 oc (dic_pWl hoc)).2.1 x) (show u_3.2.1 138 = S.2.1 138 from funext fun x => (fu_3 138 rfl).2.1 x) (show u_3.2.1 139 = S.2.1 139 from funext fun x => (fu_3 139 rfl).2.1 x))) (c_X7_248 Cx rfl rfl (rmk_ok (by omega) (by decide))) hW (by decide) rfl rfl rfl hl.1 rfl (Nat.le_of_ble_eq_true rfl) dX7_leaf_45 ⟨Nat.le_of_ble_eq_true rfl, Nat.le_of_ble_eq_true rfl⟩) hL (fun r_14 u_12 H locs k_13 hW hL => ?_)
    obtain ⟨eu_12, xu_12⟩ := k_13
    rw [eu_12] at hW
    refine r_if_eq (tgt := 60) hx hb ⟨(by omega), (by omega)⟩ dX7_leaf_48 (by decide) (fun c_15 => ?_) (fun c_15 => ?_)
    · refine lv_aload_n hx hb dX7_leaf_60 rfl (lv_at hl 0 rfl) ?_
      refine lv_aload_n hx hb dX7_leaf_61 rfl (lv_at hl 0 rfl) ?_
      have q_16 : (-2147483648) ≤ S.1 119 12 ∧ S.1 119 12 ≤ 2147483647 := hI.fi 119 12 7 (by decide) rfl
      refine g_X7_78 Cx hW (k := 119) (by decide) rfl (v := S.1 119 12) ((fu_3 119 rfl).1 12) dX7_leaf_62 ?_
      refine r_if_le (tgt := 72) hx hb ⟨(by omega), (by omega)⟩ dX7_leaf_65 (by decide) (fun c_17 => ?_) (fun c_17 => ?_)
      · refine lv_iconst (v := iv 3) hx hb dX7_leaf_72 (by decide) ?_
        refine p_X7_69 Cx hW hL (k := 119) (by decide) rfl dX7_leaf_73 (fun H locs hW hL => ?_)
        have F_18 : Fr S (uF u_3 119 9 3) pSr := F_5.F rfl
        have i_19 : cX G (uF u_3 119 9 3) 0 0 0 := iu_3.status ⟨by omega, by omega⟩ (by omega)
        have lk_20 : (uF u_3 119 9 3).1 119 9 = 3 := uF_on
        have q_21 : 0 ≤ S.1 119 8 ∧ S.1 119 8 ≤ 20 := hI.fi 119 8 7 (by decide) rfl
        have lk_22 : (uF u_3 119 9 3).1 119 8 = S.1 119 8 := (uF_ne (fun h => absurd h.2 (by decide))).trans ((fu_3 119 rfl).1 8)
        have q_23 : (-2147483648) ≤ S.1 119 10 ∧ S.1 119 10 ≤ 2147483647 := hI.fi 119 10 7 (by decide) rfl
        have lk_24 : (uF u_3 119 9 3).1 119 10 = S.1 119 10 := (uF_ne (fun h => absurd h.2 (by decide))).trans ((fu_3 119 rfl).1 10)
        have q_25 : 0 ≤ S.1 119 11 ∧ S.1 119 11 ≤ 1000 := hI.fi 119 11 7 (by decide) rfl
        have lk_26 : (uF u_3 119 9 3).1 119 11 = S.1 119 11 := (uF_ne (fun h => absurd h.2 (by decide))).trans ((fu_3 119 rfl).1 11)
        have lk_27 : (uF u_3 119 9 3).1 119 12 = S.1 119 12 := (uF_ne (fun h => absurd h.2 (by decide))).trans ((fu_3 119 rfl).1 12)
        have q_28 : (-2147483648) ≤ S.1 119 13 ∧ S.1 119 13 ≤ 2147483647 := hI.fi 119 13 7 (by decide) rfl
        have lk_29 : (uF u_3 119 9 3).1 119 13 = S.1 119 13 := (uF_ne (fun h => absurd h.2 (by decide))).trans ((fu_3 119 rfl).1 13)
        have q_30 : 0 ≤ S.1 119 14 ∧ S.1 119 14 ≤ 3 := hI.fi 119 14 7 (by decide) rfl
        have lk_31 : (uF u_3 119 9 3).1 119 14 = S.1 119 14 := (uF_ne (fun h => absurd h.2 (by decide))).trans ((fu_3 119 rfl).1 14)
        have q_32 : 0 ≤ S.1 119 15 ∧ S.1 119 15 ≤ 6 := hI.fi 119 15 7 (by decide) rfl
        have lk_33 : (uF u_3 119 9 3).1 119 15 = S.1 119 15 := (uF_ne (fun h => absurd h.2 (by decide))).trans ((fu_3 119 rfl).1 15)
        have lk_34 : (uF u_3 119 9 3).1 119 16 = S.1 119 16 := (uF_ne (fun h => absurd h.2 (by decide))).trans ((fu_3 119 rfl).1 16)
        have q_35 : (-1) ≤ S.1 135 17 ∧ S.1 135 17 ≤ 40 := hI.fi 135 17 2 (by decide) rfl
        have lk_36 : (uF u_3 119 9 3).1 135 17 = S.1 135 17 := (uF_ne (fun h => absurd h.2 (by decide))).trans ((fu_3 135 rfl).1 17)
        have q_37 : (-1) ≤ S.1 135 18 ∧ S.1 135 18 ≤ 13 := hI.fi 135 18 2 (by decide) rfl
        have lk_38 : (uF u_3 119 9 3).1 135 18 = S.1 135 18 := (uF_ne (fun h => absurd h.2 (by decide))).trans ((fu_3 135 rfl).1 18)
        exact sVret Cx hr hlk hW hL ⟨i_19, F_18, (by rw [show (stp (KKm n A wh al) Wm) = (Wm.1, cu Wm.2.1 0 3, (leT (KKm n A wh al).1 Wm.1 (Wm.2.1 2) Wm.2.2.1), Wm.2.2.2) from ((stp_3 hnx).trans ((cif_f (c := 30000 < (leT (KKm n A wh al).1 Wm.1 (Wm.2.1 2) Wm.2.2.1).length) (fun z => by rw [← (show leT n Wm.1 (S.1 119 16) Wm.2.2.1 = (leT (KKm n A wh al).1 Wm.1 (Wm.2.1 2) Wm.2.2.1) by rw [k16 (by omega)]; rfl)] at z; have := xu_6.2.2.mpr z; omega)).trans (by rw [cif_t (by by_cases z : Wm.2.2.2.1.length = 0; exact z; (have e := hks.mpr z; omega)), if_neg (show ¬ 0 < Wm.2.1 6 by omega)])))]; exact ⟨(show (uF u_3 119 9 3).1 119 9 = 3 by omega), fun _ => ⟨⟨hoc, hod, (neD hcd), (((uF_r).trans ((fu_3 135 rfl).2.2.2 0)).trans hec), (((uF_r).trans ((fu_3 135 rfl).2.2.2 1)).trans hed)⟩, (DRc.of hDR (show (uF u_3 119 9 3).1 135 13 = S.1 135 13 from (uF_ne (fun h => absurd h.2 (by decide))).trans ((fu_3 135 rfl).1 13)) (show (uF u_3 119 9 3).1 135 14 = S.1 135 14 from (uF_ne (fun h => absurd h.2 (by decide))).trans ((fu_3 135 rfl).1 14)) (show (uF u_3 119 9 3).1 135 15 = S.1 135 15 from (uF_ne (fun h => absurd h.2 (by decide))).trans ((fu_3 135 rfl).1 15)) (show (uF u_3 119 9 3).1 135 16 = S.1 135 16 from (uF_ne (fun h => absurd h.2 (by decide))).trans ((fu_3 135 rfl).1 16)) (show (uF u_3 119 9 3).2.1 oc = S.2.1 oc from funext fun x => (uF_a).trans ((fu_3 oc (dic_pWl hoc)).2.1 x)) (show (uF u_3 119 9 3).2.1 138 = S.2.1 138 from funext fun x => (uF_a).trans ((fu_3 138 rfl).2.1 x)) (show (uF u_3 119 9 3).2.1 139 = S.2.1 139 from funext fun x => (uF_a).trans ((fu_3 139 rfl).2.1 x))), (KSc.of hKS (show (uF u_3 119 9 3).1 135 19 = S.1 135 19 from (uF_ne (fun h => absurd h.2 (by decide))).trans ((fu_3 135 rfl).1 19)) (show (uF u_3 119 9 3).2.1 140 = S.2.1 140 from funext fun x => (uF_a).trans ((fu_3 140 rfl).2.1 x))), (show TXc (uF u_3 119 9 3) 160 30000 (leT (KKm n A wh al).1 Wm.1 (Wm.2.1 2) Wm.2.2.1) from TXc.eq (TXc.of xu_3 (show (uF u_3 119 9 3).1 160 1 = u_3.1 160 1 from uF_ne (fun h => absurd h.2 (by decide))) (show (uF u_3 119 9 3).1 160 2 = u_3.1 160 2 from uF_ne (fun h => absurd h.2 (by decide))) (show (uF u_3 119 9 3).2.1 161 = u_3.2.1 161 from funext fun x => uF_a)) (by rw [k16 (by omega)]; rfl)), (RWz.of hRW (show (uF u_3 119 9 3).1 120 8 = S.1 120 8 from (uF_ne (fun h => absurd h.2 (by decide))).trans ((fu_3 120 rfl).1 8)) (show (uF u_3 119 9 3).1 120 9 = S.1 120 9 from (uF_ne (fun h => absurd h.1 (by decide))).trans ((fu_3 120 rfl).1 9)) (show (uF u_3 119 9 3).2.1 121 = S.2.1 121 from funext fun x => (uF_a).trans ((fu_3 121 rfl).2.1 x))), hRB, ⟨(((uF_r).trans ((fu_3 119 rfl).2.2.2 7) : (uF u_3 119 9 3).2.2.2 119 7 = S.2.2.2 119 7).trans hmr), (MDv.of hMD (show (uF u_3 119 9 3).1 md 2 = S.1 md 2 from (uF_ne (fun h => absurd h.2 (by decide))).trans ((fu_3 md (mo_pWl hmo).1).1 2)) (show (uF u_3 119 9 3).1 md 3 = S.1 md 3 from (uF_ne (fun h => absurd h.2 (by decide))).trans ((fu_3 md (mo_pWl hmo).1).1 3)) (show (uF u_3 119 9 3).1 md 4 = S.1 md 4 from (uF_ne (fun h => absurd h.2 (by decide))).trans ((fu_3 md (mo_pWl hmo).1).1 4)) (show (uF u_3 119 9 3).2.1 (md + 1) = S.2.1 (md + 1) from funext fun x => (uF_a).trans ((fu_3 (md + 1) (mo_pWl hmo).2.1).2.1 x)) (show (uF u_3 119 9 3).2.1 (md + 2) = S.2.1 (md + 2) from funext fun x => (uF_a).trans ((fu_3 (md + 2) (mo_pWl hmo).2.2).2.1 x)))⟩, (BPc.of hBP (show (uF u_3 119 9 3).2.1 162 = S.2.1 162 from funext fun x => (uF_a).trans ((fu_3 162 rfl).2.1 x))), ⟨(show (uF u_3 119 9 3).1 119 8 = al by omega), (show (uF u_3 119 9 3).1 119 9 = 3 by omega), (show (uF u_3 119 9 3).1 119 10 = Wm.2.1 4 by omega), (show (uF u_3 119 9 3).1 119 11 = Wm.2.1 5 by omega), (show (uF u_3 119 9 3).1 119 12 = Wm.2.1 6 by omega), (show (uF u_3 119 9 3).1 119 13 = Wm.2.1 7 by omega), (show (uF u_3 119 9 3).1 119 14 = phC (Wm.2.1 3) by omega), (show (uF u_3 119 9 3).1 119 15 = Wm.2.1 1 by omega), (fun qz => by have qz : (3 : Int) ≤ (Wm.2.1 1 : Int) ∧ (Wm.2.1 1 : Int) ≤ 5 := qz; show (uF u_3 119 9 3).1 119 16 = Wm.2.1 2; omega), (fun qz => by have qz : (Wm.2.1 1 : Int) = 1 := qz; show (uF u_3 119 9 3).1 135 17 = Wm.2.1 8 ∧ (uF u_3 119 9 3).1 135 18 = Wm.2.1 9; omega), (fun qz => by have qz : (3 : Int) = 4 := qz; show (uF u_3 119 9 3).1 135 18 = Wm.2.1 9; omega)⟩⟩⟩)⟩ dX7_leaf_76
      · refine lv_iconst (v := iv 2) hx hb dX7_leaf_68 (by decide) ?_
        refine lv_goto (tgt := 73) hx hb dX7_leaf_69 (by decide) ?_
        refine p_X7_69 Cx hW hL (k := 119) (by decide) rfl dX7_leaf_73 (fun H locs hW hL => ?_)
        have F_39 : Fr S (uF u_3 119 9 2) pSr := F_5.F rfl
        have i_40 : cX G (uF u_3 119 9 2) 0 0 0 := iu_3.status ⟨by omega, by omega⟩ (by omega)
        have lk_41 : (uF u_3 119 9 2).1 119 9 = 2 := uF_on
        have q_42 : 0 ≤ S.1 119 8 ∧ S.1 119 8 ≤ 20 := hI.fi 119 8 7 (by decide) rfl
        have lk_43 : (uF u_3 119 9 2).1 119 8 = S.1 119 8 := (uF_ne (fun h => absurd h.2 (by decide))).trans ((fu_3 119 rfl).1 8)
        have q_44 : (-2147483648) ≤ S.1 119 10 ∧ S.1 119 10 ≤ 2147483647 := hI.fi 119 10 7 (by decide) rfl
        have lk_45 : (uF u_3 119 9 2).1 119 10 = S.1 119 10 := (uF_ne (fun h => absurd h.2 (by decide))).trans ((fu_3 119 rfl).1 10)
        have q_46 : 0 ≤ S.1 119 11 ∧ S.1 119 11 ≤ 1000 := hI.fi 119 11 7 (by decide) rfl
        have lk_47 : (uF u_3 119 9 2).1 119 11 = S.1 119 11 := (uF_ne (fun h => absurd h.2 (by decide))).trans ((fu_3 119 rfl).1 11)
        have lk_48 : (uF u_3 119 9 2).1 119 12 = S.1 119 12 := (uF_ne (fun h => absurd h.2 (by decide))).trans ((fu_3 119 rfl).1 12)
        have q_49 : (-2147483648) ≤ S.1 119 13 ∧ S.1 119 13 ≤ 2147483647 := hI.fi 119 13 7 (by decide) rfl
        have lk_50 : (uF u_3 119 9 2).1 119 13 = S.1 119 13 := (uF_ne (fun h => absurd h.2 (by decide))).trans ((fu_3 119 rfl).1 13)
        have q_51 : 0 ≤ S.1 119 14 ∧ S.1 119 14 ≤ 3 := hI.fi 119 14 7 (by decide) rfl
        have lk_52 : (uF u_3 119 9 2).1 119 14 = S.1 119 14 := (uF_ne (fun h => absurd h.2 (by decide))).trans ((fu_3 119 rfl).1 14)
        have q_53 : 0 ≤ S.1 119 15 ∧ S.1 119 15 ≤ 6 := hI.fi 119 15 7 (by decide) rfl
        have lk_54 : (uF u_3 119 9 2).1 119 15 = S.1 119 15 := (uF_ne (fun h => absurd h.2 (by decide))).trans ((fu_3 119 rfl).1 15)
        have lk_55 : (uF u_3 119 9 2).1 119 16 = S.1 119 16 := (uF_ne (fun h => absurd h.2 (by decide))).trans ((fu_3 119 rfl).1 16)
        have q_56 : (-1) ≤ S.1 135 17 ∧ S.1 135 17 ≤ 40 := hI.fi 135 17 2 (by decide) rfl
        have lk_57 : (uF u_3 119 9 2).1 135 17 = S.1 135 17 := (uF_ne (fun h => absurd h.2 (by decide))).trans ((fu_3 135 rfl).1 17)
        have q_58 : (-1) ≤ S.1 135 18 ∧ S.1 135 18 ≤ 13 := hI.fi 135 18 2 (by decide) rfl
        have lk_59 : (uF u_3 119 9 2).1 135 18 = S.1 135 18 := (uF_ne (fun h => absurd h.2 (by decide))).trans ((fu_3 135 rfl).1 18)
        exact sVret Cx hr hlk hW hL ⟨i_40, F_39, (by rw [show (stp (KKm n A wh al) Wm) = (Wm.1, cu Wm.2.1 0 2, (leT (KKm n A wh al).1 Wm.1 (Wm.2.1 2) Wm.2.2.1), Wm.2.2.2) from ((stp_3 hnx).trans ((cif_f (c := 30000 < (leT (KKm n A wh al).1 Wm.1 (Wm.2.1 2) Wm.2.2.1).length) (fun z => by rw [← (show leT n Wm.1 (S.1 119 16) Wm.2.2.1 = (leT (KKm n A wh al).1 Wm.1 (Wm.2.1 2) Wm.2.2.1) by rw [k16 (by omega)]; rfl)] at z; have := xu_6.2.2.mpr z; omega)).trans (by rw [cif_t (by by_cases z : Wm.2.2.2.1.length = 0; exact z; (have e := hks.mpr z; omega)), if_pos (show 0 < Wm.2.1 6 by omega)])))]; exact ⟨(show (uF u_3 119 9 2).1 119 9 = 2 by omega), fun _ => ⟨⟨hoc, hod, (neD hcd), (((uF_r).trans ((fu_3 135 rfl).2.2.2 0)).trans hec), (((uF_r).trans ((fu_3 135 rfl).2.2.2 1)).trans hed)⟩, (DRc.of hDR (show (uF u_3 119 9 2).1 135 13 = S.1 135 13 from (uF_ne (fun h => absurd h.2 (by decide))).trans ((fu_3 135 rfl).1 13)) (show (uF u_3 119 9 2).1 135 14 = S.1 135 14 from (uF_ne (fun h => absurd h.2 (by decide))).trans ((fu_3 135 rfl).1 14)) (show (uF u_3 119 9 2).1 135 15 = S.1 135 15 from (uF_ne (fun h => absurd h.2 (by decide))).trans ((fu_3 135 rfl).1 15)) (show (uF u_3 119 9 2).1 135 16 = S.1 135 16 from (uF_ne (fun h => absurd h.2 (by decide))).trans ((fu_3 135 rfl).1 16)) (show (uF u_3 119 9 2).2.1 oc = S.2.1 oc from funext fun x => (uF_a).trans ((fu_3 oc (dic_pWl hoc)).2.1 x)) (show (uF u_3 119 9 2).2.1 138 = S.2.1 138 from funext fun x => (uF_a).trans ((fu_3 138 rfl).2.1 x)) (show (uF u_3 119 9 2).2.1 139 = S.2.1 139 from funext fun x => (uF_a).trans ((fu_3 139 rfl).2.1 x))), (KSc.of hKS (show (uF u_3 119 9 2).1 135 19 = S.1 135 19 from (uF_ne (fun h => absurd h.2 (by decide))).trans ((fu_3 135 rfl).1 19)) (show (uF u_3 119 9 2).2.1 140 = S.2.1 140 from funext fun x => (uF_a).trans ((fu_3 140 rfl).2.1 x))), (show TXc (uF u_3 119 9 2) 160 30000 (leT (KKm n A wh al).1 Wm.1 (Wm.2.1 2) Wm.2.2.1) from TXc.eq (TXc.of xu_3 (show (uF u_3 119 9 2).1 160 1 = u_3.1 160 1 from uF_ne (fun h => absurd h.2 (by decide))) (show (uF u_3 119 9 2).1 160 2 = u_3.1 160 2 from uF_ne (fun h => absurd h.2 (by decide))) (show (uF u_3 119 9 2).2.1 161 = u_3.2.1 161 from funext fun x => uF_a)) (by rw [k16 (by omega)]; rfl)), (RWz.of hRW (show (uF u_3 119 9 2).1 120 8 = S.1 120 8 from (uF_ne (fun h => absurd h.2 (by decide))).trans ((fu_3 120 rfl).1 8)) (show (uF u_3 119 9 2).1 120 9 = S.1 120 9 from (uF_ne (fun h => absurd h.1 (by decide))).trans ((fu_3 120 rfl).1 9)) (show (uF u_3 119 9 2).2.1 121 = S.2.1 121 from funext fun x => (uF_a).trans ((fu_3 121 rfl).2.1 x))), hRB, ⟨(((uF_r).trans ((fu_3 119 rfl).2.2.2 7) : (uF u_3 119 9 2).2.2.2 119 7 = S.2.2.2 119 7).trans hmr), (MDv.of hMD (show (uF u_3 119 9 2).1 md 2 = S.1 md 2 from (uF_ne (fun h => absurd h.2 (by decide))).trans ((fu_3 md (mo_pWl hmo).1).1 2)) (show (uF u_3 119 9 2).1 md 3 = S.1 md 3 from (uF_ne (fun h => absurd h.2 (by decide))).trans ((fu_3 md (mo_pWl hmo).1).1 3)) (show (uF u_3 119 9 2).1 md 4 = S.1 md 4 from (uF_ne (fun h => absurd h.2 (by decide))).trans ((fu_3 md (mo_pWl hmo).1).1 4)) (show (uF u_3 119 9 2).2.1 (md + 1) = S.2.1 (md + 1) from funext fun x => (uF_a).trans ((fu_3 (md + 1) (mo_pWl hmo).2.1).2.1 x)) (show (uF u_3 119 9 2).2.1 (md + 2) = S.2.1 (md + 2) from funext fun x => (uF_a).trans ((fu_3 (md + 2) (mo_pWl hmo).2.2).2.1 x)))⟩, (BPc.of hBP (show (uF u_3 119 9 2).2.1 162 = S.2.1 162 from funext fun x => (uF_a).trans ((fu_3 162 rfl).2.1 x))), ⟨(show (uF u_3 119 9 2).1 119 8 = al by omega), (show (uF u_3 119 9 2).1 119 9 = 2 by omega), (show (uF u_3 119 9 2).1 119 10 = Wm.2.1 4 by omega), (show (uF u_3 119 9 2).1 119 11 = Wm.2.1 5 by omega), (show (uF u_3 119 9 2).1 119 12 = Wm.2.1 6 by omega), (show (uF u_3 119 9 2).1 119 13 = Wm.2.1 7 by omega), (show (uF u_3 119 9 2).1 119 14 = phC (Wm.2.1 3) by omega), (show (uF u_3 119 9 2).1 119 15 = Wm.2.1 1 by omega), (fun qz => by have qz : (3 : Int) ≤ (Wm.2.1 1 : Int) ∧ (Wm.2.1 1 : Int) ≤ 5 := qz; show (uF u_3 119 9 2).1 119 16 = Wm.2.1 2; omega), (fun qz => by have qz : (Wm.2.1 1 : Int) = 1 := qz; show (uF u_3 119 9 2).1 135 17 = Wm.2.1 8 ∧ (uF u_3 119 9 2).1 135 18 = Wm.2.1 9; omega), (fun qz => by have qz : (2 : Int) = 4 := qz; show (uF u_3 119 9 2).1 135 18 = Wm.2.1 9; omega)⟩⟩⟩)⟩ dX7_leaf_76
    · refine lv_aload_n hx hb dX7_leaf_51 rfl (lv_at hl 0 rfl) ?_
      refine lv_bipush (v := iv 6) hx hb dX7_leaf_52 (by decide) ?_
      refine p_X7_91 Cx hW hL (k := 119) (by decide) rfl dX7_leaf_54 (fun H locs hW hL => ?_)
      have F_60 : Fr S (uF u_3 119 15 6) pSr := F_5.F rfl
      have i_61 : cX G (uF u_3 119 15 6) 0 0 0 := iu_3.F rfl rfl (show 0 ≤ 6 ∧ 6 ≤ 6 from ⟨by omega, by omega⟩)
      refine lv_goto (tgt := 76) hx hb dX7_leaf_57 (by decide) ?_
      have q_62 : 0 ≤ S.1 119 9 ∧ S.1 119 9 ≤ 6 := hI.fi 119 9 7 (by decide) rfl
      have lk_63 : (uF u_3 119 15 6).1 119 9 = S.1 119 9 := (uF_ne (fun h => absurd h.2 (by decide))).trans ((fu_3 119 rfl).1 9)
      have q_64 : 0 ≤ S.1 119 8 ∧ S.1 119 8 ≤ 20 := hI.fi 119 8 7 (by decide) rfl
      have lk_65 : (uF u_3 119 15 6).1 119 8 = S.1 119 8 := (uF_ne (fun h => absurd h.2 (by decide))).trans ((fu_3 119 rfl).1 8)
      have q_66 : (-2147483648) ≤ S.1 119 10 ∧ S.1 119 10 ≤ 2147483647 := hI.fi 119 10 7 (by decide) rfl
      have lk_67 : (uF u_3 119 15 6).1 119 10 = S.1 119 10 := (uF_ne (fun h => absurd h.2 (by decide))).trans ((fu_3 119 rfl).1 10)
      have q_68 : 0 ≤ S.1 119 11 ∧ S.1 119 11 ≤ 1000 := hI.fi 119 11 7 (by decide) rfl
      have lk_69 : (uF u_3 119 15 6).1 119 11 = S.1 119 11 := (uF_ne (fun h => absurd h.2 (by decide))).trans ((fu_3 119 rfl).1 11)
      have q_70 : (-2147483648) ≤ S.1 119 12 ∧ S.1 119 12 ≤ 2147483647 := hI.fi 119 12 7 (by decide) rfl
      have lk_71 : (uF u_3 119 15 6).1 119 12 = S.1 119 12 := (uF_ne (fun h => absurd h.2 (by decide))).trans ((fu_3 119 rfl).1 12)
      have q_72 : (-2147483648) ≤ S.1 119 13 ∧ S.1 119 13 ≤ 2147483647 := hI.fi 119 13 7 (by decide) rfl
      have lk_73 : (uF u_3 119 15 6).1 119 13 = S.1 119 13 := (uF_ne (fun h => absurd h.2 (by decide))).trans ((fu_3 119 rfl).1 13)
      have q_74 : 0 ≤ S.1 119 14 ∧ S.1 119 14 ≤ 3 := hI.fi 119 14 7 (by decide) rfl
      have lk_75 : (uF u_3 119 15 6).1 119 14 = S.1 119 14 := (uF_ne (fun h => absurd h.2 (by decide))).trans ((fu_3 119 rfl).1 14)
      have lk_76 : (uF u_3 119 15 6).1 119 15 = 6 := uF_on
      have lk_77 : (uF u_3 119 15 6).1 119 16 = S.1 119 16 := (uF_ne (fun h => absurd h.2 (by decide))).trans ((fu_3 119 rfl).1 16)
      have q_78 : (-1) ≤ S.1 135 17 ∧ S.1 135 17 ≤ 40 := hI.fi 135 17 2 (by decide) rfl
      have lk_79 : (uF u_3 119 15 6).1 135 17 = S.1 135 17 := (uF_ne (fun h => absurd h.2 (by decide))).trans ((fu_3 135 rfl).1 17)
      have q_80 : (-1) ≤ S.1 135 18 ∧ S.1 135 18 ≤ 13 := hI.fi 135 18 2 (by decide) rfl
      have lk_81 : (uF u_3 119 15 6).1 135 18 = S.1 135 18 := (uF_ne (fun h => absurd h.2 (by decide))).trans ((fu_3 135 rfl).1 18)
      exact sVret Cx hr hlk hW hL ⟨i_61, F_60, (by rw [show (stp (KKm n A wh al) Wm) = (Wm.1, cu Wm.2.1 1 6, (leT (KKm n A wh al).1 Wm.1 (Wm.2.1 2) Wm.2.2.1), Wm.2.2.2) from ((stp_3 hnx).trans ((cif_f (c := 30000 < (leT (KKm n A wh al).1 Wm.1 (Wm.2.1 2) Wm.2.2.1).length) (fun z => by rw [← (show leT n Wm.1 (S.1 119 16) Wm.2.2.1 = (leT (KKm n A wh al).1 Wm.1 (Wm.2.1 2) Wm.2.2.1) by rw [k16 (by omega)]; rfl)] at z; have := xu_6.2.2.mpr z; omega)).trans (by rw [cif_f (fun z => by have e := hks.mp (by omega); omega)])))]; exact ⟨(show (uF u_3 119 15 6).1 119 9 = Wm.2.1 0 by omega), fun _ => ⟨⟨hoc, hod, (neD hcd), (((uF_r).trans ((fu_3 135 rfl).2.2.2 0)).trans hec), (((uF_r).trans ((fu_3 135 rfl).2.2.2 1)).trans hed)⟩, (DRc.of hDR (show (uF u_3 119 15 6).1 135 13 = S.1 135 13 from (uF_ne (fun h => absurd h.2 (by decide))).trans ((fu_3 135 rfl).1 13)) (show (uF u_3 119 15 6).1 135 14 = S.1 135 14 from (uF_ne (fun h => absurd h.2 (by decide))).trans ((fu_3 135 rfl).1 14)) (show (uF u_3 119 15 6).1 135 15 = S.1 135 15 from (uF_ne (fun h => absurd h.1 (by decide))).trans ((fu_3 135 rfl).1 15)) (show (uF u_3 119 15 6).1 135 16 = S.1 135 16 from (uF_ne (fun h => absurd h.2 (by decide))).trans ((fu_3 135 rfl).1 16)) (show (uF u_3 119 15 6).2.1 oc = S.2.1 oc from funext fun x => (uF_a).trans ((fu_3 oc (dic_pWl hoc)).2.1 x)) (show (uF u_3 119 15 6).2.1 138 = S.2.1 138 from funext fun x => (uF_a).trans ((fu_3 138 rfl).2.1 x)) (show (uF u_3 119 15 6).2.1 139 = S.2.1 139 from funext fun x => (uF_a).trans ((fu_3 139 rfl).2.1 x))), (KSc.of hKS (show (uF u_3 119 15 6).1 135 19 = S.1 135 19 from (uF_ne (fun h => absurd h.2 (by decide))).trans ((fu_3 135 rfl).1 19)) (show (uF u_3 119 15 6).2.1 140 = S.2.1 140 from funext fun x => (uF_a).trans ((fu_3 140 rfl).2.1 x))), (show TXc (uF u_3 119 15 6) 160 30000 (leT (KKm n A wh al).1 Wm.1 (Wm.2.1 2) Wm.2.2.1) from TXc.eq (TXc.of xu_3 (show (uF u_3 119 15 6).1 160 1 = u_3.1 160 1 from uF_ne (fun h => absurd h.2 (by decide))) (show (uF u_3 119 15 6).1 160 2 = u_3.1 160 2 from uF_ne (fun h => absurd h.2 (by decide))) (show (uF u_3 119 15 6).2.1 161 = u_3.2.1 161 from funext fun x => uF_a)) (by rw [k16 (by omega)]; rfl)), (RWz.of hRW (show (uF u_3 119 15 6).1 120 8 = S.1 120 8 from (uF_ne (fun h => absurd h.2 (by decide))).trans ((fu_3 120 rfl).1 8)) (show (uF u_3 119 15 6).1 120 9 = S.1 120 9 from (uF_ne (fun h => absurd h.2 (by decide))).trans ((fu_3 120 rfl).1 9)) (show (uF u_3 119 15 6).2.1 121 = S.2.1 121 from funext fun x => (uF_a).trans ((fu_3 121 rfl).2.1 x))), hRB, ⟨(((uF_r).trans ((fu_3 119 rfl).2.2.2 7) : (uF u_3 119 15 6).2.2.2 119 7 = S.2.2.2 119 7).trans hmr), (MDv.of hMD (show (uF u_3 119 15 6).1 md 2 = S.1 md 2 from (uF_ne (fun h => absurd h.2 (by decide))).trans ((fu_3 md (mo_pWl hmo).1).1 2)) (show (uF u_3 119 15 6).1 md 3 = S.1 md 3 from (uF_ne (fun h => absurd h.2 (by decide))).trans ((fu_3 md (mo_pWl hmo).1).1 3)) (show (uF u_3 119 15 6).1 md 4 = S.1 md 4 from (uF_ne (fun h => absurd h.2 (by decide))).trans ((fu_3 md (mo_pWl hmo).1).1 4)) (show (uF u_3 119 15 6).2.1 (md + 1) = S.2.1 (md + 1) from funext fun x => (uF_a).trans ((fu_3 (md + 1) (mo_pWl hmo).2.1).2.1 x)) (show (uF u_3 119 15 6).2.1 (md + 2) = S.2.1 (md + 2) from funext fun x => (uF_a).trans ((fu_3 (md + 2) (mo_pWl hmo).2.2).2.1 x)))⟩, (BPc.of hBP (show (uF u_3 119 15 6).2.1 162 = S.2.1 162 from funext fun x => (uF_a).trans ((fu_3 162 rfl).2.1 x))), ⟨(show (uF u_3 119 15 6).1 119 8 = al by omega), (show (uF u_3 119 15 6).1 119 9 = Wm.2.1 0 by omega), (show (uF u_3 119 15 6).1 119 10 = Wm.2.1 4 by omega), (show (uF u_3 119 15 6).1 119 11 = Wm.2.1 5 by omega), (show (uF u_3 119 15 6).1 119 12 = Wm.2.1 6 by omega), (show (uF u_3 119 15 6).1 119 13 = Wm.2.1 7 by omega), (show (uF u_3 119 15 6).1 119 14 = phC (Wm.2.1 3) by omega), (show (uF u_3 119 15 6).1 119 15 = 6 by omega), (fun qz => by have qz : (3 : Int) ≤ (6 : Int) ∧ (6 : Int) ≤ 5 := qz; show (uF u_3 119 15 6).1 119 16 = Wm.2.1 2; omega), (fun qz => by have qz : (6 : Int) = 1 := qz; show (uF u_3 119 15 6).1 135 17 = Wm.2.1 8 ∧ (uF u_3 119 15 6).1 135 18 = Wm.2.1 9; omega), (fun qz => by have qz : (Wm.2.1 0 : Int) = 4 := qz; show (uF u_3 119 15 6).1 135 18 = Wm.2.1 9; omega)⟩⟩⟩)⟩ dX7_leaf_76
  · refine lv_aload_n hx hb dX7_leaf_32 rfl (lv_at hl 0 rfl) ?_
    refine lv_bipush (v := iv 6) hx hb dX7_leaf_33 (by decide) ?_
    refine p_X7_69 Cx hW hL (k := 119) (by decide) rfl dX7_leaf_35 (fun H locs hW hL => ?_)
    have F_82 : Fr S (uF u_3 119 9 6) pSr := F_5.F rfl
    have i_83 : cX G (uF u_3 119 9 6) 0 0 0 := iu_3.status ⟨by omega, by omega⟩ (by omega)
    refine lv_goto (tgt := 76) hx hb dX7_leaf_38 (by decide) ?_
    have lk_84 : (uF u_3 119 9 6).1 119 9 = 6 := uF_on
    exact sVret Cx hr hlk hW hL ⟨i_83, F_82, (by rw [show (stp (KKm n A wh al) Wm) = wC Wm (cu Wm.2.1 0 6) from ((stp_3 hnx).trans (cif_t (by rw [← (show leT n Wm.1 (S.1 119 16) Wm.2.2.1 = (leT (KKm n A wh al).1 Wm.1 (Wm.2.1 2) Wm.2.2.1) by rw [k16 (by omega)]; rfl)]; exact xu_6.2.2.mp (by omega))))]; exact ⟨(show (uF u_3 119 9 6).1 119 9 = 6 by omega), fun q => absurd (show (6 : Int) ≤ 4 from q) (by decide)⟩)⟩ dX7_leaf_76

set_option maxRecDepth 100000 in
set_option maxHeartbeats 4000000 in
theorem v_X7_countChild (l : Launch) (G : sG) (S : sS) {L : List Int} {hro : Int} (hI : cX G S 0 0 0) (hT : Hd (TXc S 160 30000 L)) (hhr : 0 ≤ hro ∧ hro ≤ 1) : Met l yX7_countChild (.code yX7_countChild cX7_countChild 2 (some .boolean) :: tb) (rmk 3 0 0) (sPc G 294 S [.ref (G.2.2.1 + 119), .int (iv hro)]) (sQi G 294 (fun r u => cX G u 0 0 0 ∧ Fr S u (p1 119) ∧ (0 ≤ r ∧ r ≤ 1 ∧ (r = 1 ↔ (¬ 30000 < L.length ∧ hro = 1 ∧ S.1 119 11 < 1000)) ∧ (r = 1 → u.1 119 9 = S.1 119 9 ∧ u.1 119 11 = S.1 119 11 + 1 ∧ u.1 119 14 = 3 ∧ u.1 119 15 = 0) ∧ (r = 0 → u.1 119 9 = 6) ∧ (u.1 119 8 = S.1 119 8 ∧ u.1 119 10 = S.1 119 10 ∧ u.1 119 12 = S.1 119 12 ∧ u.1 119 13 = S.1 119 13 ∧ u.1 119 16 = S.1 119 16) ∧ ∀ i, u.2.2.2 119 i = S.2.2.2 119 i))) 0 0 (sF G) := by
  refine sEnter (by decide) (Nat.le_of_ble_eq_true rfl) ?_
  intro p e s m args below meth c Cx hr hlk hnm hW ls hl
  have Cx : sC G p m c cX7_countChild 2 s args RX7 := Cx
  obtain ⟨hx, hb, hml, hown, hts⟩ := id Cx.1
  have hL : sL G [] := sL_nil
  have hl : lv_has ls 2 [(0, .ref (G.2.2.1 + 119)), (1, .int (iv hro))] := hl
  have hW0 := hW
  refine lv_aload_n hx hb dX7_countChild_0 rfl (lv_at hl 0 rfl) ?_
  refine g_X7_28 Cx hW (k := 119) (by decide) rfl (v := .ref (G.2.2.1 + 157)) (rf_119_2 hI) dX7_countChild_1 ?_
  refine sBi (sV (As := []) (rest := []) (k := 157) Cx (v_X5_isTreeOver l G S (L := L) hI hT) (c_X7_245 Cx rfl rfl (rmk_ok (by omega) (by decide))) hW (by decide) rfl rfl rfl hl.1 rfl (Nat.le_of_ble_eq_true rfl) dX7_countChild_4 ⟨Nat.le_of_ble_eq_true rfl, Nat.le_of_ble_eq_true rfl⟩) hL (fun r_3 u_1 H locs k_2 hW hL => ?_)
  obtain ⟨eu_1, xu_1⟩ := k_2
  rw [eu_1] at hW
  refine r_if_ne (tgt := 24) hx hb ⟨(by omega), (by omega)⟩ dX7_countChild_7 (by decide) (fun c_4 => ?_) (fun c_4 => ?_)
  · refine lv_aload_n hx hb dX7_countChild_24 rfl (lv_at hl 0 rfl) ?_
    refine lv_bipush (v := iv 6) hx hb dX7_countChild_25 (by decide) ?_
    refine p_X7_69 Cx hW hL (k := 119) (by decide) rfl dX7_countChild_27 (fun H locs hW hL => ?_)
    have F_5 : Fr S (uF S 119 9 6) (p1 119) := (Fr.rf : Fr S S (p1 119)).F rfl
    have i_6 : cX G (uF S 119 9 6) 0 0 0 := hI.status ⟨by omega, by omega⟩ (by omega)
    refine lv_iconst (v := iv 0) hx hb dX7_countChild_30 (by decide) ?_
    have lk_7 : (uF S 119 9 6).1 119 9 = 6 := uF_on
    have q_8 : 0 ≤ S.1 119 11 ∧ S.1 119 11 ≤ 1000 := hI.fi 119 11 7 (by decide) rfl
    have lk_9 : (uF S 119 9 6).1 119 11 = S.1 119 11 := uF_ne (fun h => absurd h.2 (by decide))
    have q_10 : 0 ≤ S.1 119 14 ∧ S.1 119 14 ≤ 3 := hI.fi 119 14 7 (by decide) rfl
    have lk_11 : (uF S 119 9 6).1 119 14 = S.1 119 14 := uF_ne (fun h => absurd h.2 (by decide))
    have q_12 : 0 ≤ S.1 119 15 ∧ S.1 119 15 ≤ 6 := hI.fi 119 15 7 (by decide) rfl
    have lk_13 : (uF S 119 9 6).1 119 15 = S.1 119 15 := uF_ne (fun h => absurd h.2 (by decide))
    have q_14 : 0 ≤ S.1 119 8 ∧ S.1 119 8 ≤ 20 := hI.fi 119 8 7 (by decide) rfl
    have lk_15 : (uF S 119 9 6).1 119 8 = S.1 119 8 := uF_ne (fun h => absurd h.2 (by decide))
    have q_16 : (-2147483648) ≤ S.1 119 10 ∧ S.1 119 10 ≤ 2147483647 := hI.fi 119 10 7 (by decide) rfl
    have lk_17 : (uF S 119 9 6).1 119 10 = S.1 119 10 := uF_ne (fun h => absurd h.2 (by decide))
    have q_18 : (-2147483648) ≤ S.1 119 12 ∧ S.1 119 12 ≤ 2147483647 := hI.fi 119 12 7 (by decide) rfl
    have lk_19 : (uF S 119 9 6).1 119 12 = S.1 119 12 := uF_ne (fun h => absurd h.2 (by decide))
    have q_20 : (-2147483648) ≤ S.1 119 13 ∧ S.1 119 13 ≤ 2147483647 := hI.fi 119 13 7 (by decide) rfl
    have lk_21 : (uF S 119 9 6).1 119 13 = S.1 119 13 := uF_ne (fun h => absurd h.2 (by decide))
    have q_22 : (-1) ≤ S.1 119 16 ∧ S.1 119 16 ≤ 40 := hI.fi 119 16 7 (by decide) rfl
    have lk_23 : (uF S 119 9 6).1 119 16 = S.1 119 16 := uF_ne (fun h => absurd h.2 (by decide))
    exact sZret Cx hr hlk hW hL (by omega) ⟨i_6, F_5, ⟨by omega, by omega, (by have y := xu_1.2.2; refine ⟨fun q => absurd q (by omega), fun q => by have q1 := q.1; have q2 := q.2; have : ¬ _ := fun z => q1 (y.mp z); omega⟩), (fun q => absurd q (by omega)), (fun _ => by omega), by omega, (fun i => uF_r)⟩⟩ dX7_countChild_31
  · refine lv_iload_n hx hb dX7_countChild_10 rfl (lv_at hl 1 rfl) ?_
    refine r_if_eq (tgt := 24) hx hb ⟨(by omega), (by omega)⟩ dX7_countChild_11 (by decide) (fun c_24 => ?_) (fun c_24 => ?_)
    · refine lv_aload_n hx hb dX7_countChild_24 rfl (lv_at hl 0 rfl) ?_
      refine lv_bipush (v := iv 6) hx hb dX7_countChild_25 (by decide) ?_
      refine p_X7_69 Cx hW hL (k := 119) (by decide) rfl dX7_countChild_27 (fun H locs hW hL => ?_)
      have F_25 : Fr S (uF S 119 9 6) (p1 119) := (Fr.rf : Fr S S (p1 119)).F rfl
      have i_26 : cX G (uF S 119 9 6) 0 0 0 := hI.status ⟨by omega, by omega⟩ (by omega)
      refine lv_iconst (v := iv 0) hx hb dX7_countChild_30 (by decide) ?_
      have lk_27 : (uF S 119 9 6).1 119 9 = 6 := uF_on
      have q_28 : 0 ≤ S.1 119 11 ∧ S.1 119 11 ≤ 1000 := hI.fi 119 11 7 (by decide) rfl
      have lk_29 : (uF S 119 9 6).1 119 11 = S.1 119 11 := uF_ne (fun h => absurd h.2 (by decide))
      have q_30 : 0 ≤ S.1 119 14 ∧ S.1 119 14 ≤ 3 := hI.fi 119 14 7 (by decide) rfl
      have lk_31 : (uF S 119 9 6).1 119 14 = S.1 119 14 := uF_ne (fun h => absurd h.2 (by decide))
      have q_32 : 0 ≤ S.1 119 15 ∧ S.1 119 15 ≤ 6 := hI.fi 119 15 7 (by decide) rfl
      have lk_33 : (uF S 119 9 6).1 119 15 = S.1 119 15 := uF_ne (fun h => absurd h.2 (by decide))
      have q_34 : 0 ≤ S.1 119 8 ∧ S.1 119 8 ≤ 20 := hI.fi 119 8 7 (by decide) rfl
      have lk_35 : (uF S 119 9 6).1 119 8 = S.1 119 8 := uF_ne (fun h => absurd h.2 (by decide))
      have q_36 : (-2147483648) ≤ S.1 119 10 ∧ S.1 119 10 ≤ 2147483647 := hI.fi 119 10 7 (by decide) rfl
      have lk_37 : (uF S 119 9 6).1 119 10 = S.1 119 10 := uF_ne (fun h => absurd h.2 (by decide))
      have q_38 : (-2147483648) ≤ S.1 119 12 ∧ S.1 119 12 ≤ 2147483647 := hI.fi 119 12 7 (by decide) rfl
      have lk_39 : (uF S 119 9 6).1 119 12 = S.1 119 12 := uF_ne (fun h => absurd h.2 (by decide))
      have q_40 : (-2147483648) ≤ S.1 119 13 ∧ S.1 119 13 ≤ 2147483647 := hI.fi 119 13 7 (by decide) rfl
      have lk_41 : (uF S 119 9 6).1 119 13 = S.1 119 13 := uF_ne (fun h => absurd h.2 (by decide))
      have q_42 : (-1) ≤ S.1 119 16 ∧ S.1 119 16 ≤ 40 := hI.fi 119 16 7 (by decide) rfl
      have lk_43 : (uF S 119 9 6).1 119 16 = S.1 119 16 := uF_ne (fun h => absurd h.2 (by decide))
      exact sZret Cx hr hlk hW hL (by omega) ⟨i_26, F_25, ⟨by omega, by omega, (by have y := xu_1.2.2; refine ⟨fun q => absurd q (by omega), fun q => by have q1 := q.1; have q2 := q.2; have : ¬ _ := fun z => q1 (y.mp z); omega⟩), (fun q => absurd q (by omega)), (fun _ => by omega), by omega, (fun i => uF_r)⟩⟩ dX7_countChild_31
    · refine lv_aload_n hx hb dX7_countChild_14 rfl (lv_at hl 0 rfl) ?_
      have q_44 : 0 ≤ S.1 119 11 ∧ S.1 119 11 ≤ 1000 := hI.fi 119 11 7 (by decide) rfl
      refine g_X7_75 Cx hW (k := 119) (by decide) rfl (v := S.1 119 11) rfl dX7_countChild_15 ?_
      refine lv_sipush (v := iv 1000) hx hb dX7_countChild_18 (by decide) ?_
      refine r_icmp_lt (tgt := 32) hx hb ⟨(by omega), (by omega)⟩ ⟨(by omega), (by omega)⟩ dX7_countChild_21 (by decide) (fun c_45 => ?_) (fun c_45 => ?_)
      · refine lv_aload_n hx hb dX7_countChild_32 rfl (lv_at hl 0 rfl) ?_
        refine lv_dup hx hb dX7_countChild_33 rfl ?_
        refine g_X7_75 Cx hW (k := 119) (by decide) rfl (v := S.1 119 11) rfl dX7_countChild_34 ?_
        refine lv_iconst (v := iv 1) hx hb dX7_countChild_37 (by decide) ?_
        refine r_iadd hx hb dX7_countChild_38 ?_
        refine p_X7_75 Cx hW hL (k := 119) (by decide) rfl dX7_countChild_39 (fun H locs hW hL => ?_)
        have F_46 : Fr S (uF S 119 11 ((S.1 119 11) + 1)) (p1 119) := (Fr.rf : Fr S S (p1 119)).F rfl
        have i_47 : cX G (uF S 119 11 ((S.1 119 11) + 1)) 0 0 0 := hI.F rfl rfl (show 0 ≤ (S.1 119 11) + 1 ∧ (S.1 119 11) + 1 ≤ 1000 from ⟨by omega, by omega⟩)
        refine lv_aload_n hx hb dX7_countChild_42 rfl (lv_at hl 0 rfl) ?_
        refine lv_iconst (v := iv 3) hx hb dX7_countChild_43 (by decide) ?_
        refine p_X7_88 Cx hW hL (k := 119) (by decide) rfl dX7_countChild_44 (fun H locs hW hL => ?_)
        have F_48 : Fr S (uF (uF S 119 11 ((S.1 119 11) + 1)) 119 14 3) (p1 119) := F_46.F rfl
        have i_49 : cX G (uF (uF S 119 11 ((S.1 119 11) + 1)) 119 14 3) 0 0 0 := i_47.F rfl rfl (show 0 ≤ 3 ∧ 3 ≤ 3 from ⟨by omega, by omega⟩)
        refine lv_aload_n hx hb dX7_countChild_47 rfl (lv_at hl 0 rfl) ?_
        refine lv_iconst (v := iv 0) hx hb dX7_countChild_48 (by decide) ?_
        refine p_X7_91 Cx hW hL (k := 119) (by decide) rfl dX7_countChild_49 (fun H locs hW hL => ?_)
        have F_50 : Fr S (uF (uF (uF S 119 11 ((S.1 119 11) + 1)) 119 14 3) 119 15 0) (p1 119) := F_48.F rfl
        have i_51 : cX G (uF (uF (uF S 119 11 ((S.1 119 11) + 1)) 119 14 3) 119 15 0) 0 0 0 := i_49.F rfl rfl (show 0 ≤ 0 ∧ 0 ≤ 6 from ⟨by omega, by omega⟩)
        refine lv_iconst (v := iv 1) hx hb dX7_countChild_52 (by decide) ?_
        have q_52 : 0 ≤ S.1 119 9 ∧ S.1 119 9 ≤ 6 := hI.fi 119 9 7 (by decide) rfl
        have lk_53 : (uF (uF (uF S 119 11 ((S.1 119 11) + 1)) 119 14 3) 119 15 0).1 119 9 = S.1 119 9 := (uF_ne (fun h => absurd h.2 (by decide))).trans ((uF_ne (fun h => absurd h.2 (by decide))).trans (uF_ne (fun h => absurd h.2 (by decide))))
        have lk_54 : (uF (uF (uF S 119 11 ((S.1 119 11) + 1)) 119 14 3) 119 15 0).1 119 11 = (S.1 119 11) + 1 := (uF_ne (fun h => absurd h.2 (by decide))).trans ((uF_ne (fun h => absurd h.2 (by decide))).trans (uF_on))
        have lk_55 : (uF (uF (uF S 119 11 ((S.1 119 11) + 1)) 119 14 3) 119 15 0).1 119 14 = 3 := (uF_ne (fun h => absurd h.2 (by decide))).trans (uF_on)
        have lk_56 : (uF (uF (uF S 119 11 ((S.1 119 11) + 1)) 119 14 3) 119 15 0).1 119 15 = 0 := uF_on
        have q_57 : 0 ≤ S.1 119 8 ∧ S.1 119 8 ≤ 20 := hI.fi 119 8 7 (by decide) rfl
        have lk_58 : (uF (uF (uF S 119 11 ((S.1 119 11) + 1)) 119 14 3) 119 15 0).1 119 8 = S.1 119 8 := (uF_ne (fun h => absurd h.2 (by decide))).trans ((uF_ne (fun h => absurd h.2 (by decide))).trans (uF_ne (fun h => absurd h.2 (by decide))))
        have q_59 : (-2147483648) ≤ S.1 119 10 ∧ S.1 119 10 ≤ 2147483647 := hI.fi 119 10 7 (by decide) rfl
        have lk_60 : (uF (uF (uF S 119 11 ((S.1 119 11) + 1)) 119 14 3) 119 15 0).1 119 10 = S.1 119 10 := (uF_ne (fun h => absurd h.2 (by decide))).trans ((uF_ne (fun h => absurd h.2 (by decide))).trans (uF_ne (fun h => absurd h.2 (by decide))))
        have q_61 : (-2147483648) ≤ S.1 119 12 ∧ S.1 119 12 ≤ 2147483647 := hI.fi 119 12 7 (by decide) rfl
        have lk_62 : (uF (uF (uF S 119 11 ((S.1 119 11) + 1)) 119 14 3) 119 15 0).1 119 12 = S.1 119 12 := (uF_ne (fun h => absurd h.2 (by decide))).trans ((uF_ne (fun h => absurd h.2 (by decide))).trans (uF_ne (fun h => absurd h.2 (by decide))))
        have q_63 : (-2147483648) ≤ S.1 119 13 ∧ S.1 119 13 ≤ 2147483647 := hI.fi 119 13 7 (by decide) rfl
        have lk_64 : (uF (uF (uF S 119 11 ((S.1 119 11) + 1)) 119 14 3) 119 15 0).1 119 13 = S.1 119 13 := (uF_ne (fun h => absurd h.2 (by decide))).trans ((uF_ne (fun h => absurd h.2 (by decide))).trans (uF_ne (fun h => absurd h.2 (by decide))))
        have q_65 : (-1) ≤ S.1 119 16 ∧ S.1 119 16 ≤ 40 := hI.fi 119 16 7 (by decide) rfl
        have lk_66 : (uF (uF (uF S 119 11 ((S.1 119 11) + 1)) 119 14 3) 119 15 0).1 119 16 = S.1 119 16 := (uF_ne (fun h => absurd h.2 (by decide))).trans ((uF_ne (fun h => absurd h.2 (by decide))).trans (uF_ne (fun h => absurd h.2 (by decide))))
        exact sZret Cx hr hlk hW hL (by omega) ⟨i_51, F_50, ⟨by omega, by omega, (by have y := xu_1.2.2; refine ⟨fun _ => ⟨fun z => by have := y.mpr z; omega, by omega, by omega⟩, fun _ => rfl⟩), (fun _ => by omega), (fun q => absurd q (by omega)), by omega, (fun i => uF_r.trans (uF_r.trans (uF_r)))⟩⟩ dX7_countChild_53
      · refine lv_aload_n hx hb dX7_countChild_24 rfl (lv_at hl 0 rfl) ?_
        refine lv_bipush (v := iv 6) hx hb dX7_countChild_25 (by decide) ?_
        refine p_X7_69 Cx hW hL (k := 119) (by decide) rfl dX7_countChild_27 (fun H locs hW hL => ?_)
        have F_67 : Fr S (uF S 119 9 6) (p1 119) := (Fr.rf : Fr S S (p1 119)).F rfl
        have i_68 : cX G (uF S 119 9 6) 0 0 0 := hI.status ⟨by omega, by omega⟩ (by omega)
        refine lv_iconst (v := iv 0) hx hb dX7_countChild_30 (by decide) ?_
        have lk_69 : (uF S 119 9 6).1 119 9 = 6 := uF_on
        have lk_70 : (uF S 119 9 6).1 119 11 = S.1 119 11 := uF_ne (fun h => absurd h.2 (by decide))
        have q_71 : 0 ≤ S.1 119 14 ∧ S.1 119 14 ≤ 3 := hI.fi 119 14 7 (by decide) rfl
        have lk_72 : (uF S 119 9 6).1 119 14 = S.1 119 14 := uF_ne (fun h => absurd h.2 (by decide))
        have q_73 : 0 ≤ S.1 119 15 ∧ S.1 119 15 ≤ 6 := hI.fi 119 15 7 (by decide) rfl
        have lk_74 : (uF S 119 9 6).1 119 15 = S.1 119 15 := uF_ne (fun h => absurd h.2 (by decide))
        have q_75 : 0 ≤ S.1 119 8 ∧ S.1 119 8 ≤ 20 := hI.fi 119 8 7 (by decide) rfl
        have lk_76 : (uF S 119 9 6).1 119 8 = S.1 119 8 := uF_ne (fun h => absurd h.2 (by decide))
        have q_77 : (-2147483648) ≤ S.1 119 10 ∧ S.1 119 10 ≤ 2147483647 := hI.fi 119 10 7 (by decide) rfl
        have lk_78 : (uF S 119 9 6).1 119 10 = S.1 119 10 := uF_ne (fun h => absurd h.2 (by decide))
        have q_79 : (-2147483648) ≤ S.1 119 12 ∧ S.1 119 12 ≤ 2147483647 := hI.fi 119 12 7 (by decide) rfl
        have lk_80 : (uF S 119 9 6).1 119 12 = S.1 119 12 := uF_ne (fun h => absurd h.2 (by decide))
        have q_81 : (-2147483648) ≤ S.1 119 13 ∧ S.1 119 13 ≤ 2147483647 := hI.fi 119 13 7 (by decide) rfl
        have lk_82 : (uF S 119 9 6).1 119 13 = S.1 119 13 := uF_ne (fun h => absurd h.2 (by decide))
        have q_83 : (-1) ≤ S.1 119 16 ∧ S.1 119 16 ≤ 40 := hI.fi 119 16 7 (by decide) rfl
        have lk_84 : (uF S 119 9 6).1 119 16 = S.1 119 16 := uF_ne (fun h => absurd h.2 (by decide))
        exact sZret Cx hr hlk hW hL (by omega) ⟨i_68, F_67, ⟨by omega, by omega, (by have y := xu_1.2.2; refine ⟨fun q => absurd q (by omega), fun q => by have q1 := q.1; have q2 := q.2; have : ¬ _ := fun z => q1 (y.mp z); omega⟩), (fun q => absurd q (by omega)), (fun _ => by omega), by omega, (fun i => uF_r)⟩⟩ dX7_countChild_31

set_option maxRecDepth 100000 in
set_option maxHeartbeats 4000000 in
theorem v_X7_cut (l : Launch) (G : sG) (S : sS) {oc od md : Nat} {n mm mx al : Int} {A : Int → Int → Int} {wh : Int → Int} {RR : Int → Int → Int} {Wm : wT} (hI : cX G S 0 0 0) (hmo : mdl md) (hSR : Hd (SRq G S oc od md n mm mx al A wh RR Wm)) (hIv : Hd (Iv (KKm n A wh al) Wm ∧ Iw Wm)) (hn12 : 0 ≤ n ∧ n ≤ 12 ∧ 0 ≤ al ∧ al ≤ 20) (hst : Wm.2.1 0 = 1) (hnx : Wm.2.1 1 = 4) : Met l yX7_cut (.code yX7_cut cX7_cut 1 none :: tb) (rmk 8 0 0) (sPc G 294 S [.ref (G.2.2.1 + 119)]) (sQv G 294 (fun u => cX G u 0 0 0 ∧ Fr S u pSr ∧ (Hd (u.1 119 9 = (stp (KKm n A wh al) Wm).2.1 0) ∧ Hd ((stp (KKm n A wh al) Wm).2.1 0 ≤ 4 → ∃ RR, SRq G u oc od md n mm mx al A wh RR (stp (KKm n A wh al) Wm))))) 0 0 (sF G) := by
  refine sEnter (by decide) (Nat.le_of_ble_eq_true rfl) ?_
  intro p e s m args below meth c Cx hr hlk hnm hW ls hl
  have Cx : sC G p m c cX7_cut 1 s args RX7 := Cx
  obtain ⟨hx, hb, hml, hown, hts⟩ := id Cx.1
  have hL : sL G [] := sL_nil
  have hl : lv_has ls 1 [(0, .ref (G.2.2.1 + 119))] := hl
  have hW0 := hW
  obtain ⟨hdq, hDR, hKS, hT, hRW, hRB, ⟨hmr, hMD⟩, hBP, hCR⟩ := id hSR
  obtain ⟨k8, k9, k10, k11, k12, k13, k14, k15, k16, k17, k18⟩ := id hCR
  have hiv := hIv.1; have hiw := hIv.2.b; have hiw2 := hIv.2.2.1; have hiw3 := hIv.2.2.2; have hOK := hiv.1; have hok1 := hOK.1; have hok2 := hOK.2.1; have hDp := hOK.2.2.1; have hcn := hiv.2.1; have hmd1 := hMD.1; have hmd2 := hMD.2.1
  obtain ⟨hoc, hod, hcd, hec, hed⟩ := id hdq
  have hd13 := hDR.2.2.2.2.1; have hd14 := hDR.2.2.2.2.2.1; have hd15 := hDR.2.2.2.2.2.2.1; have hd16 := hDR.2.2.2.2.2.2.2; have hm40 : 0 ≤ S.1 135 14 ∧ S.1 135 14 ≤ 40 := hI.fi 135 14 2 (by decide) rfl; have hp13 : 0 ≤ S.1 135 15 ∧ S.1 135 15 ≤ 13 := hI.fi 135 15 2 (by decide) rfl
  have h45 := Iv.n45 hiv.2.2.2.1 (by omega); have h45a := h45.1; have h45b := h45.2.1; have h45c := h45.2.2.1; have hw0 : hwS Wm = 0 := hw_0 h45a
  have h7a : Wm.2.1 7 < al := (h45.2.2.2.mp hnx).2
  refine lv_aload_n hx hb dX7_cut_0 rfl (lv_at hl 0 rfl) ?_
  refine g_X7_28 Cx hW (k := 119) (by decide) rfl (v := .ref (G.2.2.1 + 157)) (rf_119_2 hI) dX7_cut_1 ?_
  refine lv_aload_n hx hb dX7_cut_4 rfl (lv_at hl 0 rfl) ?_
  refine g_X7_21 Cx hW (k := 119) (by decide) rfl (v := .ref (G.2.2.1 + 135)) (rf_119_1 hI) dX7_cut_5 ?_
  refine lv_aload_n hx hb dX7_cut_8 rfl (lv_at hl 0 rfl) ?_
  refine g_X7_51 Cx hW (k := 119) (by decide) rfl (v := .ref (G.2.2.1 + md)) hmr dX7_cut_9 ?_
  have q_1 : 0 ≤ S.1 md 2 ∧ S.1 md 2 ≤ 12 := hI.fi md 2 3 (mdl_k hmo) hmo.1
  refine g_X7_110 Cx hW (k := md) (mdl_l hmo) hmo.1 (v := S.1 md 2) rfl dX7_cut_12 ?_
  refine lv_aload_n hx hb dX7_cut_15 rfl (lv_at hl 0 rfl) ?_
  have q_2 : (-1) ≤ S.1 119 16 ∧ S.1 119 16 ≤ 40 := hI.fi 119 16 7 (by decide) rfl
  refine g_X7_190 Cx hW (k := 119) (by decide) rfl (v := S.1 119 16) rfl dX7_cut_16 ?_
  refine lv_aload_n hx hb dX7_cut_19 rfl (lv_at hl 0 rfl) ?_
  refine g_X7_12 Cx hW (k := 119) (by decide) rfl (v := .ref (G.2.2.1 + 120)) (rf_119_0 hI) dX7_cut_20 ?_
  refine sBv (sV (As := [.ref (G.2.2.1 + 135), .int (iv (S.1 md 2)), .int (iv (S.1 119 16)), .ref (G.2.2.1 + 120)]) (rest := []) (k := 157) Cx (v_X5_writeCut l G S (vs := S.1 md 2) (so := S.1 119 16) (oc := oc) (od := od) (n := n) (hw := (hwS Wm)) (d := Wm.1) (L := Wm.2.2.1) hI ⟨hoc, hod, (neD hcd), hec, hed⟩ hDR hT (by omega) (by omega) (by omega)) (c_X7_251 Cx rfl rfl (rmk_ok (by omega) (by decide))) hW (by decide) rfl rfl rfl hl.1 rfl (Nat.le_of_ble_eq_true rfl) dX7_cut_23 ⟨Nat.le_of_ble_eq_true rfl, Nat.le_of_ble_eq_true rfl⟩) hL (fun u_3 H locs k_4 hW hL => ?_)
  obtain ⟨iu_3, fu_3, xu_3⟩ := k_4
  have F_5 := (Fr.rf : Fr S S pSr).trans (fu_3.to pWc_Sr)
  refine lv_aload_n hx hb dX7_cut_26 rfl (lv_at hl 0 rfl) ?_
  refine lv_aload_n hx hb dX7_cut_27 rfl (lv_at hl 0 rfl) ?_
  refine g_X7_12 Cx hW (k := 119) (by decide) rfl (v := .ref (G.2.2.1 + 120)) (rf_119_0 iu_3) dX7_cut_28 ?_
  have q_6 : 0 ≤ S.1 120 9 ∧ S.1 120 9 ≤ 40 := hI.fi 120 9 6 (by decide) rfl
  have lk_7 : u_3.1 120 9 = S.1 120 9 := (fu_3 120 rfl).1 9
  refine sBi (sV (As := []) (rest := [.ref (G.2.2.1 + 119)]) (k := 120) Cx (s_X6_isFull_120 l G u_3  iu_3) (c_X7_255 Cx rfl rfl (rmk_ok (by omega) (by decide))) hW (by decide) rfl rfl rfl hl.1 rfl (Nat.le_of_ble_eq_true rfl) dX7_cut_31 ⟨Nat.le_of_ble_eq_true rfl, Nat.le_of_ble_eq_true rfl⟩) hL (fun r_10 u_8 H locs k_9 hW hL => ?_)
  obtain ⟨eu_8, xu_8⟩ := k_9
  rw [eu_8] at hW
  refine r_if_ne (tgt := 41) hx hb ⟨(by omega), (by omega)⟩ dX7_cut_34 (by decide) (fun c_11 => ?_) (fun c_11 => ?_)
  · refine lv_iconst (v := iv 0) hx hb dX7_cut_41 (by decide) ?_
    have q_12 : 0 ≤ S.1 119 11 ∧ S.1 119 11 ≤ 1000 := hI.fi 119 11 7 (by decide) rfl
    have lk_13 : u_3.1 119 11 = S.1 119 11 := (fu_3 119 rfl).1 11
    have q_14 : 0 ≤ S.1 119 9 ∧ S.1 119 9 ≤ 6 := hI.fi 119 9 7 (by decide) rfl
    have lk_15 : u_3.1 119 9 = S.1 119 9 := (fu_3 119 rfl).1 9
    have q_16 : 0 ≤ S.1 119 8 ∧ S.1 119 8 ≤ 20 := hI.fi 119 8 7 (by decide) rfl
    have lk_17 : u_3.1 119 8 = S.1 119 8 := (fu_3 119 rfl).1 8
    have q_18 : (-2147483648) ≤ S.1 119 10 ∧ S.1 119 10 ≤ 2147483647 := hI.fi 119 10 7 (by decide) rfl
    have lk_19 : u_3.1 119 10 = S.1 119 10 := (fu_3 119 rfl).1 10
    have q_20 : (-2147483648) ≤ S.1 119 12 ∧ S.1 119 12 ≤ 2147483647 := hI.fi 119 12 7 (by decide) rfl
    have lk_21 : u_3.1 119 12 = S.1 119 12 := (fu_3 119 rfl).1 12
    have q_22 : (-2147483648) ≤ S.1 119 13 ∧ S.1 119 13 ≤ 2147483647 := hI.fi 119 13 7 (by decide) rfl
    have lk_23 : u_3.1 119 13 = S.1 119 13 := (fu_3 119 rfl).1 13
    have lk_24 : u_3.1 119 16 = S.1 119 16 := (fu_3 119 rfl).1 16
    refine sBi (sV (As := [.int (iv 0)]) (rest := []) (k := 119) Cx (v_X7_countChild l G u_3 (hro := 0) (L := (cuT n Wm.1 (S.1 119 16) Wm.2.2.1)) iu_3 xu_3.1 (by omega)) (c_X7_258 Cx rfl rfl (rmk_ok (by omega) (by decide))) hW (by decide) rfl rfl rfl hl.1 rfl (Nat.le_of_ble_eq_true rfl) dX7_cut_42 ⟨Nat.le_of_ble_eq_true rfl, Nat.le_of_ble_eq_true rfl⟩) hL (fun r_27 u_25 H locs k_26 hW hL => ?_)
    obtain ⟨iu_25, fu_25, xu_25⟩ := k_26
    have F_28 := F_5.trans (fu_25.to p1119_Sr)
    have hl9 : u_3.1 120 9 = S.1 120 9 := (fu_3 120 rfl).1 9
    have hl9b := hRW.2.1
    refine r_if_ne (tgt := 49) hx hb ⟨(by omega), (by omega)⟩ dX7_cut_45 (by decide) (fun c_29 => ?_) (fun c_29 => ?_)
    · refine lv_aload_n hx hb dX7_cut_49 rfl (lv_at hl 0 rfl) ?_
      refine lv_dup hx hb dX7_cut_50 rfl ?_
      have q_30 : (-2147483648) ≤ u_25.1 119 13 ∧ u_25.1 119 13 ≤ 2147483647 := iu_25.fi 119 13 7 (by decide) rfl
      refine g_X7_81 Cx hW (k := 119) (by decide) rfl (v := u_25.1 119 13) rfl dX7_cut_51 ?_
      refine lv_iconst (v := iv 1) hx hb dX7_cut_54 (by decide) ?_
      refine r_iadd hx hb dX7_cut_55 ?_
      refine p_X7_81 Cx hW hL (k := 119) (by decide) rfl dX7_cut_56 (fun H locs hW hL => ?_)
      have F_31 : Fr S (uF u_25 119 13 ((u_25.1 119 13) + 1)) pSr := F_28.F rfl
      have i_32 : cX G (uF u_25 119 13 ((u_25.1 119 13) + 1)) 0 0 0 := iu_25.F rfl rfl (show (-2147483648) ≤ (u_25.1 119 13) + 1 ∧ (u_25.1 119 13) + 1 ≤ 2147483647 from ⟨by omega, by omega⟩)
      refine lv_aload_n hx hb dX7_cut_59 rfl (lv_at hl 0 rfl) ?_
      refine g_X7_21 Cx hW (k := 119) (by decide) rfl (v := .ref (G.2.2.1 + 135)) (rf_119_1 i_32) dX7_cut_60 ?_
      refine lv_aload_n hx hb dX7_cut_63 rfl (lv_at hl 0 rfl) ?_
      refine g_X7_45 Cx hW (k := 119) (by decide) rfl (v := .ref (G.2.2.1 + 183)) (rf_119_6 i_32) dX7_cut_64 ?_
      refine sBv (sV (As := [.ref (G.2.2.1 + 183)]) (rest := []) (k := 135) Cx (v_X2_denominator l G (uF u_25 119 13 ((u_25.1 119 13) + 1)) (v := 183) (oc := oc) (od := od) (n := n) (hw := (hwS Wm)) (d := Wm.1) i_32 ⟨hoc, hod, (neD hcd), (((uF_r).trans (((fu_25 135 rfl).2.2.2 0).trans ((fu_3 135 rfl).2.2.2 0))).trans hec), (((uF_r).trans (((fu_25 135 rfl).2.2.2 1).trans ((fu_3 135 rfl).2.2.2 1))).trans hed)⟩ (DRc.of hDR (show (uF u_25 119 13 ((u_25.1 119 13) + 1)).1 135 13 = S.1 135 13 from (uF_ne (fun h => absurd h.1 (by decide))).trans (((fu_25 135 rfl).1 13).trans ((fu_3 135 rfl).1 13))) (show (uF u_25 119 13 ((u_25.1 119 13) + 1)).1 135 14 = S.1 135 14 from (uF_ne (fun h => absurd h.2 (by decide))).trans (((fu_25 135 rfl).1 14).trans ((fu_3 135 rfl).1 14))) (show (uF u_25 119 13 ((u_25.1 119 13) + 1)).1 135 15 = S.1 135 15 from (uF_ne (fun h => absurd h.2 (by decide))).trans (((fu_25 135 rfl).1 15).trans ((fu_3 135 rfl).1 15))) (show (uF u_25 119 13 ((u_25.1 119 13) + 1)).1 135 16 = S.1 135 16 from (uF_ne (fun h => absurd h.2 (by decide))).trans (((fu_25 135 rfl).1 16).trans ((fu_3 135 rfl).1 16))) (show (uF u_25 119 13 ((u_25.1 119 13) + 1)).2.1 oc = S.2.1 oc from funext fun x => (uF_a).trans (((fu_25 oc (dic_p119 hoc)).2.1 x).trans ((fu_3 oc (dic_pWc hoc)).2.1 x))) (show (uF u_25 119 13 ((u_25.1 119 13) + 1)).2.1 138 = S.2.1 138 from funext fun x => (uF_a).trans (((fu_25 138 rfl).2.1 x).trans ((fu_3 138 rfl).2.1 x))) (show (uF u_25 119 13 ((u_25.1 119 13) + 1)).2.1 139 = S.2.1 139 from funext fun x => (uF_a).trans (((fu_25 139 rfl).2.1 x).trans ((fu_3 139 rfl).2.1 x)))) rfl) (c_X7_117 Cx rfl rfl (rmk_ok (by omega) (by decide))) hW (by decide) rfl rfl rfl hl.1 rfl (Nat.le_of_ble_eq_true rfl) dX7_cut_67 ⟨Nat.le_of_ble_eq_true rfl, Nat.le_of_ble_eq_true rfl⟩) hL (fun u_33 H locs k_34 hW hL => ?_)
      obtain ⟨iu_33, fu_33, xu_33⟩ := k_34
      have F_35 := F_31.trans (fu_33.to (pB_sub rfl rfl))
      have bv_36 : bv u_33 183 = Wm.1.1 := xu_33.2.2.2.1.1
      refine lv_aload_n hx hb dX7_cut_70 rfl (lv_at hl 0 rfl) ?_
      refine g_X7_12 Cx hW (k := 119) (by decide) rfl (v := .ref (G.2.2.1 + 120)) (rf_119_0 iu_33) dX7_cut_71 ?_
      refine lv_aload_n hx hb dX7_cut_74 rfl (lv_at hl 0 rfl) ?_
      refine g_X7_45 Cx hW (k := 119) (by decide) rfl (v := .ref (G.2.2.1 + 183)) (rf_119_6 iu_33) dX7_cut_75 ?_
      have q_37 : 0 ≤ u_33.1 183 1 ∧ u_33.1 183 1 ≤ 32 := iu_33.fi 183 1 0 (by decide) rfl
      have q_38 : (-1) ≤ u_33.1 183 2 ∧ u_33.1 183 2 ≤ 1 := iu_33.fi 183 2 0 (by decide) rfl
      refine sBi (sV (As := [.ref (G.2.2.1 + 183)]) (rest := []) (k := 120) Cx (z_X6_addCut_120 l G u_33 (n := n) (cc := Wm.1.2.2.2.2.1) (RR := RR) (ff := (fun i => if 1 ≤ i ∧ i < (Wm.1.2.2.2.2.1 + 1) then mlt Wm.1 (S.1 119 16) (n + i) % Wm.1.1 else 0)) iu_33 (by omega) (RWz.of hRW (show u_33.1 120 8 = S.1 120 8 from ((fu_33 120 rfl).1 8).trans ((uF_ne (fun h => absurd h.2 (by decide))).trans (((fu_25 120 rfl).1 8).trans ((fu_3 120 rfl).1 8)))) (show u_33.1 120 9 = S.1 120 9 from ((fu_33 120 rfl).1 9).trans ((uF_ne (fun h => absurd h.2 (by decide))).trans (((fu_25 120 rfl).1 9).trans ((fu_3 120 rfl).1 9)))) (show u_33.2.1 121 = S.2.1 121 from funext fun x => ((fu_33 121 rfl).2.1 x).trans ((uF_a).trans (((fu_25 121 rfl).2.1 x).trans ((fu_3 121 rfl).2.1 x))))) (FCz.of xu_3.2 (show u_33.2.1 122 = u_3.2.1 122 from funext fun x => ((fu_33 122 rfl).2.1 x).trans ((uF_a).trans ((fu_25 122 rfl).2.1 x)))) (show Hd (bs u_33 183) from xu_33.2.2.2.1.2) (by omega)) (c_X7_262 Cx rfl rfl (rmk_ok (by omega) (by decide))) hW (by decide) rfl rfl rfl hl.1 rfl (Nat.le_of_ble_eq_true rfl) dX7_cut_78 ⟨Nat.le_of_ble_eq_true rfl, Nat.le_of_ble_eq_true rfl⟩) hL (fun r_41 u_39 H locs k_40 hW hL => ?_)
      obtain ⟨iu_39, fu_39, xu_39⟩ := k_40
      have F_42 := F_35.trans (fu_39.to pRz_Sr)
      have hcb := RBd.cut (D := Wm.1.1) (ff := (fun i => if 1 ≤ i ∧ i < (Wm.1.2.2.2.2.1 + 1) then mlt Wm.1 (S.1 119 16) (n + i) % Wm.1.1 else 0)) hRB (h45.2.2.2.mp hnx) (by omega) (show al ≤ 20 by omega) hDp (by omega) (fun k k0 k1 => by (try simp only []); rw [if_pos (show 1 ≤ k ∧ k < (Wm.1.2.2.2.2.1 + 1) by omega)]; exact emod_r hDp)
      have hr1 : r_41 = 1 := by rcases (by omega : r_41 = 0 ∨ r_41 = 1) with z | z; (exfalso; rcases xu_39.2.2.2 z with q | ⟨j, j0, j1, q⟩; omega; (rw [(show bv u_33 183 = Wm.1.1 from bv_36)] at q; exact hcb.1 j j0 j1 q)); exact z
      have hrw := (xu_39.2.2.1 hr1).2.1; rw [(show bv u_33 183 = Wm.1.1 from bv_36)] at hrw
      refine lv_pop hx hb dX7_cut_81 rfl ?_
      refine lv_aload_n hx hb dX7_cut_82 rfl (lv_at hl 0 rfl) ?_
      refine g_X7_21 Cx hW (k := 119) (by decide) rfl (v := .ref (G.2.2.1 + 135)) (rf_119_1 iu_39) dX7_cut_83 ?_
      refine lv_aload_n hx hb dX7_cut_86 rfl (lv_at hl 0 rfl) ?_
      have q_43 : (-1) ≤ u_25.1 119 16 ∧ u_25.1 119 16 ≤ 40 := iu_25.fi 119 16 7 (by decide) rfl
      refine g_X7_190 Cx hW (k := 119) (by decide) rfl (v := u_25.1 119 16) (((fu_39 119 rfl).1 16).trans (((fu_33 119 rfl).1 16).trans (uF_ne (fun h => absurd h.2 (by decide))))) dX7_cut_87 ?_
      have q_44 : 0 ≤ S.1 135 19 ∧ S.1 135 19 ≤ 102220 := hI.fi 135 19 2 (by decide) rfl
      have lk_45 : u_39.1 135 19 = S.1 135 19 := ((fu_39 135 rfl).1 19).trans (((fu_33 135 rfl).1 19).trans ((uF_ne (fun h => absurd h.2 (by decide))).trans (((fu_25 135 rfl).1 19).trans ((fu_3 135 rfl).1 19))))
      refine sBv (sV (As := [.int (iv (u_25.1 119 16))]) (rest := []) (k := 135) Cx (v_X2_addCut l G u_39 (rr := u_25.1 119 16) (oc := oc) (od := od) (n := n) (hw := (hwS Wm)) (d := Wm.1) iu_39 ⟨hoc, hod, (neD hcd), ((((fu_39 135 rfl).2.2.2 0).trans (((fu_33 135 rfl).2.2.2 0).trans ((uF_r).trans (((fu_25 135 rfl).2.2.2 0).trans ((fu_3 135 rfl).2.2.2 0))))).trans hec), ((((fu_39 135 rfl).2.2.2 1).trans (((fu_33 135 rfl).2.2.2 1).trans ((uF_r).trans (((fu_25 135 rfl).2.2.2 1).trans ((fu_3 135 rfl).2.2.2 1))))).trans hed)⟩ (DRc.of hDR (show u_39.1 135 13 = S.1 135 13 from ((fu_39 135 rfl).1 13).trans (((fu_33 135 rfl).1 13).trans ((uF_ne (fun h => absurd h.1 (by decide))).trans (((fu_25 135 rfl).1 13).trans ((fu_3 135 rfl).1 13))))) (show u_39.1 135 14 = S.1 135 14 from ((fu_39 135 rfl).1 14).trans (((fu_33 135 rfl).1 14).trans ((uF_ne (fun h => absurd h.2 (by decide))).trans (((fu_25 135 rfl).1 14).trans ((fu_3 135 rfl).1 14))))) (show u_39.1 135 15 = S.1 135 15 from ((fu_39 135 rfl).1 15).trans (((fu_33 135 rfl).1 15).trans ((uF_ne (fun h => absurd h.2 (by decide))).trans (((fu_25 135 rfl).1 15).trans ((fu_3 135 rfl).1 15))))) (show u_39.1 135 16 = S.1 135 16 from ((fu_39 135 rfl).1 16).trans (((fu_33 135 rfl).1 16).trans ((uF_ne (fun h => absurd h.2 (by decide))).trans (((fu_25 135 rfl).1 16).trans ((fu_3 135 rfl).1 16))))) (show u_39.2.1 oc = S.2.1 oc from funext fun x => ((fu_39 oc (dic_pRz hoc)).2.1 x).trans (((fu_33 oc (pB_no (tau_ne (dic_t hoc) (rfl : tau 183 = .inl 0) (fun h => by cases h)) (ac_ne (dic_c hoc) (rfl : acode 184 = 1) (by decide)))).2.1 x).trans ((uF_a).trans (((fu_25 oc (dic_p119 hoc)).2.1 x).trans ((fu_3 oc (dic_pWc hoc)).2.1 x))))) (show u_39.2.1 138 = S.2.1 138 from funext fun x => ((fu_39 138 rfl).2.1 x).trans (((fu_33 138 rfl).2.1 x).trans ((uF_a).trans (((fu_25 138 rfl).2.1 x).trans ((fu_3 138 rfl).2.1 x))))) (show u_39.2.1 139 = S.2.1 139 from funext fun x => ((fu_39 139 rfl).2.1 x).trans (((fu_33 139 rfl).2.1 x).trans ((uF_a).trans (((fu_25 139 rfl).2.1 x).trans ((fu_3 139 rfl).2.1 x)))))) (by omega) (by omega)) (c_X7_266 Cx rfl rfl (rmk_ok (by omega) (by decide))) hW (by decide) rfl rfl rfl hl.1 rfl (Nat.le_of_ble_eq_true rfl) dX7_cut_90 ⟨Nat.le_of_ble_eq_true rfl, Nat.le_of_ble_eq_true rfl⟩) hL (fun u_46 H locs k_47 hW hL => ?_)
      obtain ⟨iu_46, fu_46, xu_46⟩ := k_47
      have F_48 := F_42.trans (fu_46.to pCx_Sr)
      have hda : dcs G u_46 oc od ∧ DRc u_46 oc n 0 (adR n Wm.1 (cuR Wm.1 (Wm.2.1 2))) := by have e := xu_46.1 (by omega); rw [show u_25.1 119 16 = Wm.2.1 2 by omega, hw0] at e; exact e
      have q_49 : 0 ≤ u_25.1 119 9 ∧ u_25.1 119 9 ≤ 6 := iu_25.fi 119 9 7 (by decide) rfl
      have lk_50 : u_46.1 119 9 = u_25.1 119 9 := ((fu_46 119 rfl).1 9).trans (((fu_39 119 rfl).1 9).trans (((fu_33 119 rfl).1 9).trans (uF_ne (fun h => absurd h.2 (by decide)))))
      have q_51 : 0 ≤ u_25.1 119 8 ∧ u_25.1 119 8 ≤ 20 := iu_25.fi 119 8 7 (by decide) rfl
      have lk_52 : u_46.1 119 8 = u_25.1 119 8 := ((fu_46 119 rfl).1 8).trans (((fu_39 119 rfl).1 8).trans (((fu_33 119 rfl).1 8).trans (uF_ne (fun h => absurd h.2 (by decide)))))
      have q_53 : (-2147483648) ≤ u_25.1 119 10 ∧ u_25.1 119 10 ≤ 2147483647 := iu_25.fi 119 10 7 (by decide) rfl
      have lk_54 : u_46.1 119 10 = u_25.1 119 10 := ((fu_46 119 rfl).1 10).trans (((fu_39 119 rfl).1 10).trans (((fu_33 119 rfl).1 10).trans (uF_ne (fun h => absurd h.2 (by decide)))))
      have q_55 : 0 ≤ u_25.1 119 11 ∧ u_25.1 119 11 ≤ 1000 := iu_25.fi 119 11 7 (by decide) rfl
      have lk_56 : u_46.1 119 11 = u_25.1 119 11 := ((fu_46 119 rfl).1 11).trans (((fu_39 119 rfl).1 11).trans (((fu_33 119 rfl).1 11).trans (uF_ne (fun h => absurd h.2 (by decide)))))
      have q_57 : (-2147483648) ≤ u_25.1 119 12 ∧ u_25.1 119 12 ≤ 2147483647 := iu_25.fi 119 12 7 (by decide) rfl
      have lk_58 : u_46.1 119 12 = u_25.1 119 12 := ((fu_46 119 rfl).1 12).trans (((fu_39 119 rfl).1 12).trans (((fu_33 119 rfl).1 12).trans (uF_ne (fun h => absurd h.2 (by decide)))))
      have lk_59 : u_46.1 119 13 = (u_25.1 119 13) + 1 := ((fu_46 119 rfl).1 13).trans (((fu_39 119 rfl).1 13).trans (((fu_33 119 rfl).1 13).trans (uF_on)))
      have q_60 : 0 ≤ u_25.1 119 14 ∧ u_25.1 119 14 ≤ 3 := iu_25.fi 119 14 7 (by decide) rfl
      have lk_61 : u_46.1 119 14 = u_25.1 119 14 := ((fu_46 119 rfl).1 14).trans (((fu_39 119 rfl).1 14).trans (((fu_33 119 rfl).1 14).trans (uF_ne (fun h => absurd h.2 (by decide)))))
      have q_62 : 0 ≤ u_25.1 119 15 ∧ u_25.1 119 15 ≤ 6 := iu_25.fi 119 15 7 (by decide) rfl
      have lk_63 : u_46.1 119 15 = u_25.1 119 15 := ((fu_46 119 rfl).1 15).trans (((fu_39 119 rfl).1 15).trans (((fu_33 119 rfl).1 15).trans (uF_ne (fun h => absurd h.2 (by decide)))))
      have lk_64 : u_46.1 119 16 = u_25.1 119 16 := ((fu_46 119 rfl).1 16).trans (((fu_39 119 rfl).1 16).trans (((fu_33 119 rfl).1 16).trans (uF_ne (fun h => absurd h.2 (by decide)))))
      have q_65 : (-1) ≤ u_46.1 135 17 ∧ u_46.1 135 17 ≤ 40 := iu_46.fi 135 17 2 (by decide) rfl
      have q_66 : (-1) ≤ u_46.1 135 18 ∧ u_46.1 135 18 ≤ 13 := iu_46.fi 135 18 2 (by decide) rfl
      exact sVret Cx hr hlk hW hL ⟨iu_46, F_48, (by rw [show (stp (KKm n A wh al) Wm) = (adR (KKm n A wh al).1 Wm.1 (cuR Wm.1 (Wm.2.1 2)), cu (chC Wm.2.1) 7 (Wm.2.1 7 + 1), (cuT (KKm n A wh al).1 Wm.1 (Wm.2.1 2) Wm.2.2.1), Wm.2.2.2) from ((stp_4 hnx).trans (cif_f (c := (30000 < (cuT (KKm n A wh al).1 Wm.1 (Wm.2.1 2) Wm.2.2.1).length ∨ 40 ≤ Wm.1.2.2.2.2.1 ∨ 1000 ≤ Wm.2.1 5)) (fun z => by have y := xu_25.2.2.1.mp (by omega); rcases z with q | q | q; (rw [← (show cuT n Wm.1 (S.1 119 16) Wm.2.2.1 = (cuT (KKm n A wh al).1 Wm.1 (Wm.2.1 2) Wm.2.2.1) by rw [k16 (by omega)]; rfl)] at q; exact y.1 q); omega; omega)))]; exact ⟨(show u_46.1 119 9 = Wm.2.1 0 by omega), fun _ => ⟨_, ⟨⟨hoc, hod, (neD hcd), hda.1.2.2.2.1, hda.1.2.2.2.2⟩, (show DRc u_46 oc n 0 (adR n Wm.1 (cuR Wm.1 (Wm.2.1 2))) from DRc.of hda.2 (rfl) (rfl) (rfl) (rfl) (funext fun x => rfl) (funext fun x => rfl) (funext fun x => rfl)), (KSc.of (KSc.of hKS (show u_39.1 135 19 = S.1 135 19 from ((fu_39 135 rfl).1 19).trans (((fu_33 135 rfl).1 19).trans ((uF_ne (fun h => absurd h.2 (by decide))).trans (((fu_25 135 rfl).1 19).trans ((fu_3 135 rfl).1 19))))) (show u_39.2.1 140 = S.2.1 140 from funext fun x => ((fu_39 140 rfl).2.1 x).trans (((fu_33 140 rfl).2.1 x).trans ((uF_a).trans (((fu_25 140 rfl).2.1 x).trans ((fu_3 140 rfl).2.1 x)))))) xu_46.2 (funext fun x => (fu_46 140 rfl).2.1 x)), (TXc.eq (TXc.of xu_3.1 (show u_46.1 160 1 = u_3.1 160 1 from ((fu_46 160 rfl).1 1).trans (((fu_39 160 rfl).1 1).trans (((fu_33 160 rfl).1 1).trans ((uF_ne (fun h => absurd h.2 (by decide))).trans ((fu_25 160 rfl).1 1))))) (show u_46.1 160 2 = u_3.1 160 2 from ((fu_46 160 rfl).1 2).trans (((fu_39 160 rfl).1 2).trans (((fu_33 160 rfl).1 2).trans ((uF_ne (fun h => absurd h.2 (by decide))).trans ((fu_25 160 rfl).1 2))))) (show u_46.2.1 161 = u_3.2.1 161 from funext fun x => ((fu_46 161 rfl).2.1 x).trans (((fu_39 161 rfl).2.1 x).trans (((fu_33 161 rfl).2.1 x).trans ((uF_a).trans ((fu_25 161 rfl).2.1 x)))))) (show cuT n Wm.1 (S.1 119 16) Wm.2.2.1 = (cuT (KKm n A wh al).1 Wm.1 (Wm.2.1 2) Wm.2.2.1) by rw [k16 (by omega)]; rfl)), (RWz.of hrw (show u_46.1 120 8 = u_39.1 120 8 from (fu_46 120 rfl).1 8) (show u_46.1 120 9 = u_39.1 120 9 from (fu_46 120 rfl).1 9) (show u_46.2.1 121 = u_39.2.1 121 from funext fun x => (fu_46 121 rfl).2.1 x)), hcb.2, ⟨((((fu_46 119 rfl).2.2.2 7).trans (((fu_39 119 rfl).2.2.2 7).trans (((fu_33 119 rfl).2.2.2 7).trans (uF_r))) : u_46.2.2.2 119 7 = u_25.2.2.2 119 7).trans ((xu_25.2.2.2.2.2.2 7).trans (((fu_3 119 rfl).2.2.2 7).trans hmr))), (MDv.of hMD (show u_46.1 md 2 = S.1 md 2 from ((fu_46 md (mo_pCx hmo).1).1 2).trans (((fu_39 md (mo_pRz hmo).1).1 2).trans (((fu_33 md (pB_no (tau_ne hmo.1 (rfl : tau 183 = .inl 0) (fun h => by cases h)) (tau_ne hmo.1 (rfl : tau 184 = .inr (.int, 32)) (fun h => by cases h)))).1 2).trans ((uF_ne (fun h => absurd h.2 (by decide))).trans (((fu_25 md (mo_p119 hmo).1).1 2).trans ((fu_3 md (mo_pWc hmo).1).1 2)))))) (show u_46.1 md 3 = S.1 md 3 from ((fu_46 md (mo_pCx hmo).1).1 3).trans (((fu_39 md (mo_pRz hmo).1).1 3).trans (((fu_33 md (pB_no (tau_ne hmo.1 (rfl : tau 183 = .inl 0) (fun h => by cases h)) (tau_ne hmo.1 (rfl : tau 184 = .inr (.int, 32)) (fun h => by cases h)))).1 3).trans ((uF_ne (fun h => absurd h.2 (by decide))).trans (((fu_25 md (mo_p119 hmo).1).1 3).trans ((fu_3 md (mo_pWc hmo).1).1 3)))))) (show u_46.1 md 4 = S.1 md 4 from ((fu_46 md (mo_pCx hmo).1).1 4).trans (((fu_39 md (mo_pRz hmo).1).1 4).trans (((fu_33 md (pB_no (tau_ne hmo.1 (rfl : tau 183 = .inl 0) (fun h => by cases h)) (tau_ne hmo.1 (rfl : tau 184 = .inr (.int, 32)) (fun h => by cases h)))).1 4).trans ((uF_ne (fun h => absurd h.2 (by decide))).trans (((fu_25 md (mo_p119 hmo).1).1 4).trans ((fu_3 md (mo_pWc hmo).1).1 4)))))) (show u_46.2.1 (md + 1) = S.2.1 (md + 1) from funext fun x => ((fu_46 (md + 1) (mo_pCx hmo).2.1).2.1 x).trans (((fu_39 (md + 1) (mo_pRz hmo).2.1).2.1 x).trans (((fu_33 (md + 1) (pB_no (tau_ne hmo.2.1 (rfl : tau 183 = .inl 0) (fun h => by cases h)) (tau_ne hmo.2.1 (rfl : tau 184 = .inr (.int, 32)) (by decide)))).2.1 x).trans ((uF_a).trans (((fu_25 (md + 1) (mo_p119 hmo).2.1).2.1 x).trans ((fu_3 (md + 1) (mo_pWc hmo).2.1).2.1 x)))))) (show u_46.2.1 (md + 2) = S.2.1 (md + 2) from funext fun x => ((fu_46 (md + 2) (mo_pCx hmo).2.2).2.1 x).trans (((fu_39 (md + 2) (mo_pRz hmo).2.2).2.1 x).trans (((fu_33 (md + 2) (pB_no (tau_ne hmo.2.2.1 (rfl : tau 183 = .inl 0) (fun h => by cases h)) (tau_ne hmo.2.2.1 (rfl : tau 184 = .inr (.int, 32)) (fun h => by cases h)))).2.1 x).trans ((uF_a).trans (((fu_25 (md + 2) (mo_p119 hmo).2.2).2.1 x).trans ((fu_3 (md + 2) (mo_pWc hmo).2.2).2.1 x)))))))⟩, (BPc.of hBP (show u_46.2.1 162 = S.2.1 162 from funext fun x => ((fu_46 162 rfl).2.1 x).trans (((fu_39 162 rfl).2.1 x).trans (((fu_33 162 rfl).2.1 x).trans ((uF_a).trans (((fu_25 162 rfl).2.1 x).trans ((fu_3 162 rfl).2.1 x))))))), ⟨(show u_46.1 119 8 = al by omega), (show u_46.1 119 9 = Wm.2.1 0 by omega), (show u_46.1 119 10 = Wm.2.1 4 by omega), (show u_46.1 119 11 = Wm.2.1 5 + 1 by omega), (show u_46.1 119 12 = Wm.2.1 6 by omega), (show u_46.1 119 13 = Wm.2.1 7 + 1 by omega), (show u_46.1 119 14 = phC (4) by unfold phC; omega), (show u_46.1 119 15 = 0 by omega), (fun qz => by have qz : (3 : Int) ≤ (0 : Int) ∧ (0 : Int) ≤ 5 := qz; show u_46.1 119 16 = Wm.2.1 2; omega), (fun qz => by have qz : (0 : Int) = 1 := qz; show u_46.1 135 17 = Wm.2.1 8 ∧ u_46.1 135 18 = Wm.2.1 9; omega), (fun qz => by have qz : (Wm.2.1 0 : Int) = 4 := qz; show u_46.1 135 18 = Wm.2.1 9; omega)⟩⟩⟩⟩)⟩ dX7_cut_93
    · have q_67 : 0 ≤ u_25.1 119 9 ∧ u_25.1 119 9 ≤ 6 := iu_25.fi 119 9 7 (by decide) rfl
      exact sVret Cx hr hlk hW hL ⟨iu_25, F_28, (by rw [show (stp (KKm n A wh al) Wm) = wC Wm (cu Wm.2.1 0 6) from ((stp_4 hnx).trans (cif_t (c := (30000 < (cuT (KKm n A wh al).1 Wm.1 (Wm.2.1 2) Wm.2.2.1).length ∨ 40 ≤ Wm.1.2.2.2.2.1 ∨ 1000 ≤ Wm.2.1 5)) (by by_cases z : 30000 < (cuT (KKm n A wh al).1 Wm.1 (Wm.2.1 2) Wm.2.2.1).length; exact .inl z; by_cases y : 40 ≤ Wm.1.2.2.2.2.1; exact .inr (.inl y); by_cases x9 : 1000 ≤ Wm.2.1 5; exact .inr (.inr x9); exfalso; have := xu_25.2.2.1.mpr ⟨by rw [(show cuT n Wm.1 (S.1 119 16) Wm.2.2.1 = (cuT (KKm n A wh al).1 Wm.1 (Wm.2.1 2) Wm.2.2.1) by rw [k16 (by omega)]; rfl)]; exact z, by omega, by omega⟩; omega)))]; exact ⟨(show u_25.1 119 9 = 6 by omega), fun q => absurd (show (6 : Int) ≤ 4 from q) (by decide)⟩)⟩ dX7_cut_48
  · refine lv_iconst (v := iv 1) hx hb dX7_cut_37 (by decide) ?_
    refine lv_goto (tgt := 42) hx hb dX7_cut_38 (by decide) ?_
    have q_68 : 0 ≤ S.1 119 11 ∧ S.1 119 11 ≤ 1000 := hI.fi 119 11 7 (by decide) rfl
    have lk_69 : u_3.1 119 11 = S.1 119 11 := (fu_3 119 rfl).1 11
    have q_70 : 0 ≤ S.1 119 9 ∧ S.1 119 9 ≤ 6 := hI.fi 119 9 7 (by decide) rfl
    have lk_71 : u_3.1 119 9 = S.1 119 9 := (fu_3 119 rfl).1 9
    have q_72 : 0 ≤ S.1 119 8 ∧ S.1 119 8 ≤ 20 := hI.fi 119 8 7 (by decide) rfl
    have lk_73 : u_3.1 119 8 = S.1 119 8 := (fu_3 119 rfl).1 8
    have q_74 : (-2147483648) ≤ S.1 119 10 ∧ S.1 119 10 ≤ 2147483647 := hI.fi 119 10 7 (by decide) rfl
    have lk_75 : u_3.1 119 10 = S.1 119 10 := (fu_3 119 rfl).1 10
    have q_76 : (-2147483648) ≤ S.1 119 12 ∧ S.1 119 12 ≤ 2147483647 := hI.fi 119 12 7 (by decide) rfl
    have lk_77 : u_3.1 119 12 = S.1 119 12 := (fu_3 119 rfl).1 12
    have q_78 : (-2147483648) ≤ S.1 119 13 ∧ S.1 119 13 ≤ 2147483647 := hI.fi 119 13 7 (by decide) rfl
    have lk_79 : u_3.1 119 13 = S.1 119 13 := (fu_3 119 rfl).1 13
    have lk_80 : u_3.1 119 16 = S.1 119 16 := (fu_3 119 rfl).1 16
    refine sBi (sV (As := [.int (iv 1)]) (rest := []) (k := 119) Cx (v_X7_countChild l G u_3 (hro := 1) (L := (cuT n Wm.1 (S.1 119 16) Wm.2.2.1)) iu_3 xu_3.1 (by omega)) (c_X7_258 Cx rfl rfl (rmk_ok (by omega) (by decide))) hW (by decide) rfl rfl rfl hl.1 rfl (Nat.le_of_ble_eq_true rfl) dX7_cut_42 ⟨Nat.le_of_ble_eq_true rfl, Nat.le_of_ble_eq_true rfl⟩) hL (fun r_83 u_81 H locs k_82 hW hL => ?_)
    obtain ⟨iu_81, fu_81, xu_81⟩ := k_82
    have F_84 := F_5.trans (fu_81.to p1119_Sr)
    have hl9 : u_3.1 120 9 = S.1 120 9 := (fu_3 120 rfl).1 9
    have hl9b := hRW.2.1
    refine r_if_ne (tgt := 49) hx hb ⟨(by omega), (by omega)⟩ dX7_cut_45 (by decide) (fun c_85 => ?_) (fun c_85 => ?_)
    · refine lv_aload_n hx hb dX7_cut_49 rfl (lv_at hl 0 rfl) ?_
      refine lv_dup hx hb dX7_cut_50 rfl ?_
      have q_86 : (-2147483648) ≤ u_81.1 119 13 ∧ u_81.1 119 13 ≤ 2147483647 := iu_81.fi 119 13 7 (by decide) rfl
      refine g_X7_81 Cx hW (k := 119) (by decide) rfl (v := u_81.1 119 13) rfl dX7_cut_51 ?_
      refine lv_iconst (v := iv 1) hx hb dX7_cut_54 (by decide) ?_
      refine r_iadd hx hb dX7_cut_55 ?_
      refine p_X7_81 Cx hW hL (k := 119) (by decide) rfl dX7_cut_56 (fun H locs hW hL => ?_)
      have F_87 : Fr S (uF u_81 119 13 ((u_81.1 119 13) + 1)) pSr := F_84.F rfl
      have i_88 : cX G (uF u_81 119 13 ((u_81.1 119 13) + 1)) 0 0 0 := iu_81.F rfl rfl (show (-2147483648) ≤ (u_81.1 119 13) + 1 ∧ (u_81.1 119 13) + 1 ≤ 2147483647 from ⟨by omega, by omega⟩)
      refine lv_aload_n hx hb dX7_cut_59 rfl (lv_at hl 0 rfl) ?_
      refine g_X7_21 Cx hW (k := 119) (by decide) rfl (v := .ref (G.2.2.1 + 135)) (rf_119_1 i_88) dX7_cut_60 ?_
      refine lv_aload_n hx hb dX7_cut_63 rfl (lv_at hl 0 rfl) ?_
      refine g_X7_45 Cx hW (k := 119) (by decide) rfl (v := .ref (G.2.2.1 + 183)) (rf_119_6 i_88) dX7_cut_64 ?_
      refine sBv (sV (As := [.ref (G.2.2.1 + 183)]) (rest := []) (k := 135) Cx (v_X2_denominator l G (uF u_81 119 13 ((u_81.1 119 13) + 1)) (v := 183) (oc := oc) (od := od) (n := n) (hw := (hwS Wm)) (d := Wm.1) i_88 ⟨hoc, hod, (neD hcd), (((uF_r).trans (((fu_81 135 rfl).2.2.2 0).trans ((fu_3 135 rfl).2.2.2 0))).trans hec), (((uF_r).trans (((fu_81 135 rfl).2.2.2 1).trans ((fu_3 135 rfl).2.2.2 1))).trans hed)⟩ (DRc.of hDR (show (uF u_81 119 13 ((u_81.1 119 13) + 1)).1 135 13 = S.1 135 13 from (uF_ne (fun h => absurd h.1 (by decide))).trans (((fu_81 135 rfl).1 13).trans ((fu_3 135 rfl).1 13))) (show (uF u_81 119 13 ((u_81.1 119 13) + 1)).1 135 14 = S.1 135 14 from (uF_ne (fun h => absurd h.2 (by decide))).trans (((fu_81 135 rfl).1 14).trans ((fu_3 135 rfl).1 14))) (show (uF u_81 119 13 ((u_81.1 119 13) + 1)).1 135 15 = S.1 135 15 from (uF_ne (fun h => absurd h.2 (by decide))).trans (((fu_81 135 rfl).1 15).trans ((fu_3 135 rfl).1 15))) (show (uF u_81 119 13 ((u_81.1 119 13) + 1)).1 135 16 = S.1 135 16 from (uF_ne (fun h => absurd h.2 (by decide))).trans (((fu_81 135 rfl).1 16).trans ((fu_3 135 rfl).1 16))) (show (uF u_81 119 13 ((u_81.1 119 13) + 1)).2.1 oc = S.2.1 oc from funext fun x => (uF_a).trans (((fu_81 oc (dic_p119 hoc)).2.1 x).trans ((fu_3 oc (dic_pWc hoc)).2.1 x))) (show (uF u_81 119 13 ((u_81.1 119 13) + 1)).2.1 138 = S.2.1 138 from funext fun x => (uF_a).trans (((fu_81 138 rfl).2.1 x).trans ((fu_3 138 rfl).2.1 x))) (show (uF u_81 119 13 ((u_81.1 119 13) + 1)).2.1 139 = S.2.1 139 from funext fun x => (uF_a).trans (((fu_81 139 rfl).2.1 x).trans ((fu_3 139 rfl).2.1 x)))) rfl) (c_X7_117 Cx rfl rfl (rmk_ok (by omega) (by decide))) hW (by decide) rfl rfl rfl hl.1 rfl (Nat.le_of_ble_eq_true rfl) dX7_cut_67 ⟨Nat.le_of_ble_eq_true rfl, Nat.le_of_ble_eq_true rfl⟩) hL (fun u_89 H locs k_90 hW hL => ?_)
      obtain ⟨iu_89, fu_89, xu_89⟩ := k_90
      have F_91 := F_87.trans (fu_89.to (pB_sub rfl rfl))
      have bv_92 : bv u_89 183 = Wm.1.1 := xu_89.2.2.2.1.1
      refine lv_aload_n hx hb dX7_cut_70 rfl (lv_at hl 0 rfl) ?_
      refine g_X7_12 Cx hW (k := 119) (by decide) rfl (v := .ref (G.2.2.1 + 120)) (rf_119_0 iu_89) dX7_cut_71 ?_
      refine lv_aload_n hx hb dX7_cut_74 rfl (lv_at hl 0 rfl) ?_
      refine g_X7_45 Cx hW (k := 119) (by decide) rfl (v := .ref (G.2.2.1 + 183)) (rf_119_6 iu_89) dX7_cut_75 ?_
      have q_93 : 0 ≤ u_89.1 183 1 ∧ u_89.1 183 1 ≤ 32 := iu_89.fi 183 1 0 (by decide) rfl
      have q_94 : (-1) ≤ u_89.1 183 2 ∧ u_89.1 183 2 ≤ 1 := iu_89.fi 183 2 0 (by decide) rfl
      refine sBi (sV (As := [.ref (G.2.2.1 + 183)]) (rest := []) (k := 120) Cx (z_X6_addCut_120 l G u_89 (n := n) (cc := Wm.1.2.2.2.2.1) (RR := RR) (ff := (fun i => if 1 ≤ i ∧ i < (Wm.1.2.2.2.2.1 + 1) then mlt Wm.1 (S.1 119 16) (n + i) % Wm.1.1 else 0)) iu_89 (by omega) (RWz.of hRW (show u_89.1 120 8 = S.1 120 8 from ((fu_89 120 rfl).1 8).trans ((uF_ne (fun h => absurd h.2 (by decide))).trans (((fu_81 120 rfl).1 8).trans ((fu_3 120 rfl).1 8)))) (show u_89.1 120 9 = S.1 120 9 from ((fu_89 120 rfl).1 9).trans ((uF_ne (fun h => absurd h.2 (by decide))).trans (((fu_81 120 rfl).1 9).trans ((fu_3 120 rfl).1 9)))) (show u_89.2.1 121 = S.2.1 121 from funext fun x => ((fu_89 121 rfl).2.1 x).trans ((uF_a).trans (((fu_81 121 rfl).2.1 x).trans ((fu_3 121 rfl).2.1 x))))) (FCz.of xu_3.2 (show u_89.2.1 122 = u_3.2.1 122 from funext fun x => ((fu_89 122 rfl).2.1 x).trans ((uF_a).trans ((fu_81 122 rfl).2.1 x)))) (show Hd (bs u_89 183) from xu_89.2.2.2.1.2) (by omega)) (c_X7_262 Cx rfl rfl (rmk_ok (by omega) (by decide))) hW (by decide) rfl rfl rfl hl.1 rfl (Nat.le_of_ble_eq_true rfl) dX7_cut_78 ⟨Nat.le_of_ble_eq_true rfl, Nat.le_of_ble_eq_true rfl⟩) hL (fun r_97 u_95 H locs k_96 hW hL => ?_)
      obtain ⟨iu_95, fu_95, xu_95⟩ := k_96
      have F_98 := F_91.trans (fu_95.to pRz_Sr)
      have hcb := RBd.cut (D := Wm.1.1) (ff := (fun i => if 1 ≤ i ∧ i < (Wm.1.2.2.2.2.1 + 1) then mlt Wm.1 (S.1 119 16) (n + i) % Wm.1.1 else 0)) hRB (h45.2.2.2.mp hnx) (by omega) (show al ≤ 20 by omega) hDp (by omega) (fun k k0 k1 => by (try simp only []); rw [if_pos (show 1 ≤ k ∧ k < (Wm.1.2.2.2.2.1 + 1) by omega)]; exact emod_r hDp)
      have hr1 : r_97 = 1 := by rcases (by omega : r_97 = 0 ∨ r_97 = 1) with z | z; (exfalso; rcases xu_95.2.2.2 z with q | ⟨j, j0, j1, q⟩; omega; (rw [(show bv u_89 183 = Wm.1.1 from bv_92)] at q; exact hcb.1 j j0 j1 q)); exact z
      have hrw := (xu_95.2.2.1 hr1).2.1; rw [(show bv u_89 183 = Wm.1.1 from bv_92)] at hrw
      refine lv_pop hx hb dX7_cut_81 rfl ?_
      refine lv_aload_n hx hb dX7_cut_82 rfl (lv_at hl 0 rfl) ?_
      refine g_X7_21 Cx hW (k := 119) (by decide) rfl (v := .ref (G.2.2.1 + 135)) (rf_119_1 iu_95) dX7_cut_83 ?_
      refine lv_aload_n hx hb dX7_cut_86 rfl (lv_at hl 0 rfl) ?_
      have q_99 : (-1) ≤ u_81.1 119 16 ∧ u_81.1 119 16 ≤ 40 := iu_81.fi 119 16 7 (by decide) rfl
      refine g_X7_190 Cx hW (k := 119) (by decide) rfl (v := u_81.1 119 16) (((fu_95 119 rfl).1 16).trans (((fu_89 119 rfl).1 16).trans (uF_ne (fun h => absurd h.2 (by decide))))) dX7_cut_87 ?_
      have q_100 : 0 ≤ S.1 135 19 ∧ S.1 135 19 ≤ 102220 := hI.fi 135 19 2 (by decide) rfl
      have lk_101 : u_95.1 135 19 = S.1 135 19 := ((fu_95 135 rfl).1 19).trans (((fu_89 135 rfl).1 19).trans ((uF_ne (fun h => absurd h.2 (by decide))).trans (((fu_81 135 rfl).1 19).trans ((fu_3 135 rfl).1 19))))
      refine sBv (sV (As := [.int (iv (u_81.1 119 16))]) (rest := []) (k := 135) Cx (v_X2_addCut l G u_95 (rr := u_81.1 119 16) (oc := oc) (od := od) (n := n) (hw := (hwS Wm)) (d := Wm.1) iu_95 ⟨hoc, hod, (neD hcd), ((((fu_95 135 rfl).2.2.2 0).trans (((fu_89 135 rfl).2.2.2 0).trans ((uF_r).trans (((fu_81 135 rfl).2.2.2 0).trans ((fu_3 135 rfl).2.2.2 0))))).trans hec), ((((fu_95 135 rfl).2.2.2 1).trans (((fu_89 135 rfl).2.2.2 1).trans ((uF_r).trans (((fu_81 135 rfl).2.2.2 1).trans ((fu_3 135 rfl).2.2.2 1))))).trans hed)⟩ (DRc.of hDR (show u_95.1 135 13 = S.1 135 13 from ((fu_95 135 rfl).1 13).trans (((fu_89 135 rfl).1 13).trans ((uF_ne (fun h => absurd h.1 (by decide))).trans (((fu_81 135 rfl).1 13).trans ((fu_3 135 rfl).1 13))))) (show u_95.1 135 14 = S.1 135 14 from ((fu_95 135 rfl).1 14).trans (((fu_89 135 rfl).1 14).trans ((uF_ne (fun h => absurd h.2 (by decide))).trans (((fu_81 135 rfl).1 14).trans ((fu_3 135 rfl).1 14))))) (show u_95.1 135 15 = S.1 135 15 from ((fu_95 135 rfl).1 15).trans (((fu_89 135 rfl).1 15).trans ((uF_ne (fun h => absurd h.2 (by decide))).trans (((fu_81 135 rfl).1 15).trans ((fu_3 135 rfl).1 15))))) (show u_95.1 135 16 = S.1 135 16 from ((fu_95 135 rfl).1 16).trans (((fu_89 135 rfl).1 16).trans ((uF_ne (fun h => absurd h.2 (by decide))).trans (((fu_81 135 rfl).1 16).trans ((fu_3 135 rfl).1 16))))) (show u_95.2.1 oc = S.2.1 oc from funext fun x => ((fu_95 oc (dic_pRz hoc)).2.1 x).trans (((fu_89 oc (pB_no (tau_ne (dic_t hoc) (rfl : tau 183 = .inl 0) (fun h => by cases h)) (ac_ne (dic_c hoc) (rfl : acode 184 = 1) (by decide)))).2.1 x).trans ((uF_a).trans (((fu_81 oc (dic_p119 hoc)).2.1 x).trans ((fu_3 oc (dic_pWc hoc)).2.1 x))))) (show u_95.2.1 138 = S.2.1 138 from funext fun x => ((fu_95 138 rfl).2.1 x).trans (((fu_89 138 rfl).2.1 x).trans ((uF_a).trans (((fu_81 138 rfl).2.1 x).trans ((fu_3 138 rfl).2.1 x))))) (show u_95.2.1 139 = S.2.1 139 from funext fun x => ((fu_95 139 rfl).2.1 x).trans (((fu_89 139 rfl).2.1 x).trans ((uF_a).trans (((fu_81 139 rfl).2.1 x).trans ((fu_3 139 rfl).2.1 x)))))) (by omega) (by omega)) (c_X7_266 Cx rfl rfl (rmk_ok (by omega) (by decide))) hW (by decide) rfl rfl rfl hl.1 rfl (Nat.le_of_ble_eq_true rfl) dX7_cut_90 ⟨Nat.le_of_ble_eq_true rfl, Nat.le_of_ble_eq_true rfl⟩) hL (fun u_102 H locs k_103 hW hL => ?_)
      obtain ⟨iu_102, fu_102, xu_102⟩ := k_103
      have F_104 := F_98.trans (fu_102.to pCx_Sr)
      have hda : dcs G u_102 oc od ∧ DRc u_102 oc n 0 (adR n Wm.1 (cuR Wm.1 (Wm.2.1 2))) := by have e := xu_102.1 (by omega); rw [show u_81.1 119 16 = Wm.2.1 2 by omega, hw0] at e; exact e
      have q_105 : 0 ≤ u_81.1 119 9 ∧ u_81.1 119 9 ≤ 6 := iu_81.fi 119 9 7 (by decide) rfl
      have lk_106 : u_102.1 119 9 = u_81.1 119 9 := ((fu_102 119 rfl).1 9).trans (((fu_95 119 rfl).1 9).trans (((fu_89 119 rfl).1 9).trans (uF_ne (fun h => absurd h.2 (by decide)))))
      have q_107 : 0 ≤ u_81.1 119 8 ∧ u_81.1 119 8 ≤ 20 := iu_81.fi 119 8 7 (by decide) rfl
      have lk_108 : u_102.1 119 8 = u_81.1 119 8 := ((fu_102 119 rfl).1 8).trans (((fu_95 119 rfl).1 8).trans (((fu_89 119 rfl).1 8).trans (uF_ne (fun h => absurd h.2 (by decide)))))
      have q_109 : (-2147483648) ≤ u_81.1 119 10 ∧ u_81.1 119 10 ≤ 2147483647 := iu_81.fi 119 10 7 (by decide) rfl
      have lk_110 : u_102.1 119 10 = u_81.1 119 10 := ((fu_102 119 rfl).1 10).trans (((fu_95 119 rfl).1 10).trans (((fu_89 119 rfl).1 10).trans (uF_ne (fun h => absurd h.2 (by decide)))))
      have q_111 : 0 ≤ u_81.1 119 11 ∧ u_81.1 119 11 ≤ 1000 := iu_81.fi 119 11 7 (by decide) rfl
      have lk_112 : u_102.1 119 11 = u_81.1 119 11 := ((fu_102 119 rfl).1 11).trans (((fu_95 119 rfl).1 11).trans (((fu_89 119 rfl).1 11).trans (uF_ne (fun h => absurd h.2 (by decide)))))
      have q_113 : (-2147483648) ≤ u_81.1 119 12 ∧ u_81.1 119 12 ≤ 2147483647 := iu_81.fi 119 12 7 (by decide) rfl
      have lk_114 : u_102.1 119 12 = u_81.1 119 12 := ((fu_102 119 rfl).1 12).trans (((fu_95 119 rfl).1 12).trans (((fu_89 119 rfl).1 12).trans (uF_ne (fun h => absurd h.2 (by decide)))))
      have lk_115 : u_102.1 119 13 = (u_81.1 119 13) + 1 := ((fu_102 119 rfl).1 13).trans (((fu_95 119 rfl).1 13).trans (((fu_89 119 rfl).1 13).trans (uF_on)))
      have q_116 : 0 ≤ u_81.1 119 14 ∧ u_81.1 119 14 ≤ 3 := iu_81.fi 119 14 7 (by decide) rfl
      have lk_117 : u_102.1 119 14 = u_81.1 119 14 := ((fu_102 119 rfl).1 14).trans (((fu_95 119 rfl).1 14).trans (((fu_89 119 rfl).1 14).trans (uF_ne (fun h => absurd h.2 (by decide)))))
      have q_118 : 0 ≤ u_81.1 119 15 ∧ u_81.1 119 15 ≤ 6 := iu_81.fi 119 15 7 (by decide) rfl
      have lk_119 : u_102.1 119 15 = u_81.1 119 15 := ((fu_102 119 rfl).1 15).trans (((fu_95 119 rfl).1 15).trans (((fu_89 119 rfl).1 15).trans (uF_ne (fun h => absurd h.2 (by decide)))))
      have lk_120 : u_102.1 119 16 = u_81.1 119 16 := ((fu_102 119 rfl).1 16).trans (((fu_95 119 rfl).1 16).trans (((fu_89 119 rfl).1 16).trans (uF_ne (fun h => absurd h.2 (by decide)))))
      have q_121 : (-1) ≤ u_102.1 135 17 ∧ u_102.1 135 17 ≤ 40 := iu_102.fi 135 17 2 (by decide) rfl
      have q_122 : (-1) ≤ u_102.1 135 18 ∧ u_102.1 135 18 ≤ 13 := iu_102.fi 135 18 2 (by decide) rfl
      exact sVret Cx hr hlk hW hL ⟨iu_102, F_104, (by rw [show (stp (KKm n A wh al) Wm) = (adR (KKm n A wh al).1 Wm.1 (cuR Wm.1 (Wm.2.1 2)), cu (chC Wm.2.1) 7 (Wm.2.1 7 + 1), (cuT (KKm n A wh al).1 Wm.1 (Wm.2.1 2) Wm.2.2.1), Wm.2.2.2) from ((stp_4 hnx).trans (cif_f (c := (30000 < (cuT (KKm n A wh al).1 Wm.1 (Wm.2.1 2) Wm.2.2.1).length ∨ 40 ≤ Wm.1.2.2.2.2.1 ∨ 1000 ≤ Wm.2.1 5)) (fun z => by have y := xu_81.2.2.1.mp (by omega); rcases z with q | q | q; (rw [← (show cuT n Wm.1 (S.1 119 16) Wm.2.2.1 = (cuT (KKm n A wh al).1 Wm.1 (Wm.2.1 2) Wm.2.2.1) by rw [k16 (by omega)]; rfl)] at q; exact y.1 q); omega; omega)))]; exact ⟨(show u_102.1 119 9 = Wm.2.1 0 by omega), fun _ => ⟨_, ⟨⟨hoc, hod, (neD hcd), hda.1.2.2.2.1, hda.1.2.2.2.2⟩, (show DRc u_102 oc n 0 (adR n Wm.1 (cuR Wm.1 (Wm.2.1 2))) from DRc.of hda.2 (rfl) (rfl) (rfl) (rfl) (funext fun x => rfl) (funext fun x => rfl) (funext fun x => rfl)), (KSc.of (KSc.of hKS (show u_95.1 135 19 = S.1 135 19 from ((fu_95 135 rfl).1 19).trans (((fu_89 135 rfl).1 19).trans ((uF_ne (fun h => absurd h.2 (by decide))).trans (((fu_81 135 rfl).1 19).trans ((fu_3 135 rfl).1 19))))) (show u_95.2.1 140 = S.2.1 140 from funext fun x => ((fu_95 140 rfl).2.1 x).trans (((fu_89 140 rfl).2.1 x).trans ((uF_a).trans (((fu_81 140 rfl).2.1 x).trans ((fu_3 140 rfl).2.1 x)))))) xu_102.2 (funext fun x => (fu_102 140 rfl).2.1 x)), (TXc.eq (TXc.of xu_3.1 (show u_102.1 160 1 = u_3.1 160 1 from ((fu_102 160 rfl).1 1).trans (((fu_95 160 rfl).1 1).trans (((fu_89 160 rfl).1 1).trans ((uF_ne (fun h => absurd h.2 (by decide))).trans ((fu_81 160 rfl).1 1))))) (show u_102.1 160 2 = u_3.1 160 2 from ((fu_102 160 rfl).1 2).trans (((fu_95 160 rfl).1 2).trans (((fu_89 160 rfl).1 2).trans ((uF_ne (fun h => absurd h.2 (by decide))).trans ((fu_81 160 rfl).1 2))))) (show u_102.2.1 161 = u_3.2.1 161 from funext fun x => ((fu_102 161 rfl).2.1 x).trans (((fu_95 161 rfl).2.1 x).trans (((fu_89 161 rfl).2.1 x).trans ((uF_a).trans ((fu_81 161 rfl).2.1 x)))))) (show cuT n Wm.1 (S.1 119 16) Wm.2.2.1 = (cuT (KKm n A wh al).1 Wm.1 (Wm.2.1 2) Wm.2.2.1) by rw [k16 (by omega)]; rfl)), (RWz.of hrw (show u_102.1 120 8 = u_95.1 120 8 from (fu_102 120 rfl).1 8) (show u_102.1 120 9 = u_95.1 120 9 from (fu_102 120 rfl).1 9) (show u_102.2.1 121 = u_95.2.1 121 from funext fun x => (fu_102 121 rfl).2.1 x)), hcb.2, ⟨((((fu_102 119 rfl).2.2.2 7).trans (((fu_95 119 rfl).2.2.2 7).trans (((fu_89 119 rfl).2.2.2 7).trans (uF_r))) : u_102.2.2.2 119 7 = u_81.2.2.2 119 7).trans ((xu_81.2.2.2.2.2.2 7).trans (((fu_3 119 rfl).2.2.2 7).trans hmr))), (MDv.of hMD (show u_102.1 md 2 = S.1 md 2 from ((fu_102 md (mo_pCx hmo).1).1 2).trans (((fu_95 md (mo_pRz hmo).1).1 2).trans (((fu_89 md (pB_no (tau_ne hmo.1 (rfl : tau 183 = .inl 0) (fun h => by cases h)) (tau_ne hmo.1 (rfl : tau 184 = .inr (.int, 32)) (fun h => by cases h)))).1 2).trans ((uF_ne (fun h => absurd h.2 (by decide))).trans (((fu_81 md (mo_p119 hmo).1).1 2).trans ((fu_3 md (mo_pWc hmo).1).1 2)))))) (show u_102.1 md 3 = S.1 md 3 from ((fu_102 md (mo_pCx hmo).1).1 3).trans (((fu_95 md (mo_pRz hmo).1).1 3).trans (((fu_89 md (pB_no (tau_ne hmo.1 (rfl : tau 183 = .inl 0) (fun h => by cases h)) (tau_ne hmo.1 (rfl : tau 184 = .inr (.int, 32)) (fun h => by cases h)))).1 3).trans ((uF_ne (fun h => absurd h.2 (by decide))).trans (((fu_81 md (mo_p119 hmo).1).1 3).trans ((fu_3 md (mo_pWc hmo).1).1 3)))))) (show u_102.1 md 4 = S.1 md 4 from ((fu_102 md (mo_pCx hmo).1).1 4).trans (((fu_95 md (mo_pRz hmo).1).1 4).trans (((fu_89 md (pB_no (tau_ne hmo.1 (rfl : tau 183 = .inl 0) (fun h => by cases h)) (tau_ne hmo.1 (rfl : tau 184 = .inr (.int, 32)) (fun h => by cases h)))).1 4).trans ((uF_ne (fun h => absurd h.2 (by decide))).trans (((fu_81 md (mo_p119 hmo).1).1 4).trans ((fu_3 md (mo_pWc hmo).1).1 4)))))) (show u_102.2.1 (md + 1) = S.2.1 (md + 1) from funext fun x => ((fu_102 (md + 1) (mo_pCx hmo).2.1).2.1 x).trans (((fu_95 (md + 1) (mo_pRz hmo).2.1).2.1 x).trans (((fu_89 (md + 1) (pB_no (tau_ne hmo.2.1 (rfl : tau 183 = .inl 0) (fun h => by cases h)) (tau_ne hmo.2.1 (rfl : tau 184 = .inr (.int, 32)) (by decide)))).2.1 x).trans ((uF_a).trans (((fu_81 (md + 1) (mo_p119 hmo).2.1).2.1 x).trans ((fu_3 (md + 1) (mo_pWc hmo).2.1).2.1 x)))))) (show u_102.2.1 (md + 2) = S.2.1 (md + 2) from funext fun x => ((fu_102 (md + 2) (mo_pCx hmo).2.2).2.1 x).trans (((fu_95 (md + 2) (mo_pRz hmo).2.2).2.1 x).trans (((fu_89 (md + 2) (pB_no (tau_ne hmo.2.2.1 (rfl : tau 183 = .inl 0) (fun h => by cases h)) (tau_ne hmo.2.2.1 (rfl : tau 184 = .inr (.int, 32)) (fun h => by cases h)))).2.1 x).trans ((uF_a).trans (((fu_81 (md + 2) (mo_p119 hmo).2.2).2.1 x).trans ((fu_3 (md + 2) (mo_pWc hmo).2.2).2.1 x)))))))⟩, (BPc.of hBP (show u_102.2.1 162 = S.2.1 162 from funext fun x => ((fu_102 162 rfl).2.1 x).trans (((fu_95 162 rfl).2.1 x).trans (((fu_89 162 rfl).2.1 x).trans ((uF_a).trans (((fu_81 162 rfl).2.1 x).trans ((fu_3 162 rfl).2.1 x))))))), ⟨(show u_102.1 119 8 = al by omega), (show u_102.1 119 9 = Wm.2.1 0 by omega), (show u_102.1 119 10 = Wm.2.1 4 by omega), (show u_102.1 119 11 = Wm.2.1 5 + 1 by omega), (show u_102.1 119 12 = Wm.2.1 6 by omega), (show u_102.1 119 13 = Wm.2.1 7 + 1 by omega), (show u_102.1 119 14 = phC (4) by unfold phC; omega), (show u_102.1 119 15 = 0 by omega), (fun qz => by have qz : (3 : Int) ≤ (0 : Int) ∧ (0 : Int) ≤ 5 := qz; show u_102.1 119 16 = Wm.2.1 2; omega), (fun qz => by have qz : (0 : Int) = 1 := qz; show u_102.1 135 17 = Wm.2.1 8 ∧ u_102.1 135 18 = Wm.2.1 9; omega), (fun qz => by have qz : (Wm.2.1 0 : Int) = 4 := qz; show u_102.1 135 18 = Wm.2.1 9; omega)⟩⟩⟩⟩)⟩ dX7_cut_93
    · have q_123 : 0 ≤ u_81.1 119 9 ∧ u_81.1 119 9 ≤ 6 := iu_81.fi 119 9 7 (by decide) rfl
      exact sVret Cx hr hlk hW hL ⟨iu_81, F_84, (by rw [show (stp (KKm n A wh al) Wm) = wC Wm (cu Wm.2.1 0 6) from ((stp_4 hnx).trans (cif_t (c := (30000 < (cuT (KKm n A wh al).1 Wm.1 (Wm.2.1 2) Wm.2.2.1).length ∨ 40 ≤ Wm.1.2.2.2.2.1 ∨ 1000 ≤ Wm.2.1 5)) (by by_cases z : 30000 < (cuT (KKm n A wh al).1 Wm.1 (Wm.2.1 2) Wm.2.2.1).length; exact .inl z; by_cases y : 40 ≤ Wm.1.2.2.2.2.1; exact .inr (.inl y); by_cases x9 : 1000 ≤ Wm.2.1 5; exact .inr (.inr x9); exfalso; have := xu_81.2.2.1.mpr ⟨by rw [(show cuT n Wm.1 (S.1 119 16) Wm.2.2.1 = (cuT (KKm n A wh al).1 Wm.1 (Wm.2.1 2) Wm.2.2.1) by rw [k16 (by omega)]; rfl)]; exact z, by omega, by omega⟩; omega)))]; exact ⟨(show u_81.1 119 9 = 6 by omega), fun q => absurd (show (6 : Int) ≤ 4 from q) (by decide)⟩)⟩ dX7_cut_48

set_option maxRecDepth 100000 in
set_option maxHeartbeats 4000000 in
theorem v_X7_branch (l : Launch) (G : sG) (S : sS) {oc od md : Nat} {n mm mx al : Int} {A : Int → Int → Int} {wh : Int → Int} {RR : Int → Int → Int} {Wm : wT} (hI : cX G S 0 0 0) (hmo : mdl md) (hSR : Hd (SRq G S oc od md n mm mx al A wh RR Wm)) (hIv : Hd (Iv (KKm n A wh al) Wm ∧ Iw Wm)) (hn12 : 0 ≤ n ∧ n ≤ 12 ∧ 0 ≤ al ∧ al ≤ 20) (hst : Wm.2.1 0 = 1) (hnx : Wm.2.1 1 = 5) : Met l yX7_branch (.code yX7_branch cX7_branch 2 none :: tb) (rmk 7 0 0) (sPc G 294 S [.ref (G.2.2.1 + 119)]) (sQv G 294 (fun u => cX G u 0 0 0 ∧ Fr S u pSr ∧ (Hd (u.1 119 9 = (stp (KKm n A wh al) Wm).2.1 0) ∧ Hd ((stp (KKm n A wh al) Wm).2.1 0 ≤ 4 → ∃ RR, SRq G u oc od md n mm mx al A wh RR (stp (KKm n A wh al) Wm))))) 0 0 (sF G) := by
  refine sEnter (by decide) (Nat.le_of_ble_eq_true rfl) ?_
  intro p e s m args below meth c Cx hr hlk hnm hW ls hl
  have Cx : sC G p m c cX7_branch 2 s args RX7 := Cx
  obtain ⟨hx, hb, hml, hown, hts⟩ := id Cx.1
  have hL : sL G [] := sL_nil
  have hl : lv_has ls 2 [(0, .ref (G.2.2.1 + 119))] := hl
  have hW0 := hW
  obtain ⟨hdq, hDR, hKS, hT, hRW, hRB, ⟨hmr, hMD⟩, hBP, hCR⟩ := id hSR
  obtain ⟨k8, k9, k10, k11, k12, k13, k14, k15, k16, k17, k18⟩ := id hCR
  have hiv := hIv.1; have hiw := hIv.2.b; have hiw2 := hIv.2.2.1; have hiw3 := hIv.2.2.2; have hOK := hiv.1; have hok1 := hOK.1; have hok2 := hOK.2.1; have hDp := hOK.2.2.1; have hcn := hiv.2.1; have hmd1 := hMD.1; have hmd2 := hMD.2.1
  obtain ⟨hoc, hod, hcd, hec, hed⟩ := id hdq
  have hd13 := hDR.2.2.2.2.1; have hd14 := hDR.2.2.2.2.2.1; have hd15 := hDR.2.2.2.2.2.2.1; have hd16 := hDR.2.2.2.2.2.2.2; have hm40 : 0 ≤ S.1 135 14 ∧ S.1 135 14 ≤ 40 := hI.fi 135 14 2 (by decide) rfl; have hp13 : 0 ≤ S.1 135 15 ∧ S.1 135 15 ≤ 13 := hI.fi 135 15 2 (by decide) rfl
  have h45 := Iv.n45 hiv.2.2.2.1 (by omega); have h45a := h45.1; have h45b := h45.2.1; have h45c := h45.2.2.1; have hw0 : hwS Wm = 0 := hw_0 h45a
  have hrm : Hd (Wm.1.2.2.2.2.1 ≤ 39 → _) := fun z => KSc.room hKS hiv.2.2.2.2.1 ⟨hok1.1, z⟩
  replace k16 : Hd _ := k16
  replace k17 : Hd _ := k17
  replace k18 : Hd _ := k18
  replace hiw : Hd _ := hiw
  replace hiw2 : Hd _ := hiw2
  replace hiw3 : Hd _ := hiw3
  have hk16 := k16 (by omega)
  refine lv_aload_n hx hb dX7_branch_0 rfl (lv_at hl 0 rfl) ?_
  refine g_X7_21 Cx hW (k := 119) (by decide) rfl (v := .ref (G.2.2.1 + 135)) (rf_119_1 hI) dX7_branch_1 ?_
  refine lv_aload_n hx hb dX7_branch_4 rfl (lv_at hl 0 rfl) ?_
  have q_1 : (-1) ≤ S.1 119 16 ∧ S.1 119 16 ≤ 40 := hI.fi 119 16 7 (by decide) rfl
  refine g_X7_190 Cx hW (k := 119) (by decide) rfl (v := S.1 119 16) rfl dX7_branch_5 ?_
  refine sBi (sV (As := [.int (iv (S.1 119 16))]) (rest := []) (k := 135) Cx (v_X2_numberAt l G S (i := S.1 119 16) (oc := oc) (od := od) (n := n) (hw := (hwS Wm)) (d := Wm.1) hI ⟨hoc, hod, (neD hcd), hec, hed⟩ hDR (by omega)) (c_X7_269 Cx rfl rfl (rmk_ok (by omega) (by decide))) hW (by decide) rfl rfl rfl hl.1 rfl (Nat.le_of_ble_eq_true rfl) dX7_branch_8 ⟨Nat.le_of_ble_eq_true rfl, Nat.le_of_ble_eq_true rfl⟩) hL (fun r_4 u_2 H locs k_3 hW hL => ?_)
  obtain ⟨eu_2, xu_2⟩ := k_3
  rw [eu_2] at hW
  have hy8 := xu_2.1; have hz8 := xu_2.2.1 (by omega) (by omega); rw [hk16] at hz8; have hkn : (KKm n A wh al).1 = n := rfl
  replace xu_2 : Hd _ := xu_2
  refine lv_istore_n (lv' := [(1, .int (iv r_4)), (0, .ref (G.2.2.1 + 119))]) hx hb dX7_branch_11 rfl hl (by decide) rfl (fun ls hl => ?_)
  refine lv_aload_n hx hb dX7_branch_12 rfl (lv_at hl 1 rfl) ?_
  refine g_X7_21 Cx hW (k := 119) (by decide) rfl (v := .ref (G.2.2.1 + 135)) (rf_119_1 hI) dX7_branch_13 ?_
  refine lv_aload_n hx hb dX7_branch_16 rfl (lv_at hl 1 rfl) ?_
  refine g_X7_190 Cx hW (k := 119) (by decide) rfl (v := S.1 119 16) rfl dX7_branch_17 ?_
  refine lv_aload_n hx hb dX7_branch_20 rfl (lv_at hl 1 rfl) ?_
  refine g_X7_42 Cx hW (k := 119) (by decide) rfl (v := .ref (G.2.2.1 + 181)) (rf_119_5 hI) dX7_branch_21 ?_
  refine sBv (sV (As := [.int (iv (S.1 119 16)), .ref (G.2.2.1 + 181)]) (rest := []) (k := 135) Cx (v_X2_floor l G S (i := S.1 119 16) (oc := oc) (od := od) (n := n) (hw := (hwS Wm)) (d := Wm.1) hI ⟨hoc, hod, (neD hcd), hec, hed⟩ hDR (by omega) (by omega) (by omega)) (c_X7_226 Cx rfl rfl (rmk_ok (by omega) (by decide))) hW (by decide) rfl rfl rfl hl.1 rfl (Nat.le_of_ble_eq_true rfl) dX7_branch_24 ⟨Nat.le_of_ble_eq_true rfl, Nat.le_of_ble_eq_true rfl⟩) hL (fun u_5 H locs k_6 hW hL => ?_)
  obtain ⟨iu_5, fu_5, xu_5⟩ := k_6
  have F_7 := (Fr.rf : Fr S S pSr).trans (fu_5.to pFl_Sr)
  have bv_8 : bv u_5 181 = Wm.1.2.1 (S.1 119 16) 0 / Wm.1.1 := xu_5.2.2.1
  refine lv_aload_n hx hb dX7_branch_27 rfl (lv_at hl 1 rfl) ?_
  refine g_X7_28 Cx hW (k := 119) (by decide) rfl (v := .ref (G.2.2.1 + 157)) (rf_119_2 iu_5) dX7_branch_28 ?_
  refine lv_iload_n hx hb dX7_branch_31 rfl (lv_at hl 0 rfl) ?_
  refine lv_aload_n hx hb dX7_branch_32 rfl (lv_at hl 1 rfl) ?_
  refine g_X7_42 Cx hW (k := 119) (by decide) rfl (v := .ref (G.2.2.1 + 181)) (rf_119_5 iu_5) dX7_branch_33 ?_
  refine sBv (sV (As := [.int (iv r_4), .ref (G.2.2.1 + 181)]) (rest := []) (k := 157) Cx (v_X5_writeBranch l G u_5 (k := r_4) (v := 181) (L := Wm.2.2.1) iu_5 rfl (by omega) (show Hd (bs u_5 181) from xu_5.2.2.2) (TXc.of hT (show u_5.1 160 1 = S.1 160 1 from (fu_5 160 rfl).1 1) (show u_5.1 160 2 = S.1 160 2 from (fu_5 160 rfl).1 2) (show u_5.2.1 161 = S.2.1 161 from funext fun x => (fu_5 161 rfl).2.1 x))) (c_X7_272 Cx rfl rfl (rmk_ok (by omega) (by decide))) hW (by decide) rfl rfl rfl hl.1 rfl (Nat.le_of_ble_eq_true rfl) dX7_branch_36 ⟨Nat.le_of_ble_eq_true rfl, Nat.le_of_ble_eq_true rfl⟩) hL (fun u_9 H locs k_10 hW hL => ?_)
  obtain ⟨iu_9, fu_9, xu_9⟩ := k_10
  have F_11 := F_7.trans (fu_9.to (pB_sub rfl rfl))
  refine lv_aload_n hx hb dX7_branch_39 rfl (lv_at hl 1 rfl) ?_
  refine lv_aload_n hx hb dX7_branch_40 rfl (lv_at hl 1 rfl) ?_
  refine g_X7_12 Cx hW (k := 119) (by decide) rfl (v := .ref (G.2.2.1 + 120)) (rf_119_0 iu_9) dX7_branch_41 ?_
  have q_12 : 0 ≤ S.1 120 9 ∧ S.1 120 9 ≤ 40 := hI.fi 120 9 6 (by decide) rfl
  have lk_13 : u_9.1 120 9 = S.1 120 9 := ((fu_9 120 rfl).1 9).trans ((fu_5 120 rfl).1 9)
  refine sBi (sV (As := []) (rest := [.ref (G.2.2.1 + 119)]) (k := 120) Cx (s_X6_isFull_120 l G u_9  iu_9) (c_X7_255 Cx rfl rfl (rmk_ok (by omega) (by decide))) hW (by decide) rfl rfl rfl hl.1 rfl (Nat.le_of_ble_eq_true rfl) dX7_branch_44 ⟨Nat.le_of_ble_eq_true rfl, Nat.le_of_ble_eq_true rfl⟩) hL (fun r_16 u_14 H locs k_15 hW hL => ?_)
  obtain ⟨eu_14, xu_14⟩ := k_15
  rw [eu_14] at hW
  refine r_if_ne (tgt := 54) hx hb ⟨(by omega), (by omega)⟩ dX7_branch_47 (by decide) (fun c_17 => ?_) (fun c_17 => ?_)
  · refine lv_iconst (v := iv 0) hx hb dX7_branch_54 (by decide) ?_
    have q_18 : 0 ≤ S.1 119 11 ∧ S.1 119 11 ≤ 1000 := hI.fi 119 11 7 (by decide) rfl
    have lk_19 : u_9.1 119 11 = S.1 119 11 := ((fu_9 119 rfl).1 11).trans ((fu_5 119 rfl).1 11)
    have q_20 : 0 ≤ S.1 119 9 ∧ S.1 119 9 ≤ 6 := hI.fi 119 9 7 (by decide) rfl
    have lk_21 : u_9.1 119 9 = S.1 119 9 := ((fu_9 119 rfl).1 9).trans ((fu_5 119 rfl).1 9)
    have q_22 : 0 ≤ S.1 119 8 ∧ S.1 119 8 ≤ 20 := hI.fi 119 8 7 (by decide) rfl
    have lk_23 : u_9.1 119 8 = S.1 119 8 := ((fu_9 119 rfl).1 8).trans ((fu_5 119 rfl).1 8)
    have q_24 : (-2147483648) ≤ S.1 119 10 ∧ S.1 119 10 ≤ 2147483647 := hI.fi 119 10 7 (by decide) rfl
    have lk_25 : u_9.1 119 10 = S.1 119 10 := ((fu_9 119 rfl).1 10).trans ((fu_5 119 rfl).1 10)
    have q_26 : (-2147483648) ≤ S.1 119 12 ∧ S.1 119 12 ≤ 2147483647 := hI.fi 119 12 7 (by decide) rfl
    have lk_27 : u_9.1 119 12 = S.1 119 12 := ((fu_9 119 rfl).1 12).trans ((fu_5 119 rfl).1 12)
    have q_28 : (-2147483648) ≤ S.1 119 13 ∧ S.1 119 13 ≤ 2147483647 := hI.fi 119 13 7 (by decide) rfl
    have lk_29 : u_9.1 119 13 = S.1 119 13 := ((fu_9 119 rfl).1 13).trans ((fu_5 119 rfl).1 13)
    have lk_30 : u_9.1 119 16 = S.1 119 16 := ((fu_9 119 rfl).1 16).trans ((fu_5 119 rfl).1 16)
    refine sBi (sV (As := [.int (iv 0)]) (rest := []) (k := 119) Cx (v_X7_countChild l G u_9 (hro := 0) (L := (tkn (tkn (tkn Wm.2.2.1 wBr) (nmT r_4)) (nmT (Wm.1.2.1 (S.1 119 16) 0 / Wm.1.1)))) iu_9 (TXc.eq xu_9 (by rw [(show bv u_5 181 = Wm.1.2.1 (S.1 119 16) 0 / Wm.1.1 from bv_8)])) (by omega)) (c_X7_258 Cx rfl rfl (rmk_ok (by omega) (by decide))) hW (by decide) rfl rfl rfl hl.1 rfl (Nat.le_of_ble_eq_true rfl) dX7_branch_55 ⟨Nat.le_of_ble_eq_true rfl, Nat.le_of_ble_eq_true rfl⟩) hL (fun r_33 u_31 H locs k_32 hW hL => ?_)
    obtain ⟨iu_31, fu_31, xu_31⟩ := k_32
    have F_34 := F_11.trans (fu_31.to p1119_Sr)
    have hl9 : u_9.1 120 9 = S.1 120 9 := ((fu_9 120 rfl).1 9).trans ((fu_5 120 rfl).1 9)
    have hl9b := hRW.2.1
    refine r_if_ne (tgt := 62) hx hb ⟨(by omega), (by omega)⟩ dX7_branch_58 (by decide) (fun c_35 => ?_) (fun c_35 => ?_)
    · refine lv_aload_n hx hb dX7_branch_62 rfl (lv_at hl 1 rfl) ?_
      refine g_X7_21 Cx hW (k := 119) (by decide) rfl (v := .ref (G.2.2.1 + 135)) (rf_119_1 iu_31) dX7_branch_63 ?_
      refine lv_aload_n hx hb dX7_branch_66 rfl (lv_at hl 1 rfl) ?_
      have q_36 : (-1) ≤ u_31.1 119 16 ∧ u_31.1 119 16 ≤ 40 := iu_31.fi 119 16 7 (by decide) rfl
      refine g_X7_190 Cx hW (k := 119) (by decide) rfl (v := u_31.1 119 16) rfl dX7_branch_67 ?_
      have ccr : r_33 = 1 := (by omega); have ccy := xu_31.2.2.2.1 (by omega); have ccz := xu_31.2.2.2.2.2.1; have ccx := xu_31.2.2.1.mp (by omega); replace xu_31 : Hd _ := xu_31; have hrm2 := hrm (by omega)
      have q_37 : 0 ≤ S.1 135 19 ∧ S.1 135 19 ≤ 102220 := hI.fi 135 19 2 (by decide) rfl
      have lk_38 : u_31.1 135 19 = S.1 135 19 := ((fu_31 135 rfl).1 19).trans (((fu_9 135 rfl).1 19).trans ((fu_5 135 rfl).1 19))
      refine sBv (sV (As := [.int (iv (u_31.1 119 16))]) (rest := []) (k := 135) Cx (v_X2_keep l G u_31 (q := u_31.1 119 16) (oc := oc) (od := od) (n := n) (hw := (hwS Wm)) (d := Wm.1) (sk := Wm.2.2.2.1) iu_31 ⟨hoc, hod, (neD hcd), ((((fu_31 135 rfl).2.2.2 0).trans (((fu_9 135 rfl).2.2.2 0).trans ((fu_5 135 rfl).2.2.2 0))).trans hec), ((((fu_31 135 rfl).2.2.2 1).trans (((fu_9 135 rfl).2.2.2 1).trans ((fu_5 135 rfl).2.2.2 1))).trans hed)⟩ (DRc.of hDR (show u_31.1 135 13 = S.1 135 13 from ((fu_31 135 rfl).1 13).trans (((fu_9 135 rfl).1 13).trans ((fu_5 135 rfl).1 13))) (show u_31.1 135 14 = S.1 135 14 from ((fu_31 135 rfl).1 14).trans (((fu_9 135 rfl).1 14).trans ((fu_5 135 rfl).1 14))) (show u_31.1 135 15 = S.1 135 15 from ((fu_31 135 rfl).1 15).trans (((fu_9 135 rfl).1 15).trans ((fu_5 135 rfl).1 15))) (show u_31.1 135 16 = S.1 135 16 from ((fu_31 135 rfl).1 16).trans (((fu_9 135 rfl).1 16).trans ((fu_5 135 rfl).1 16))) (show u_31.2.1 oc = S.2.1 oc from funext fun x => ((fu_31 oc (dic_p119 hoc)).2.1 x).trans (((fu_9 oc (pB_no (tau_ne (dic_t hoc) (rfl : tau 160 = .inl 10) (fun h => by cases h)) (ac_ne (dic_c hoc) (rfl : acode 161 = 2) (by decide)))).2.1 x).trans ((fu_5 oc (dic_pFl hoc)).2.1 x))) (show u_31.2.1 138 = S.2.1 138 from funext fun x => ((fu_31 138 rfl).2.1 x).trans (((fu_9 138 rfl).2.1 x).trans ((fu_5 138 rfl).2.1 x))) (show u_31.2.1 139 = S.2.1 139 from funext fun x => ((fu_31 139 rfl).2.1 x).trans (((fu_9 139 rfl).2.1 x).trans ((fu_5 139 rfl).2.1 x)))) (by omega) (KSc.of hKS (show u_31.1 135 19 = S.1 135 19 from ((fu_31 135 rfl).1 19).trans (((fu_9 135 rfl).1 19).trans ((fu_5 135 rfl).1 19))) (show u_31.2.1 140 = S.2.1 140 from funext fun x => ((fu_31 140 rfl).2.1 x).trans (((fu_9 140 rfl).2.1 x).trans ((fu_5 140 rfl).2.1 x)))) hiv.2.2.2.2.1 (by omega)) (c_X7_275 Cx rfl rfl (rmk_ok (by omega) (by decide))) hW (by decide) rfl rfl rfl hl.1 rfl (Nat.le_of_ble_eq_true rfl) dX7_branch_70 ⟨Nat.le_of_ble_eq_true rfl, Nat.le_of_ble_eq_true rfl⟩) hL (fun u_39 H locs k_40 hW hL => ?_)
      obtain ⟨iu_39, fu_39, xu_39⟩ := k_40
      have F_41 := F_34.trans (fu_39.to pJ_Sr)
      refine lv_aload_n hx hb dX7_branch_73 rfl (lv_at hl 1 rfl) ?_
      refine g_X7_12 Cx hW (k := 119) (by decide) rfl (v := .ref (G.2.2.1 + 120)) (rf_119_0 iu_39) dX7_branch_74 ?_
      refine lv_iload_n hx hb dX7_branch_77 rfl (lv_at hl 0 rfl) ?_
      refine lv_aload_n hx hb dX7_branch_78 rfl (lv_at hl 1 rfl) ?_
      refine g_X7_42 Cx hW (k := 119) (by decide) rfl (v := .ref (G.2.2.1 + 181)) (rf_119_5 iu_39) dX7_branch_79 ?_
      refine lv_iconst (v := iv 0) hx hb dX7_branch_82 (by decide) ?_
      have q_42 : 0 ≤ u_5.1 181 1 ∧ u_5.1 181 1 ≤ 32 := iu_5.fi 181 1 0 (by decide) rfl
      have lk_43 : u_39.1 181 1 = u_5.1 181 1 := ((fu_39 181 rfl).1 1).trans (((fu_31 181 rfl).1 1).trans ((fu_9 181 rfl).1 1))
      refine sBv (sV (As := [.int (iv r_4), .ref (G.2.2.1 + 181), .int (iv 0)]) (rest := []) (k := 120) Cx (z_X6_addLimit_120 l G u_39 (z := r_4) (ab := 0) (n := n) (cc := Wm.1.2.2.2.2.1) (RR := RR) iu_39 (by omega) (by omega) (by omega) (fun q => by have e : u_39.2.1 182 6 = u_5.2.1 182 6 := ((fu_39 182 rfl).2.1 6).trans (((fu_31 182 rfl).2.1 6).trans ((fu_9 182 rfl).2.1 6)); have e2 := xu_5.2.1 (by omega); rw [e]; omega) (RWz.of hRW (show u_39.1 120 8 = S.1 120 8 from ((fu_39 120 rfl).1 8).trans (((fu_31 120 rfl).1 8).trans (((fu_9 120 rfl).1 8).trans ((fu_5 120 rfl).1 8)))) (show u_39.1 120 9 = S.1 120 9 from ((fu_39 120 rfl).1 9).trans (((fu_31 120 rfl).1 9).trans (((fu_9 120 rfl).1 9).trans ((fu_5 120 rfl).1 9)))) (show u_39.2.1 121 = S.2.1 121 from funext fun x => ((fu_39 121 rfl).2.1 x).trans (((fu_31 121 rfl).2.1 x).trans (((fu_9 121 rfl).2.1 x).trans ((fu_5 121 rfl).2.1 x))))) (show Hd (bs u_39 181) from (bs_fr fu_39 rfl (bs_fr fu_31 rfl (bs_fr fu_9 rfl xu_5.2.2.2))))) (c_X7_278 Cx rfl rfl (rmk_ok (by omega) (by decide))) hW (by decide) rfl rfl rfl hl.1 rfl (Nat.le_of_ble_eq_true rfl) dX7_branch_83 ⟨Nat.le_of_ble_eq_true rfl, Nat.le_of_ble_eq_true rfl⟩) hL (fun u_44 H locs k_45 hW hL => ?_)
      obtain ⟨iu_44, fu_44, xu_44⟩ := k_45
      have F_46 := F_41.trans (fu_44.to pRz_Sr)
      have hrw := xu_44 (by omega) (by omega) (by omega)
      refine lv_aload_n hx hb dX7_branch_86 rfl (lv_at hl 1 rfl) ?_
      refine g_X7_21 Cx hW (k := 119) (by decide) rfl (v := .ref (G.2.2.1 + 135)) (rf_119_1 iu_44) dX7_branch_87 ?_
      refine lv_aload_n hx hb dX7_branch_90 rfl (lv_at hl 1 rfl) ?_
      refine g_X7_190 Cx hW (k := 119) (by decide) rfl (v := u_31.1 119 16) (((fu_44 119 rfl).1 16).trans ((fu_39 119 rfl).1 16)) dX7_branch_91 ?_
      refine lv_iconst (v := iv 0) hx hb dX7_branch_94 (by decide) ?_
      have q_47 : 0 ≤ u_39.1 135 19 ∧ u_39.1 135 19 ≤ 102220 := iu_39.fi 135 19 2 (by decide) rfl
      have lk_48 : u_44.1 135 19 = u_39.1 135 19 := (fu_44 135 rfl).1 19
      refine sBv (sV (As := [.int (iv (u_31.1 119 16)), .int (iv 0)]) (rest := []) (k := 135) Cx (v_X2_addLimit l G u_44 (rr := u_31.1 119 16) (ab := 0) (oc := oc) (od := od) (n := n) (hw := (hwS Wm)) (d := Wm.1) iu_44 ⟨hoc, hod, (neD hcd), (((fu_44 135 rfl).2.2.2 0).trans xu_39.1.2.2.2.1), (((fu_44 135 rfl).2.2.2 1).trans xu_39.1.2.2.2.2)⟩ (DRc.of xu_39.2.1 (show u_44.1 135 13 = u_39.1 135 13 from (fu_44 135 rfl).1 13) (show u_44.1 135 14 = u_39.1 135 14 from (fu_44 135 rfl).1 14) (show u_44.1 135 15 = u_39.1 135 15 from (fu_44 135 rfl).1 15) (show u_44.1 135 16 = u_39.1 135 16 from (fu_44 135 rfl).1 16) (show u_44.2.1 oc = u_39.2.1 oc from funext fun x => (fu_44 oc (dic_pRz hoc)).2.1 x) (show u_44.2.1 138 = u_39.2.1 138 from funext fun x => (fu_44 138 rfl).2.1 x) (show u_44.2.1 139 = u_39.2.1 139 from funext fun x => (fu_44 139 rfl).2.1 x)) (by omega) (by omega) (by omega)) (c_X7_282 Cx rfl rfl (rmk_ok (by omega) (by decide))) hW (by decide) rfl rfl rfl hl.1 rfl (Nat.le_of_ble_eq_true rfl) dX7_branch_95 ⟨Nat.le_of_ble_eq_true rfl, Nat.le_of_ble_eq_true rfl⟩) hL (fun u_49 H locs k_50 hW hL => ?_)
      obtain ⟨iu_49, fu_49, xu_49⟩ := k_50
      have F_51 := F_46.trans (fu_49.to pCx_Sr)
      have hda : dcs G u_49 oc od ∧ DRc u_49 oc n 0 (adR n Wm.1 (loR Wm.1 (Wm.2.1 2))) := by have e := xu_49.1 (by omega); rw [show u_31.1 119 16 = Wm.2.1 2 by omega, hw0, if_pos rfl] at e; exact e
      have q_52 : 0 ≤ u_31.1 119 9 ∧ u_31.1 119 9 ≤ 6 := iu_31.fi 119 9 7 (by decide) rfl
      have lk_53 : u_49.1 119 9 = u_31.1 119 9 := ((fu_49 119 rfl).1 9).trans (((fu_44 119 rfl).1 9).trans ((fu_39 119 rfl).1 9))
      have q_54 : 0 ≤ u_31.1 119 8 ∧ u_31.1 119 8 ≤ 20 := iu_31.fi 119 8 7 (by decide) rfl
      have lk_55 : u_49.1 119 8 = u_31.1 119 8 := ((fu_49 119 rfl).1 8).trans (((fu_44 119 rfl).1 8).trans ((fu_39 119 rfl).1 8))
      have q_56 : (-2147483648) ≤ u_31.1 119 10 ∧ u_31.1 119 10 ≤ 2147483647 := iu_31.fi 119 10 7 (by decide) rfl
      have lk_57 : u_49.1 119 10 = u_31.1 119 10 := ((fu_49 119 rfl).1 10).trans (((fu_44 119 rfl).1 10).trans ((fu_39 119 rfl).1 10))
      have q_58 : 0 ≤ u_31.1 119 11 ∧ u_31.1 119 11 ≤ 1000 := iu_31.fi 119 11 7 (by decide) rfl
      have lk_59 : u_49.1 119 11 = u_31.1 119 11 := ((fu_49 119 rfl).1 11).trans (((fu_44 119 rfl).1 11).trans ((fu_39 119 rfl).1 11))
      have q_60 : (-2147483648) ≤ u_31.1 119 12 ∧ u_31.1 119 12 ≤ 2147483647 := iu_31.fi 119 12 7 (by decide) rfl
      have lk_61 : u_49.1 119 12 = u_31.1 119 12 := ((fu_49 119 rfl).1 12).trans (((fu_44 119 rfl).1 12).trans ((fu_39 119 rfl).1 12))
      have q_62 : (-2147483648) ≤ u_31.1 119 13 ∧ u_31.1 119 13 ≤ 2147483647 := iu_31.fi 119 13 7 (by decide) rfl
      have lk_63 : u_49.1 119 13 = u_31.1 119 13 := ((fu_49 119 rfl).1 13).trans (((fu_44 119 rfl).1 13).trans ((fu_39 119 rfl).1 13))
      have q_64 : 0 ≤ u_31.1 119 14 ∧ u_31.1 119 14 ≤ 3 := iu_31.fi 119 14 7 (by decide) rfl
      have lk_65 : u_49.1 119 14 = u_31.1 119 14 := ((fu_49 119 rfl).1 14).trans (((fu_44 119 rfl).1 14).trans ((fu_39 119 rfl).1 14))
      have q_66 : 0 ≤ u_31.1 119 15 ∧ u_31.1 119 15 ≤ 6 := iu_31.fi 119 15 7 (by decide) rfl
      have lk_67 : u_49.1 119 15 = u_31.1 119 15 := ((fu_49 119 rfl).1 15).trans (((fu_44 119 rfl).1 15).trans ((fu_39 119 rfl).1 15))
      have lk_68 : u_49.1 119 16 = u_31.1 119 16 := ((fu_49 119 rfl).1 16).trans (((fu_44 119 rfl).1 16).trans ((fu_39 119 rfl).1 16))
      have q_69 : (-1) ≤ u_49.1 135 17 ∧ u_49.1 135 17 ≤ 40 := iu_49.fi 135 17 2 (by decide) rfl
      have q_70 : (-1) ≤ u_49.1 135 18 ∧ u_49.1 135 18 ≤ 13 := iu_49.fi 135 18 2 (by decide) rfl
      exact sVret Cx hr hlk hW hL ⟨iu_49, F_51, (by rw [show (stp (KKm n A wh al) Wm) = (adR (KKm n A wh al).1 Wm.1 (loR Wm.1 (Wm.2.1 2)), chC Wm.2.1, (brT Wm.1 (Wm.2.1 2) Wm.2.2.1), (Wm.1, Wm.2.1 2) :: Wm.2.2.2.1, Wm.2.2.2.2) from ((stp_5 hnx).trans (cif_f (c := (30000 < (brT Wm.1 (Wm.2.1 2) Wm.2.2.1).length ∨ 40 ≤ Wm.1.2.2.2.2.1 ∨ 1000 ≤ Wm.2.1 5)) (fun z => by have y := xu_31.2.2.1.mp (by omega); rcases z with q | q | q; (rw [← (show tkn (tkn (tkn Wm.2.2.1 wBr) (nmT r_4)) (nmT (Wm.1.2.1 (S.1 119 16) 0 / Wm.1.1)) = (brT Wm.1 (Wm.2.1 2) Wm.2.2.1) by unfold brT; rw [show r_4 = Wm.1.2.2.1 (Wm.2.1 2) by rw [← k16 (by omega)]; exact xu_2.2.1 (by omega) (by omega), k16 (by omega)])] at q; exact y.1 q); omega; omega)))]; exact ⟨(show u_49.1 119 9 = Wm.2.1 0 by omega), fun _ => ⟨_, ⟨⟨hoc, hod, (neD hcd), hda.1.2.2.2.1, hda.1.2.2.2.2⟩, (show DRc u_49 oc n 0 (adR n Wm.1 (loR Wm.1 (Wm.2.1 2))) from DRc.of hda.2 (rfl) (rfl) (rfl) (rfl) (funext fun x => rfl) (funext fun x => rfl) (funext fun x => rfl)), (by have e := (KSc.of (KSc.of xu_39.2.2 (show u_44.1 135 19 = u_39.1 135 19 from (fu_44 135 rfl).1 19) (show u_44.2.1 140 = u_39.2.1 140 from funext fun x => (fu_44 140 rfl).2.1 x)) xu_49.2 (funext fun x => (fu_49 140 rfl).2.1 x)); rw [show u_31.1 119 16 = Wm.2.1 2 by omega] at e; exact e), (TXc.eq (TXc.of (TXc.eq xu_9 (by rw [(show bv u_5 181 = Wm.1.2.1 (S.1 119 16) 0 / Wm.1.1 from bv_8)])) (show u_49.1 160 1 = u_9.1 160 1 from ((fu_49 160 rfl).1 1).trans (((fu_44 160 rfl).1 1).trans (((fu_39 160 rfl).1 1).trans ((fu_31 160 rfl).1 1)))) (show u_49.1 160 2 = u_9.1 160 2 from ((fu_49 160 rfl).1 2).trans (((fu_44 160 rfl).1 2).trans (((fu_39 160 rfl).1 2).trans ((fu_31 160 rfl).1 2)))) (show u_49.2.1 161 = u_9.2.1 161 from funext fun x => ((fu_49 161 rfl).2.1 x).trans (((fu_44 161 rfl).2.1 x).trans (((fu_39 161 rfl).2.1 x).trans ((fu_31 161 rfl).2.1 x))))) (show tkn (tkn (tkn Wm.2.2.1 wBr) (nmT r_4)) (nmT (Wm.1.2.1 (S.1 119 16) 0 / Wm.1.1)) = (brT Wm.1 (Wm.2.1 2) Wm.2.2.1) by unfold brT; rw [show r_4 = Wm.1.2.2.1 (Wm.2.1 2) by rw [← k16 (by omega)]; exact xu_2.2.1 (by omega) (by omega), k16 (by omega)])), (RWz.of hrw (show u_49.1 120 8 = u_44.1 120 8 from (fu_49 120 rfl).1 8) (show u_49.1 120 9 = u_44.1 120 9 from (fu_49 120 rfl).1 9) (show u_49.2.1 121 = u_44.2.1 121 from funext fun x => (fu_49 121 rfl).2.1 x)), (fun q => absurd (h45.2.2.2.mpr q) (by omega)), ⟨((((fu_49 119 rfl).2.2.2 7).trans (((fu_44 119 rfl).2.2.2 7).trans ((fu_39 119 rfl).2.2.2 7)) : u_49.2.2.2 119 7 = u_31.2.2.2 119 7).trans ((xu_31.2.2.2.2.2.2 7).trans ((((fu_9 119 rfl).2.2.2 7).trans ((fu_5 119 rfl).2.2.2 7)).trans hmr))), (MDv.of hMD (show u_49.1 md 2 = S.1 md 2 from ((fu_49 md (mo_pCx hmo).1).1 2).trans (((fu_44 md (mo_pRz hmo).1).1 2).trans (((fu_39 md (mo_pJ hmo).1).1 2).trans (((fu_31 md (mo_p119 hmo).1).1 2).trans (((fu_9 md (pB_no (tau_ne hmo.1 (rfl : tau 160 = .inl 10) (fun h => by cases h)) (tau_ne hmo.1 (rfl : tau 161 = .inr (.byte, 30000)) (fun h => by cases h)))).1 2).trans ((fu_5 md (mo_pFl hmo).1).1 2)))))) (show u_49.1 md 3 = S.1 md 3 from ((fu_49 md (mo_pCx hmo).1).1 3).trans (((fu_44 md (mo_pRz hmo).1).1 3).trans (((fu_39 md (mo_pJ hmo).1).1 3).trans (((fu_31 md (mo_p119 hmo).1).1 3).trans (((fu_9 md (pB_no (tau_ne hmo.1 (rfl : tau 160 = .inl 10) (fun h => by cases h)) (tau_ne hmo.1 (rfl : tau 161 = .inr (.byte, 30000)) (fun h => by cases h)))).1 3).trans ((fu_5 md (mo_pFl hmo).1).1 3)))))) (show u_49.1 md 4 = S.1 md 4 from ((fu_49 md (mo_pCx hmo).1).1 4).trans (((fu_44 md (mo_pRz hmo).1).1 4).trans (((fu_39 md (mo_pJ hmo).1).1 4).trans (((fu_31 md (mo_p119 hmo).1).1 4).trans (((fu_9 md (pB_no (tau_ne hmo.1 (rfl : tau 160 = .inl 10) (fun h => by cases h)) (tau_ne hmo.1 (rfl : tau 161 = .inr (.byte, 30000)) (fun h => by cases h)))).1 4).trans ((fu_5 md (mo_pFl hmo).1).1 4)))))) (show u_49.2.1 (md + 1) = S.2.1 (md + 1) from funext fun x => ((fu_49 (md + 1) (mo_pCx hmo).2.1).2.1 x).trans (((fu_44 (md + 1) (mo_pRz hmo).2.1).2.1 x).trans (((fu_39 (md + 1) (mo_pJ hmo).2.1).2.1 x).trans (((fu_31 (md + 1) (mo_p119 hmo).2.1).2.1 x).trans (((fu_9 (md + 1) (pB_no (tau_ne hmo.2.1 (rfl : tau 160 = .inl 10) (fun h => by cases h)) (tau_ne hmo.2.1 (rfl : tau 161 = .inr (.byte, 30000)) (fun h => by cases h)))).2.1 x).trans ((fu_5 (md + 1) (mo_pFl hmo).2.1).2.1 x)))))) (show u_49.2.1 (md + 2) = S.2.1 (md + 2) from funext fun x => ((fu_49 (md + 2) (mo_pCx hmo).2.2).2.1 x).trans (((fu_44 (md + 2) (mo_pRz hmo).2.2).2.1 x).trans (((fu_39 (md + 2) (mo_pJ hmo).2.2).2.1 x).trans (((fu_31 (md + 2) (mo_p119 hmo).2.2).2.1 x).trans (((fu_9 (md + 2) (pB_no (tau_ne hmo.2.2.1 (rfl : tau 160 = .inl 10) (fun h => by cases h)) (tau_ne hmo.2.2.1 (rfl : tau 161 = .inr (.byte, 30000)) (fun h => by cases h)))).2.1 x).trans ((fu_5 (md + 2) (mo_pFl hmo).2.2).2.1 x)))))))⟩, (BPc.of hBP (show u_49.2.1 162 = S.2.1 162 from funext fun x => ((fu_49 162 rfl).2.1 x).trans (((fu_44 162 rfl).2.1 x).trans (((fu_39 162 rfl).2.1 x).trans (((fu_31 162 rfl).2.1 x).trans (((fu_9 162 rfl).2.1 x).trans ((fu_5 162 rfl).2.1 x))))))), ⟨(show u_49.1 119 8 = al by omega), (show u_49.1 119 9 = Wm.2.1 0 by omega), (show u_49.1 119 10 = Wm.2.1 4 by omega), (show u_49.1 119 11 = Wm.2.1 5 + 1 by omega), (show u_49.1 119 12 = Wm.2.1 6 by omega), (show u_49.1 119 13 = Wm.2.1 7 by omega), (show u_49.1 119 14 = phC (4) by unfold phC; omega), (show u_49.1 119 15 = 0 by omega), (fun qz => by have qz : (3 : Int) ≤ (0 : Int) ∧ (0 : Int) ≤ 5 := qz; show u_49.1 119 16 = Wm.2.1 2; omega), (fun qz => by have qz : (0 : Int) = 1 := qz; show u_49.1 135 17 = Wm.2.1 8 ∧ u_49.1 135 18 = Wm.2.1 9; omega), (fun qz => by have qz : (Wm.2.1 0 : Int) = 4 := qz; show u_49.1 135 18 = Wm.2.1 9; omega)⟩⟩⟩⟩)⟩ dX7_branch_98
    · have q_71 : 0 ≤ u_31.1 119 9 ∧ u_31.1 119 9 ≤ 6 := iu_31.fi 119 9 7 (by decide) rfl
      exact sVret Cx hr hlk hW hL ⟨iu_31, F_34, (by rw [show (stp (KKm n A wh al) Wm) = wC Wm (cu Wm.2.1 0 6) from ((stp_5 hnx).trans (cif_t (c := (30000 < (brT Wm.1 (Wm.2.1 2) Wm.2.2.1).length ∨ 40 ≤ Wm.1.2.2.2.2.1 ∨ 1000 ≤ Wm.2.1 5)) (by by_cases z : 30000 < (brT Wm.1 (Wm.2.1 2) Wm.2.2.1).length; exact .inl z; by_cases y : 40 ≤ Wm.1.2.2.2.2.1; exact .inr (.inl y); by_cases x9 : 1000 ≤ Wm.2.1 5; exact .inr (.inr x9); exfalso; have := xu_31.2.2.1.mpr ⟨by rw [(show tkn (tkn (tkn Wm.2.2.1 wBr) (nmT r_4)) (nmT (Wm.1.2.1 (S.1 119 16) 0 / Wm.1.1)) = (brT Wm.1 (Wm.2.1 2) Wm.2.2.1) by unfold brT; rw [show r_4 = Wm.1.2.2.1 (Wm.2.1 2) by rw [← k16 (by omega)]; exact xu_2.2.1 (by omega) (by omega), k16 (by omega)])]; exact z, by omega, by omega⟩; omega)))]; exact ⟨(show u_31.1 119 9 = 6 by omega), fun q => absurd (show (6 : Int) ≤ 4 from q) (by decide)⟩)⟩ dX7_branch_61
  · refine lv_iconst (v := iv 1) hx hb dX7_branch_50 (by decide) ?_
    refine lv_goto (tgt := 55) hx hb dX7_branch_51 (by decide) ?_
    have q_72 : 0 ≤ S.1 119 11 ∧ S.1 119 11 ≤ 1000 := hI.fi 119 11 7 (by decide) rfl
    have lk_73 : u_9.1 119 11 = S.1 119 11 := ((fu_9 119 rfl).1 11).trans ((fu_5 119 rfl).1 11)
    have q_74 : 0 ≤ S.1 119 9 ∧ S.1 119 9 ≤ 6 := hI.fi 119 9 7 (by decide) rfl
    have lk_75 : u_9.1 119 9 = S.1 119 9 := ((fu_9 119 rfl).1 9).trans ((fu_5 119 rfl).1 9)
    have q_76 : 0 ≤ S.1 119 8 ∧ S.1 119 8 ≤ 20 := hI.fi 119 8 7 (by decide) rfl
    have lk_77 : u_9.1 119 8 = S.1 119 8 := ((fu_9 119 rfl).1 8).trans ((fu_5 119 rfl).1 8)
    have q_78 : (-2147483648) ≤ S.1 119 10 ∧ S.1 119 10 ≤ 2147483647 := hI.fi 119 10 7 (by decide) rfl
    have lk_79 : u_9.1 119 10 = S.1 119 10 := ((fu_9 119 rfl).1 10).trans ((fu_5 119 rfl).1 10)
    have q_80 : (-2147483648) ≤ S.1 119 12 ∧ S.1 119 12 ≤ 2147483647 := hI.fi 119 12 7 (by decide) rfl
    have lk_81 : u_9.1 119 12 = S.1 119 12 := ((fu_9 119 rfl).1 12).trans ((fu_5 119 rfl).1 12)
    have q_82 : (-2147483648) ≤ S.1 119 13 ∧ S.1 119 13 ≤ 2147483647 := hI.fi 119 13 7 (by decide) rfl
    have lk_83 : u_9.1 119 13 = S.1 119 13 := ((fu_9 119 rfl).1 13).trans ((fu_5 119 rfl).1 13)
    have lk_84 : u_9.1 119 16 = S.1 119 16 := ((fu_9 119 rfl).1 16).trans ((fu_5 119 rfl).1 16)
    refine sBi (sV (As := [.int (iv 1)]) (rest := []) (k := 119) Cx (v_X7_countChild l G u_9 (hro := 1) (L := (tkn (tkn (tkn Wm.2.2.1 wBr) (nmT r_4)) (nmT (Wm.1.2.1 (S.1 119 16) 0 / Wm.1.1)))) iu_9 (TXc.eq xu_9 (by rw [(show bv u_5 181 = Wm.1.2.1 (S.1 119 16) 0 / Wm.1.1 from bv_8)])) (by omega)) (c_X7_258 Cx rfl rfl (rmk_ok (by omega) (by decide))) hW (by decide) rfl rfl rfl hl.1 rfl (Nat.le_of_ble_eq_true rfl) dX7_branch_55 ⟨Nat.le_of_ble_eq_true rfl, Nat.le_of_ble_eq_true rfl⟩) hL (fun r_87 u_85 H locs k_86 hW hL => ?_)
    obtain ⟨iu_85, fu_85, xu_85⟩ := k_86
    have F_88 := F_11.trans (fu_85.to p1119_Sr)
    have hl9 : u_9.1 120 9 = S.1 120 9 := ((fu_9 120 rfl).1 9).trans ((fu_5 120 rfl).1 9)
    have hl9b := hRW.2.1
    refine r_if_ne (tgt := 62) hx hb ⟨(by omega), (by omega)⟩ dX7_branch_58 (by decide) (fun c_89 => ?_) (fun c_89 => ?_)
    · refine lv_aload_n hx hb dX7_branch_62 rfl (lv_at hl 1 rfl) ?_
      refine g_X7_21 Cx hW (k := 119) (by decide) rfl (v := .ref (G.2.2.1 + 135)) (rf_119_1 iu_85) dX7_branch_63 ?_
      refine lv_aload_n hx hb dX7_branch_66 rfl (lv_at hl 1 rfl) ?_
      have q_90 : (-1) ≤ u_85.1 119 16 ∧ u_85.1 119 16 ≤ 40 := iu_85.fi 119 16 7 (by decide) rfl
      refine g_X7_190 Cx hW (k := 119) (by decide) rfl (v := u_85.1 119 16) rfl dX7_branch_67 ?_
      have ccr : r_87 = 1 := (by omega); have ccy := xu_85.2.2.2.1 (by omega); have ccz := xu_85.2.2.2.2.2.1; have ccx := xu_85.2.2.1.mp (by omega); replace xu_85 : Hd _ := xu_85; have hrm2 := hrm (by omega)
      have q_91 : 0 ≤ S.1 135 19 ∧ S.1 135 19 ≤ 102220 := hI.fi 135 19 2 (by decide) rfl
      have lk_92 : u_85.1 135 19 = S.1 135 19 := ((fu_85 135 rfl).1 19).trans (((fu_9 135 rfl).1 19).trans ((fu_5 135 rfl).1 19))
      refine sBv (sV (As := [.int (iv (u_85.1 119 16))]) (rest := []) (k := 135) Cx (v_X2_keep l G u_85 (q := u_85.1 119 16) (oc := oc) (od := od) (n := n) (hw := (hwS Wm)) (d := Wm.1) (sk := Wm.2.2.2.1) iu_85 ⟨hoc, hod, (neD hcd), ((((fu_85 135 rfl).2.2.2 0).trans (((fu_9 135 rfl).2.2.2 0).trans ((fu_5 135 rfl).2.2.2 0))).trans hec), ((((fu_85 135 rfl).2.2.2 1).trans (((fu_9 135 rfl).2.2.2 1).trans ((fu_5 135 rfl).2.2.2 1))).trans hed)⟩ (DRc.of hDR (show u_85.1 135 13 = S.1 135 13 from ((fu_85 135 rfl).1 13).trans (((fu_9 135 rfl).1 13).trans ((fu_5 135 rfl).1 13))) (show u_85.1 135 14 = S.1 135 14 from ((fu_85 135 rfl).1 14).trans (((fu_9 135 rfl).1 14).trans ((fu_5 135 rfl).1 14))) (show u_85.1 135 15 = S.1 135 15 from ((fu_85 135 rfl).1 15).trans (((fu_9 135 rfl).1 15).trans ((fu_5 135 rfl).1 15))) (show u_85.1 135 16 = S.1 135 16 from ((fu_85 135 rfl).1 16).trans (((fu_9 135 rfl).1 16).trans ((fu_5 135 rfl).1 16))) (show u_85.2.1 oc = S.2.1 oc from funext fun x => ((fu_85 oc (dic_p119 hoc)).2.1 x).trans (((fu_9 oc (pB_no (tau_ne (dic_t hoc) (rfl : tau 160 = .inl 10) (fun h => by cases h)) (ac_ne (dic_c hoc) (rfl : acode 161 = 2) (by decide)))).2.1 x).trans ((fu_5 oc (dic_pFl hoc)).2.1 x))) (show u_85.2.1 138 = S.2.1 138 from funext fun x => ((fu_85 138 rfl).2.1 x).trans (((fu_9 138 rfl).2.1 x).trans ((fu_5 138 rfl).2.1 x))) (show u_85.2.1 139 = S.2.1 139 from funext fun x => ((fu_85 139 rfl).2.1 x).trans (((fu_9 139 rfl).2.1 x).trans ((fu_5 139 rfl).2.1 x)))) (by omega) (KSc.of hKS (show u_85.1 135 19 = S.1 135 19 from ((fu_85 135 rfl).1 19).trans (((fu_9 135 rfl).1 19).trans ((fu_5 135 rfl).1 19))) (show u_85.2.1 140 = S.2.1 140 from funext fun x => ((fu_85 140 rfl).2.1 x).trans (((fu_9 140 rfl).2.1 x).trans ((fu_5 140 rfl).2.1 x)))) hiv.2.2.2.2.1 (by omega)) (c_X7_275 Cx rfl rfl (rmk_ok (by omega) (by decide))) hW (by decide) rfl rfl rfl hl.1 rfl (Nat.le_of_ble_eq_true rfl) dX7_branch_70 ⟨Nat.le_of_ble_eq_true rfl, Nat.le_of_ble_eq_true rfl⟩) hL (fun u_93 H locs k_94 hW hL => ?_)
      obtain ⟨iu_93, fu_93, xu_93⟩ := k_94
      have F_95 := F_88.trans (fu_93.to pJ_Sr)
      refine lv_aload_n hx hb dX7_branch_73 rfl (lv_at hl 1 rfl) ?_
      refine g_X7_12 Cx hW (k := 119) (by decide) rfl (v := .ref (G.2.2.1 + 120)) (rf_119_0 iu_93) dX7_branch_74 ?_
      refine lv_iload_n hx hb dX7_branch_77 rfl (lv_at hl 0 rfl) ?_
      refine lv_aload_n hx hb dX7_branch_78 rfl (lv_at hl 1 rfl) ?_
      refine g_X7_42 Cx hW (k := 119) (by decide) rfl (v := .ref (G.2.2.1 + 181)) (rf_119_5 iu_93) dX7_branch_79 ?_
      refine lv_iconst (v := iv 0) hx hb dX7_branch_82 (by decide) ?_
      have q_96 : 0 ≤ u_5.1 181 1 ∧ u_5.1 181 1 ≤ 32 := iu_5.fi 181 1 0 (by decide) rfl
      have lk_97 : u_93.1 181 1 = u_5.1 181 1 := ((fu_93 181 rfl).1 1).trans (((fu_85 181 rfl).1 1).trans ((fu_9 181 rfl).1 1))
      refine sBv (sV (As := [.int (iv r_4), .ref (G.2.2.1 + 181), .int (iv 0)]) (rest := []) (k := 120) Cx (z_X6_addLimit_120 l G u_93 (z := r_4) (ab := 0) (n := n) (cc := Wm.1.2.2.2.2.1) (RR := RR) iu_93 (by omega) (by omega) (by omega) (fun q => by have e : u_93.2.1 182 6 = u_5.2.1 182 6 := ((fu_93 182 rfl).2.1 6).trans (((fu_85 182 rfl).2.1 6).trans ((fu_9 182 rfl).2.1 6)); have e2 := xu_5.2.1 (by omega); rw [e]; omega) (RWz.of hRW (show u_93.1 120 8 = S.1 120 8 from ((fu_93 120 rfl).1 8).trans (((fu_85 120 rfl).1 8).trans (((fu_9 120 rfl).1 8).trans ((fu_5 120 rfl).1 8)))) (show u_93.1 120 9 = S.1 120 9 from ((fu_93 120 rfl).1 9).trans (((fu_85 120 rfl).1 9).trans (((fu_9 120 rfl).1 9).trans ((fu_5 120 rfl).1 9)))) (show u_93.2.1 121 = S.2.1 121 from funext fun x => ((fu_93 121 rfl).2.1 x).trans (((fu_85 121 rfl).2.1 x).trans (((fu_9 121 rfl).2.1 x).trans ((fu_5 121 rfl).2.1 x))))) (show Hd (bs u_93 181) from (bs_fr fu_93 rfl (bs_fr fu_85 rfl (bs_fr fu_9 rfl xu_5.2.2.2))))) (c_X7_278 Cx rfl rfl (rmk_ok (by omega) (by decide))) hW (by decide) rfl rfl rfl hl.1 rfl (Nat.le_of_ble_eq_true rfl) dX7_branch_83 ⟨Nat.le_of_ble_eq_true rfl, Nat.le_of_ble_eq_true rfl⟩) hL (fun u_98 H locs k_99 hW hL => ?_)
      obtain ⟨iu_98, fu_98, xu_98⟩ := k_99
      have F_100 := F_95.trans (fu_98.to pRz_Sr)
      have hrw := xu_98 (by omega) (by omega) (by omega)
      refine lv_aload_n hx hb dX7_branch_86 rfl (lv_at hl 1 rfl) ?_
      refine g_X7_21 Cx hW (k := 119) (by decide) rfl (v := .ref (G.2.2.1 + 135)) (rf_119_1 iu_98) dX7_branch_87 ?_
      refine lv_aload_n hx hb dX7_branch_90 rfl (lv_at hl 1 rfl) ?_
      refine g_X7_190 Cx hW (k := 119) (by decide) rfl (v := u_85.1 119 16) (((fu_98 119 rfl).1 16).trans ((fu_93 119 rfl).1 16)) dX7_branch_91 ?_
      refine lv_iconst (v := iv 0) hx hb dX7_branch_94 (by decide) ?_
      have q_101 : 0 ≤ u_93.1 135 19 ∧ u_93.1 135 19 ≤ 102220 := iu_93.fi 135 19 2 (by decide) rfl
      have lk_102 : u_98.1 135 19 = u_93.1 135 19 := (fu_98 135 rfl).1 19
      refine sBv (sV (As := [.int (iv (u_85.1 119 16)), .int (iv 0)]) (rest := []) (k := 135) Cx (v_X2_addLimit l G u_98 (rr := u_85.1 119 16) (ab := 0) (oc := oc) (od := od) (n := n) (hw := (hwS Wm)) (d := Wm.1) iu_98 ⟨hoc, hod, (neD hcd), (((fu_98 135 rfl).2.2.2 0).trans xu_93.1.2.2.2.1), (((fu_98 135 rfl).2.2.2 1).trans xu_93.1.2.2.2.2)⟩ (DRc.of xu_93.2.1 (show u_98.1 135 13 = u_93.1 135 13 from (fu_98 135 rfl).1 13) (show u_98.1 135 14 = u_93.1 135 14 from (fu_98 135 rfl).1 14) (show u_98.1 135 15 = u_93.1 135 15 from (fu_98 135 rfl).1 15) (show u_98.1 135 16 = u_93.1 135 16 from (fu_98 135 rfl).1 16) (show u_98.2.1 oc = u_93.2.1 oc from funext fun x => (fu_98 oc (dic_pRz hoc)).2.1 x) (show u_98.2.1 138 = u_93.2.1 138 from funext fun x => (fu_98 138 rfl).2.1 x) (show u_98.2.1 139 = u_93.2.1 139 from funext fun x => (fu_98 139 rfl).2.1 x)) (by omega) (by omega) (by omega)) (c_X7_282 Cx rfl rfl (rmk_ok (by omega) (by decide))) hW (by decide) rfl rfl rfl hl.1 rfl (Nat.le_of_ble_eq_true rfl) dX7_branch_95 ⟨Nat.le_of_ble_eq_true rfl, Nat.le_of_ble_eq_true rfl⟩) hL (fun u_103 H locs k_104 hW hL => ?_)
      obtain ⟨iu_103, fu_103, xu_103⟩ := k_104
      have F_105 := F_100.trans (fu_103.to pCx_Sr)
      have hda : dcs G u_103 oc od ∧ DRc u_103 oc n 0 (adR n Wm.1 (loR Wm.1 (Wm.2.1 2))) := by have e := xu_103.1 (by omega); rw [show u_85.1 119 16 = Wm.2.1 2 by omega, hw0, if_pos rfl] at e; exact e
      have q_106 : 0 ≤ u_85.1 119 9 ∧ u_85.1 119 9 ≤ 6 := iu_85.fi 119 9 7 (by decide) rfl
      have lk_107 : u_103.1 119 9 = u_85.1 119 9 := ((fu_103 119 rfl).1 9).trans (((fu_98 119 rfl).1 9).trans ((fu_93 119 rfl).1 9))
      have q_108 : 0 ≤ u_85.1 119 8 ∧ u_85.1 119 8 ≤ 20 := iu_85.fi 119 8 7 (by decide) rfl
      have lk_109 : u_103.1 119 8 = u_85.1 119 8 := ((fu_103 119 rfl).1 8).trans (((fu_98 119 rfl).1 8).trans ((fu_93 119 rfl).1 8))
      have q_110 : (-2147483648) ≤ u_85.1 119 10 ∧ u_85.1 119 10 ≤ 2147483647 := iu_85.fi 119 10 7 (by decide) rfl
      have lk_111 : u_103.1 119 10 = u_85.1 119 10 := ((fu_103 119 rfl).1 10).trans (((fu_98 119 rfl).1 10).trans ((fu_93 119 rfl).1 10))
      have q_112 : 0 ≤ u_85.1 119 11 ∧ u_85.1 119 11 ≤ 1000 := iu_85.fi 119 11 7 (by decide) rfl
      have lk_113 : u_103.1 119 11 = u_85.1 119 11 := ((fu_103 119 rfl).1 11).trans (((fu_98 119 rfl).1 11).trans ((fu_93 119 rfl).1 11))
      have q_114 : (-2147483648) ≤ u_85.1 119 12 ∧ u_85.1 119 12 ≤ 2147483647 := iu_85.fi 119 12 7 (by decide) rfl
      have lk_115 : u_103.1 119 12 = u_85.1 119 12 := ((fu_103 119 rfl).1 12).trans (((fu_98 119 rfl).1 12).trans ((fu_93 119 rfl).1 12))
      have q_116 : (-2147483648) ≤ u_85.1 119 13 ∧ u_85.1 119 13 ≤ 2147483647 := iu_85.fi 119 13 7 (by decide) rfl
      have lk_117 : u_103.1 119 13 = u_85.1 119 13 := ((fu_103 119 rfl).1 13).trans (((fu_98 119 rfl).1 13).trans ((fu_93 119 rfl).1 13))
      have q_118 : 0 ≤ u_85.1 119 14 ∧ u_85.1 119 14 ≤ 3 := iu_85.fi 119 14 7 (by decide) rfl
      have lk_119 : u_103.1 119 14 = u_85.1 119 14 := ((fu_103 119 rfl).1 14).trans (((fu_98 119 rfl).1 14).trans ((fu_93 119 rfl).1 14))
      have q_120 : 0 ≤ u_85.1 119 15 ∧ u_85.1 119 15 ≤ 6 := iu_85.fi 119 15 7 (by decide) rfl
      have lk_121 : u_103.1 119 15 = u_85.1 119 15 := ((fu_103 119 rfl).1 15).trans (((fu_98 119 rfl).1 15).trans ((fu_93 119 rfl).1 15))
      have lk_122 : u_103.1 119 16 = u_85.1 119 16 := ((fu_103 119 rfl).1 16).trans (((fu_98 119 rfl).1 16).trans ((fu_93 119 rfl).1 16))
      have q_123 : (-1) ≤ u_103.1 135 17 ∧ u_103.1 135 17 ≤ 40 := iu_103.fi 135 17 2 (by decide) rfl
      have q_124 : (-1) ≤ u_103.1 135 18 ∧ u_103.1 135 18 ≤ 13 := iu_103.fi 135 18 2 (by decide) rfl
      exact sVret Cx hr hlk hW hL ⟨iu_103, F_105, (by rw [show (stp (KKm n A wh al) Wm) = (adR (KKm n A wh al).1 Wm.1 (loR Wm.1 (Wm.2.1 2)), chC Wm.2.1, (brT Wm.1 (Wm.2.1 2) Wm.2.2.1), (Wm.1, Wm.2.1 2) :: Wm.2.2.2.1, Wm.2.2.2.2) from ((stp_5 hnx).trans (cif_f (c := (30000 < (brT Wm.1 (Wm.2.1 2) Wm.2.2.1).length ∨ 40 ≤ Wm.1.2.2.2.2.1 ∨ 1000 ≤ Wm.2.1 5)) (fun z => by have y := xu_85.2.2.1.mp (by omega); rcases z with q | q | q; (rw [← (show tkn (tkn (tkn Wm.2.2.1 wBr) (nmT r_4)) (nmT (Wm.1.2.1 (S.1 119 16) 0 / Wm.1.1)) = (brT Wm.1 (Wm.2.1 2) Wm.2.2.1) by unfold brT; rw [show r_4 = Wm.1.2.2.1 (Wm.2.1 2) by rw [← k16 (by omega)]; exact xu_2.2.1 (by omega) (by omega), k16 (by omega)])] at q; exact y.1 q); omega; omega)))]; exact ⟨(show u_103.1 119 9 = Wm.2.1 0 by omega), fun _ => ⟨_, ⟨⟨hoc, hod, (neD hcd), hda.1.2.2.2.1, hda.1.2.2.2.2⟩, (show DRc u_103 oc n 0 (adR n Wm.1 (loR Wm.1 (Wm.2.1 2))) from DRc.of hda.2 (rfl) (rfl) (rfl) (rfl) (funext fun x => rfl) (funext fun x => rfl) (funext fun x => rfl)), (by have e := (KSc.of (KSc.of xu_93.2.2 (show u_98.1 135 19 = u_93.1 135 19 from (fu_98 135 rfl).1 19) (show u_98.2.1 140 = u_93.2.1 140 from funext fun x => (fu_98 140 rfl).2.1 x)) xu_103.2 (funext fun x => (fu_103 140 rfl).2.1 x)); rw [show u_85.1 119 16 = Wm.2.1 2 by omega] at e; exact e), (TXc.eq (TXc.of (TXc.eq xu_9 (by rw [(show bv u_5 181 = Wm.1.2.1 (S.1 119 16) 0 / Wm.1.1 from bv_8)])) (show u_103.1 160 1 = u_9.1 160 1 from ((fu_103 160 rfl).1 1).trans (((fu_98 160 rfl).1 1).trans (((fu_93 160 rfl).1 1).trans ((fu_85 160 rfl).1 1)))) (show u_103.1 160 2 = u_9.1 160 2 from ((fu_103 160 rfl).1 2).trans (((fu_98 160 rfl).1 2).trans (((fu_93 160 rfl).1 2).trans ((fu_85 160 rfl).1 2)))) (show u_103.2.1 161 = u_9.2.1 161 from funext fun x => ((fu_103 161 rfl).2.1 x).trans (((fu_98 161 rfl).2.1 x).trans (((fu_93 161 rfl).2.1 x).trans ((fu_85 161 rfl).2.1 x))))) (show tkn (tkn (tkn Wm.2.2.1 wBr) (nmT r_4)) (nmT (Wm.1.2.1 (S.1 119 16) 0 / Wm.1.1)) = (brT Wm.1 (Wm.2.1 2) Wm.2.2.1) by unfold brT; rw [show r_4 = Wm.1.2.2.1 (Wm.2.1 2) by rw [← k16 (by omega)]; exact xu_2.2.1 (by omega) (by omega), k16 (by omega)])), (RWz.of hrw (show u_103.1 120 8 = u_98.1 120 8 from (fu_103 120 rfl).1 8) (show u_103.1 120 9 = u_98.1 120 9 from (fu_103 120 rfl).1 9) (show u_103.2.1 121 = u_98.2.1 121 from funext fun x => (fu_103 121 rfl).2.1 x)), (fun q => absurd (h45.2.2.2.mpr q) (by omega)), ⟨((((fu_103 119 rfl).2.2.2 7).trans (((fu_98 119 rfl).2.2.2 7).trans ((fu_93 119 rfl).2.2.2 7)) : u_103.2.2.2 119 7 = u_85.2.2.2 119 7).trans ((xu_85.2.2.2.2.2.2 7).trans ((((fu_9 119 rfl).2.2.2 7).trans ((fu_5 119 rfl).2.2.2 7)).trans hmr))), (MDv.of hMD (show u_103.1 md 2 = S.1 md 2 from ((fu_103 md (mo_pCx hmo).1).1 2).trans (((fu_98 md (mo_pRz hmo).1).1 2).trans (((fu_93 md (mo_pJ hmo).1).1 2).trans (((fu_85 md (mo_p119 hmo).1).1 2).trans (((fu_9 md (pB_no (tau_ne hmo.1 (rfl : tau 160 = .inl 10) (fun h => by cases h)) (tau_ne hmo.1 (rfl : tau 161 = .inr (.byte, 30000)) (fun h => by cases h)))).1 2).trans ((fu_5 md (mo_pFl hmo).1).1 2)))))) (show u_103.1 md 3 = S.1 md 3 from ((fu_103 md (mo_pCx hmo).1).1 3).trans (((fu_98 md (mo_pRz hmo).1).1 3).trans (((fu_93 md (mo_pJ hmo).1).1 3).trans (((fu_85 md (mo_p119 hmo).1).1 3).trans (((fu_9 md (pB_no (tau_ne hmo.1 (rfl : tau 160 = .inl 10) (fun h => by cases h)) (tau_ne hmo.1 (rfl : tau 161 = .inr (.byte, 30000)) (fun h => by cases h)))).1 3).trans ((fu_5 md (mo_pFl hmo).1).1 3)))))) (show u_103.1 md 4 = S.1 md 4 from ((fu_103 md (mo_pCx hmo).1).1 4).trans (((fu_98 md (mo_pRz hmo).1).1 4).trans (((fu_93 md (mo_pJ hmo).1).1 4).trans (((fu_85 md (mo_p119 hmo).1).1 4).trans (((fu_9 md (pB_no (tau_ne hmo.1 (rfl : tau 160 = .inl 10) (fun h => by cases h)) (tau_ne hmo.1 (rfl : tau 161 = .inr (.byte, 30000)) (fun h => by cases h)))).1 4).trans ((fu_5 md (mo_pFl hmo).1).1 4)))))) (show u_103.2.1 (md + 1) = S.2.1 (md + 1) from funext fun x => ((fu_103 (md + 1) (mo_pCx hmo).2.1).2.1 x).trans (((fu_98 (md + 1) (mo_pRz hmo).2.1).2.1 x).trans (((fu_93 (md + 1) (mo_pJ hmo).2.1).2.1 x).trans (((fu_85 (md + 1) (mo_p119 hmo).2.1).2.1 x).trans (((fu_9 (md + 1) (pB_no (tau_ne hmo.2.1 (rfl : tau 160 = .inl 10) (fun h => by cases h)) (tau_ne hmo.2.1 (rfl : tau 161 = .inr (.byte, 30000)) (fun h => by cases h)))).2.1 x).trans ((fu_5 (md + 1) (mo_pFl hmo).2.1).2.1 x)))))) (show u_103.2.1 (md + 2) = S.2.1 (md + 2) from funext fun x => ((fu_103 (md + 2) (mo_pCx hmo).2.2).2.1 x).trans (((fu_98 (md + 2) (mo_pRz hmo).2.2).2.1 x).trans (((fu_93 (md + 2) (mo_pJ hmo).2.2).2.1 x).trans (((fu_85 (md + 2) (mo_p119 hmo).2.2).2.1 x).trans (((fu_9 (md + 2) (pB_no (tau_ne hmo.2.2.1 (rfl : tau 160 = .inl 10) (fun h => by cases h)) (tau_ne hmo.2.2.1 (rfl : tau 161 = .inr (.byte, 30000)) (fun h => by cases h)))).2.1 x).trans ((fu_5 (md + 2) (mo_pFl hmo).2.2).2.1 x)))))))⟩, (BPc.of hBP (show u_103.2.1 162 = S.2.1 162 from funext fun x => ((fu_103 162 rfl).2.1 x).trans (((fu_98 162 rfl).2.1 x).trans (((fu_93 162 rfl).2.1 x).trans (((fu_85 162 rfl).2.1 x).trans (((fu_9 162 rfl).2.1 x).trans ((fu_5 162 rfl).2.1 x))))))), ⟨(show u_103.1 119 8 = al by omega), (show u_103.1 119 9 = Wm.2.1 0 by omega), (show u_103.1 119 10 = Wm.2.1 4 by omega), (show u_103.1 119 11 = Wm.2.1 5 + 1 by omega), (show u_103.1 119 12 = Wm.2.1 6 by omega), (show u_103.1 119 13 = Wm.2.1 7 by omega), (show u_103.1 119 14 = phC (4) by unfold phC; omega), (show u_103.1 119 15 = 0 by omega), (fun qz => by have qz : (3 : Int) ≤ (0 : Int) ∧ (0 : Int) ≤ 5 := qz; show u_103.1 119 16 = Wm.2.1 2; omega), (fun qz => by have qz : (0 : Int) = 1 := qz; show u_103.1 135 17 = Wm.2.1 8 ∧ u_103.1 135 18 = Wm.2.1 9; omega), (fun qz => by have qz : (Wm.2.1 0 : Int) = 4 := qz; show u_103.1 135 18 = Wm.2.1 9; omega)⟩⟩⟩⟩)⟩ dX7_branch_98
    · have q_125 : 0 ≤ u_85.1 119 9 ∧ u_85.1 119 9 ≤ 6 := iu_85.fi 119 9 7 (by decide) rfl
      exact sVret Cx hr hlk hW hL ⟨iu_85, F_88, (by rw [show (stp (KKm n A wh al) Wm) = wC Wm (cu Wm.2.1 0 6) from ((stp_5 hnx).trans (cif_t (c := (30000 < (brT Wm.1 (Wm.2.1 2) Wm.2.2.1).length ∨ 40 ≤ Wm.1.2.2.2.2.1 ∨ 1000 ≤ Wm.2.1 5)) (by by_cases z : 30000 < (brT Wm.1 (Wm.2.1 2) Wm.2.2.1).length; exact .inl z; by_cases y : 40 ≤ Wm.1.2.2.2.2.1; exact .inr (.inl y); by_cases x9 : 1000 ≤ Wm.2.1 5; exact .inr (.inr x9); exfalso; have := xu_85.2.2.1.mpr ⟨by rw [(show tkn (tkn (tkn Wm.2.2.1 wBr) (nmT r_4)) (nmT (Wm.1.2.1 (S.1 119 16) 0 / Wm.1.1)) = (brT Wm.1 (Wm.2.1 2) Wm.2.2.1) by unfold brT; rw [show r_4 = Wm.1.2.2.1 (Wm.2.1 2) by rw [← k16 (by omega)]; exact xu_2.2.1 (by omega) (by omega), k16 (by omega)])]; exact z, by omega, by omega⟩; omega)))]; exact ⟨(show u_85.1 119 9 = 6 by omega), fun q => absurd (show (6 : Int) ≤ 4 from q) (by decide)⟩)⟩ dX7_branch_61

set_option maxRecDepth 100000 in
set_option maxHeartbeats 4000000 in
theorem v_X7_beginSecondChild (l : Launch) (G : sG) (S : sS) {oc od md : Nat} {n mm mx al : Int} {A : Int → Int → Int} {wh : Int → Int} {RR : Int → Int → Int} {Wm : wT} (hI : cX G S 0 0 0) (hmo : mdl md) (hSR : Hd (SRq G S oc od md n mm mx al A wh RR Wm)) (hIv : Hd (Iv (KKm n A wh al) Wm ∧ Iw Wm)) (hn12 : 0 ≤ n ∧ n ≤ 12 ∧ 0 ≤ al ∧ al ≤ 20) (hst : Wm.2.1 0 = 1) (hnx : Wm.2.1 1 = 6) (hlen : Hd (¬ 30000 < Wm.2.2.1.length)) : Met l yX7_beginSecondChild (.code yX7_beginSecondChild cX7_beginSecondChild 1 none :: tb) (rmk 7 0 0) (sPc G 294 S [.ref (G.2.2.1 + 119)]) (sQv G 294 (fun u => cX G u 0 0 0 ∧ Fr S u pSr ∧ (Hd (u.1 119 9 = (stp (KKm n A wh al) Wm).2.1 0) ∧ Hd ((stp (KKm n A wh al) Wm).2.1 0 ≤ 4 → ∃ RR, SRq G u oc od md n mm mx al A wh RR (stp (KKm n A wh al) Wm))))) 0 0 (sF G) := by
  refine sEnter (by decide) (Nat.le_of_ble_eq_true rfl) ?_
  intro p e s m args below meth c Cx hr hlk hnm hW ls hl
  have Cx : sC G p m c cX7_beginSecondChild 1 s args RX7 := Cx
  obtain ⟨hx, hb, hml, hown, hts⟩ := id Cx.1
  have hL : sL G [] := sL_nil
  have hl : lv_has ls 1 [(0, .ref (G.2.2.1 + 119))] := hl
  have hW0 := hW
  obtain ⟨hdq, hDR, hKS, hT, hRW, hRB, ⟨hmr, hMD⟩, hBP, hCR⟩ := id hSR
  obtain ⟨k8, k9, k10, k11, k12, k13, k14, k15, k16, k17, k18⟩ := id hCR
  have hiv := hIv.1; have hiw := hIv.2.b; have hiw2 := hIv.2.2.1; have hiw3 := hIv.2.2.2; have hOK := hiv.1; have hok1 := hOK.1; have hok2 := hOK.2.1; have hDp := hOK.2.2.1; have hcn := hiv.2.1; have hmd1 := hMD.1; have hmd2 := hMD.2.1
  obtain ⟨hoc, hod, hcd, hec, hed⟩ := id hdq
  have hd13 := hDR.2.2.2.2.1; have hd14 := hDR.2.2.2.2.2.1; have hd15 := hDR.2.2.2.2.2.2.1; have hd16 := hDR.2.2.2.2.2.2.2; have hm40 : 0 ≤ S.1 135 14 ∧ S.1 135 14 ≤ 40 := hI.fi 135 14 2 (by decide) rfl; have hp13 : 0 ≤ S.1 135 15 ∧ S.1 135 15 ≤ 13 := hI.fi 135 15 2 (by decide) rfl
  obtain ⟨q, tl, hsk⟩ : ∃ q tl, Wm.2.2.2.1 = q :: tl := (by have z : Wm.2.2.2.1 ≠ [] ∧ Wm.2.1 3 = 4 := (by rcases hiv.2.2.2.1 with f | f | f | f | f | f; omega; omega; omega; omega; omega; exact f.2); cases e : Wm.2.2.2.1 with | nil => exact absurd e z.1 | cons q t => exact ⟨q, t, rfl⟩)
  have h63 : Wm.2.1 3 = 4 := by rcases hiv.2.2.2.1 with f | f | f | f | f | f; omega; omega; omega; omega; omega; exact f.2.2
  have hw0 : hwS Wm = 0 := hw_0 (.inr h63)
  have hso : Hd (skO n Wm.1.2.2.2.2.1 ((q.1, q.2) :: tl)) := (by have e := hiv.2.2.2.2.1; rw [hsk] at e; exact e)
  have hKq : Hd (KSc (S.2.1 140) (S.1 135 19) ((q.1, q.2) :: tl)) := (by have e := hKS; rw [hsk] at e; exact e)
  have hs0 := hso.1; have hsOK := hso.2.1; have hs1 := hsOK.1; have hs2 := hsOK.2.1; have hDq := hsOK.2.2.1; have hs3 := hso.2.2.1; have hs4 := hso.2.2.2.1; simp only [] at hs0 hs1 hs2 hs3 hs4 hDq
  refine lv_aload_n hx hb dX7_beginSecondChild_0 rfl (lv_at hl 0 rfl) ?_
  refine lv_iconst (v := iv 1) hx hb dX7_beginSecondChild_1 (by decide) ?_
  have q_1 : 0 ≤ S.1 119 11 ∧ S.1 119 11 ≤ 1000 := hI.fi 119 11 7 (by decide) rfl
  have q_2 : 0 ≤ S.1 119 9 ∧ S.1 119 9 ≤ 6 := hI.fi 119 9 7 (by decide) rfl
  have q_3 : 0 ≤ S.1 119 8 ∧ S.1 119 8 ≤ 20 := hI.fi 119 8 7 (by decide) rfl
  have q_4 : (-2147483648) ≤ S.1 119 10 ∧ S.1 119 10 ≤ 2147483647 := hI.fi 119 10 7 (by decide) rfl
  have q_5 : (-2147483648) ≤ S.1 119 12 ∧ S.1 119 12 ≤ 2147483647 := hI.fi 119 12 7 (by decide) rfl
  have q_6 : (-2147483648) ≤ S.1 119 13 ∧ S.1 119 13 ≤ 2147483647 := hI.fi 119 13 7 (by decide) rfl
  have q_7 : (-1) ≤ S.1 119 16 ∧ S.1 119 16 ≤ 40 := hI.fi 119 16 7 (by decide) rfl
  refine sBi (sV (As := [.int (iv 1)]) (rest := []) (k := 119) Cx (v_X7_countChild l G S (hro := 1) (L := Wm.2.2.1) hI hT (by omega)) (c_X7_258 Cx rfl rfl (rmk_ok (by omega) (by decide))) hW (by decide) rfl rfl rfl hl.1 rfl (Nat.le_of_ble_eq_true rfl) dX7_beginSecondChild_2 ⟨Nat.le_of_ble_eq_true rfl, Nat.le_of_ble_eq_true rfl⟩) hL (fun r_10 u_8 H locs k_9 hW hL => ?_)
  obtain ⟨iu_8, fu_8, xu_8⟩ := k_9
  have F_11 := (Fr.rf : Fr S S pSr).trans (fu_8.to p1119_Sr)
  have hl9b := hRW.2.1
  refine r_if_ne (tgt := 9) hx hb ⟨(by omega), (by omega)⟩ dX7_beginSecondChild_5 (by decide) (fun c_12 => ?_) (fun c_12 => ?_)
  · refine lv_aload_n hx hb dX7_beginSecondChild_9 rfl (lv_at hl 0 rfl) ?_
    refine lv_aload_n hx hb dX7_beginSecondChild_10 rfl (lv_at hl 0 rfl) ?_
    refine g_X7_21 Cx hW (k := 119) (by decide) rfl (v := .ref (G.2.2.1 + 135)) (rf_119_1 iu_8) dX7_beginSecondChild_11 ?_
    have q_13 : 0 ≤ S.1 135 19 ∧ S.1 135 19 ≤ 102220 := hI.fi 135 19 2 (by decide) rfl
    have lk_14 : u_8.1 135 19 = S.1 135 19 := (fu_8 135 rfl).1 19
    refine sBi (sV (As := []) (rest := [.ref (G.2.2.1 + 119)]) (k := 135) Cx (v_X2_restore l G u_8 (oc := oc) (od := od) (n := n) (hw := (hwS Wm)) (d := Wm.1) (bb := Wm.1.2.2.2.2.1) (q0 := q.2) (d0 := q.1) (sk := tl) iu_8 ⟨hoc, hod, (neD hcd), (((fu_8 135 rfl).2.2.2 0).trans hec), (((fu_8 135 rfl).2.2.2 1).trans hed)⟩ (DRc.of hDR (show u_8.1 135 13 = S.1 135 13 from (fu_8 135 rfl).1 13) (show u_8.1 135 14 = S.1 135 14 from (fu_8 135 rfl).1 14) (show u_8.1 135 15 = S.1 135 15 from (fu_8 135 rfl).1 15) (show u_8.1 135 16 = S.1 135 16 from (fu_8 135 rfl).1 16) (show u_8.2.1 oc = S.2.1 oc from funext fun x => (fu_8 oc (dic_p119 hoc)).2.1 x) (show u_8.2.1 138 = S.2.1 138 from funext fun x => (fu_8 138 rfl).2.1 x) (show u_8.2.1 139 = S.2.1 139 from funext fun x => (fu_8 139 rfl).2.1 x)) (KSc.of hKq (show u_8.1 135 19 = S.1 135 19 from (fu_8 135 rfl).1 19) (show u_8.2.1 140 = S.2.1 140 from funext fun x => (fu_8 140 rfl).2.1 x)) hso) (c_X7_285 Cx rfl rfl (rmk_ok (by omega) (by decide))) hW (by decide) rfl rfl rfl hl.1 rfl (Nat.le_of_ble_eq_true rfl) dX7_beginSecondChild_14 ⟨Nat.le_of_ble_eq_true rfl, Nat.le_of_ble_eq_true rfl⟩) hL (fun r_17 u_15 H locs k_16 hW hL => ?_)
    obtain ⟨iu_15, fu_15, xu_15⟩ := k_16
    have F_18 := F_11.trans (fu_15.to pRs_Sr)
    have hDq2 : DRc u_15 oc n (hwS Wm) q.1 := xu_15.2.2.2.1 hw0; have hDq14 := hDq2.2.2.2.2.2.1; have hDq15 := hDq2.2.2.2.2.2.2.1; have hDq13 := hDq2.2.2.2.2.1; have hrq : r_17 = q.2 := xu_15.2.1; have hs4r := hs4; rw [← hrq] at hs4r
    refine p_X7_190 Cx hW hL (k := 119) (by decide) rfl dX7_beginSecondChild_17 (fun H locs hW hL => ?_)
    have F_19 : Fr S (uF u_15 119 16 r_17) pSr := F_18.F rfl
    have i_20 : cX G (uF u_15 119 16 r_17) 0 0 0 := iu_15.F rfl rfl (show (-1) ≤ r_17 ∧ r_17 ≤ 40 from ⟨by omega, by omega⟩)
    refine lv_aload_n hx hb dX7_beginSecondChild_20 rfl (lv_at hl 0 rfl) ?_
    refine g_X7_12 Cx hW (k := 119) (by decide) rfl (v := .ref (G.2.2.1 + 120)) (rf_119_0 i_20) dX7_beginSecondChild_21 ?_
    refine lv_aload_n hx hb dX7_beginSecondChild_24 rfl (lv_at hl 0 rfl) ?_
    refine g_X7_21 Cx hW (k := 119) (by decide) rfl (v := .ref (G.2.2.1 + 135)) (rf_119_1 i_20) dX7_beginSecondChild_25 ?_
    have q_21 : 0 ≤ u_15.1 135 14 ∧ u_15.1 135 14 ≤ 40 := iu_15.fi 135 14 2 (by decide) rfl
    have lk_22 : (uF u_15 119 16 r_17).1 135 14 = u_15.1 135 14 := uF_ne (fun h => absurd h.2 (by decide))
    refine sBi (sV (As := []) (rest := [.ref (G.2.2.1 + 120)]) (k := 135) Cx (s_X2_rowCount l G (uF u_15 119 16 r_17)  i_20) (c_X7_288 Cx rfl rfl (rmk_ok (by omega) (by decide))) hW (by decide) rfl rfl rfl hl.1 rfl (Nat.le_of_ble_eq_true rfl) dX7_beginSecondChild_28 ⟨Nat.le_of_ble_eq_true rfl, Nat.le_of_ble_eq_true rfl⟩) hL (fun r_25 u_23 H locs k_24 hW hL => ?_)
    obtain ⟨eu_23, xu_23⟩ := k_24
    rw [eu_23] at hW
    refine sBv (sV (As := [.int (iv r_25)]) (rest := []) (k := 120) Cx (z_X6_keep_120 l G (uF u_15 119 16 r_17) (k := r_25) (n := n) (cc := Wm.1.2.2.2.2.1) (RR := RR) i_20 (by omega) (RWz.of hRW (show (uF u_15 119 16 r_17).1 120 8 = S.1 120 8 from (uF_ne (fun h => absurd h.2 (by decide))).trans (((fu_15 120 rfl).1 8).trans ((fu_8 120 rfl).1 8))) (show (uF u_15 119 16 r_17).1 120 9 = S.1 120 9 from (uF_ne (fun h => absurd h.2 (by decide))).trans (((fu_15 120 rfl).1 9).trans ((fu_8 120 rfl).1 9))) (show (uF u_15 119 16 r_17).2.1 121 = S.2.1 121 from funext fun x => (uF_a).trans (((fu_15 121 rfl).2.1 x).trans ((fu_8 121 rfl).2.1 x))))) (c_X7_291 Cx rfl rfl (rmk_ok (by omega) (by decide))) hW (by decide) rfl rfl rfl hl.1 rfl (Nat.le_of_ble_eq_true rfl) dX7_beginSecondChild_31 ⟨Nat.le_of_ble_eq_true rfl, Nat.le_of_ble_eq_true rfl⟩) hL (fun u_26 H locs k_27 hW hL => ?_)
    obtain ⟨iu_26, fu_26, xu_26⟩ := k_27
    have F_28 := F_19.trans (fu_26.to (p1_sub rfl))
    have hrk := xu_26 (by omega) (by omega)
    refine lv_aload_n hx hb dX7_beginSecondChild_34 rfl (lv_at hl 0 rfl) ?_
    refine g_X7_21 Cx hW (k := 119) (by decide) rfl (v := .ref (G.2.2.1 + 135)) (rf_119_1 iu_26) dX7_beginSecondChild_35 ?_
    refine lv_aload_n hx hb dX7_beginSecondChild_38 rfl (lv_at hl 0 rfl) ?_
    refine g_X7_190 Cx hW (k := 119) (by decide) rfl (v := r_17) (((fu_26 119 rfl).1 16).trans (uF_on)) dX7_beginSecondChild_39 ?_
    refine lv_aload_n hx hb dX7_beginSecondChild_42 rfl (lv_at hl 0 rfl) ?_
    refine g_X7_42 Cx hW (k := 119) (by decide) rfl (v := .ref (G.2.2.1 + 181)) (rf_119_5 iu_26) dX7_beginSecondChild_43 ?_
    refine sBv (sV (As := [.int (iv r_17), .ref (G.2.2.1 + 181)]) (rest := []) (k := 135) Cx (v_X2_floor l G u_26 (i := r_17) (oc := oc) (od := od) (n := n) (hw := (hwS Wm)) (d := q.1) iu_26 ⟨hoc, hod, (neD hcd), ((((fu_26 135 rfl).2.2.2 0).trans (uF_r)).trans xu_15.2.2.1.2.2.2.1), ((((fu_26 135 rfl).2.2.2 1).trans (uF_r)).trans xu_15.2.2.1.2.2.2.2)⟩ (DRc.of hDq2 (show u_26.1 135 13 = u_15.1 135 13 from ((fu_26 135 rfl).1 13).trans (uF_ne (fun h => absurd h.2 (by decide)))) (show u_26.1 135 14 = u_15.1 135 14 from ((fu_26 135 rfl).1 14).trans (uF_ne (fun h => absurd h.2 (by decide)))) (show u_26.1 135 15 = u_15.1 135 15 from ((fu_26 135 rfl).1 15).trans (uF_ne (fun h => absurd h.2 (by decide)))) (show u_26.1 135 16 = u_15.1 135 16 from ((fu_26 135 rfl).1 16).trans (uF_ne (fun h => absurd h.1 (by decide)))) (show u_26.2.1 oc = u_15.2.1 oc from funext fun x => ((fu_26 oc (p1_no (tau_ne (dic_t hoc) (rfl : tau 120 = .inl 6) (fun h => by cases h)))).2.1 x).trans (uF_a)) (show u_26.2.1 138 = u_15.2.1 138 from funext fun x => ((fu_26 138 rfl).2.1 x).trans (uF_a)) (show u_26.2.1 139 = u_15.2.1 139 from funext fun x => ((fu_26 139 rfl).2.1 x).trans (uF_a))) (by omega) (by omega) (by omega)) (c_X7_226 Cx rfl rfl (rmk_ok (by omega) (by decide))) hW (by decide) rfl rfl rfl hl.1 rfl (Nat.le_of_ble_eq_true rfl) dX7_beginSecondChild_46 ⟨Nat.le_of_ble_eq_true rfl, Nat.le_of_ble_eq_true rfl⟩) hL (fun u_29 H locs k_30 hW hL => ?_)
    obtain ⟨iu_29, fu_29, xu_29⟩ := k_30
    have F_31 := F_28.trans (fu_29.to pFl_Sr)
    have bv_32 : bv u_29 181 = q.1.2.1 r_17 0 / q.1.1 := xu_29.2.2.1
    refine lv_aload_n hx hb dX7_beginSecondChild_49 rfl (lv_at hl 0 rfl) ?_
    refine g_X7_12 Cx hW (k := 119) (by decide) rfl (v := .ref (G.2.2.1 + 120)) (rf_119_0 iu_29) dX7_beginSecondChild_50 ?_
    refine lv_aload_n hx hb dX7_beginSecondChild_53 rfl (lv_at hl 0 rfl) ?_
    refine g_X7_21 Cx hW (k := 119) (by decide) rfl (v := .ref (G.2.2.1 + 135)) (rf_119_1 iu_29) dX7_beginSecondChild_54 ?_
    refine lv_aload_n hx hb dX7_beginSecondChild_57 rfl (lv_at hl 0 rfl) ?_
    refine g_X7_190 Cx hW (k := 119) (by decide) rfl (v := r_17) (((fu_29 119 rfl).1 16).trans (((fu_26 119 rfl).1 16).trans (uF_on))) dX7_beginSecondChild_58 ?_
    refine sBi (sV (As := [.int (iv r_17)]) (rest := [.ref (G.2.2.1 + 120)]) (k := 135) Cx (v_X2_numberAt l G u_29 (i := r_17) (oc := oc) (od := od) (n := n) (hw := (hwS Wm)) (d := q.1) iu_29 ⟨hoc, hod, (neD hcd), ((((fu_29 135 rfl).2.2.2 0).trans (((fu_26 135 rfl).2.2.2 0).trans (uF_r))).trans xu_15.2.2.1.2.2.2.1), ((((fu_29 135 rfl).2.2.2 1).trans (((fu_26 135 rfl).2.2.2 1).trans (uF_r))).trans xu_15.2.2.1.2.2.2.2)⟩ (DRc.of hDq2 (show u_29.1 135 13 = u_15.1 135 13 from ((fu_29 135 rfl).1 13).trans (((fu_26 135 rfl).1 13).trans (uF_ne (fun h => absurd h.2 (by decide))))) (show u_29.1 135 14 = u_15.1 135 14 from ((fu_29 135 rfl).1 14).trans (((fu_26 135 rfl).1 14).trans (uF_ne (fun h => absurd h.2 (by decide))))) (show u_29.1 135 15 = u_15.1 135 15 from ((fu_29 135 rfl).1 15).trans (((fu_26 135 rfl).1 15).trans (uF_ne (fun h => absurd h.2 (by decide))))) (show u_29.1 135 16 = u_15.1 135 16 from ((fu_29 135 rfl).1 16).trans (((fu_26 135 rfl).1 16).trans (uF_ne (fun h => absurd h.1 (by decide))))) (show u_29.2.1 oc = u_15.2.1 oc from funext fun x => ((fu_29 oc (dic_pFl hoc)).2.1 x).trans (((fu_26 oc (p1_no (tau_ne (dic_t hoc) (rfl : tau 120 = .inl 6) (fun h => by cases h)))).2.1 x).trans (uF_a))) (show u_29.2.1 138 = u_15.2.1 138 from funext fun x => ((fu_29 138 rfl).2.1 x).trans (((fu_26 138 rfl).2.1 x).trans (uF_a))) (show u_29.2.1 139 = u_15.2.1 139 from funext fun x => ((fu_29 139 rfl).2.1 x).trans (((fu_26 139 rfl).2.1 x).trans (uF_a)))) (by omega)) (c_X7_269 Cx rfl rfl (rmk_ok (by omega) (by decide))) hW (by decide) rfl rfl rfl hl.1 rfl (Nat.le_of_ble_eq_true rfl) dX7_beginSecondChild_61 ⟨Nat.le_of_ble_eq_true rfl, Nat.le_of_ble_eq_true rfl⟩) hL (fun r_35 u_33 H locs k_34 hW hL => ?_)
    obtain ⟨eu_33, xu_33⟩ := k_34
    rw [eu_33] at hW
    refine lv_aload_n hx hb dX7_beginSecondChild_64 rfl (lv_at hl 0 rfl) ?_
    refine g_X7_42 Cx hW (k := 119) (by decide) rfl (v := .ref (G.2.2.1 + 181)) (rf_119_5 iu_29) dX7_beginSecondChild_65 ?_
    refine lv_iconst (v := iv 1) hx hb dX7_beginSecondChild_68 (by decide) ?_
    have q_36 : 0 ≤ u_29.1 181 1 ∧ u_29.1 181 1 ≤ 32 := iu_29.fi 181 1 0 (by decide) rfl
    refine sBv (sV (As := [.int (iv r_35), .ref (G.2.2.1 + 181), .int (iv 1)]) (rest := []) (k := 120) Cx (z_X6_addLimit_120 l G u_29 (z := r_35) (ab := 1) (n := n) (cc := r_25) (RR := RR) iu_29 (by omega) (by omega) (by omega) (fun q => by have e : u_29.2.1 182 6 = u_29.2.1 182 6 := rfl; have e2 := xu_29.2.1 (by omega); rw [e]; omega) (RWz.of hrk (show u_29.1 120 8 = u_26.1 120 8 from (fu_29 120 rfl).1 8) (show u_29.1 120 9 = u_26.1 120 9 from (fu_29 120 rfl).1 9) (show u_29.2.1 121 = u_26.2.1 121 from funext fun x => (fu_29 121 rfl).2.1 x)) (show Hd (bs u_29 181) from xu_29.2.2.2)) (c_X7_278 Cx rfl rfl (rmk_ok (by omega) (by decide))) hW (by decide) rfl rfl rfl hl.1 rfl (Nat.le_of_ble_eq_true rfl) dX7_beginSecondChild_69 ⟨Nat.le_of_ble_eq_true rfl, Nat.le_of_ble_eq_true rfl⟩) hL (fun u_37 H locs k_38 hW hL => ?_)
    obtain ⟨iu_37, fu_37, xu_37⟩ := k_38
    have F_39 := F_31.trans (fu_37.to pRz_Sr)
    have hrw := xu_37 (by omega) (by omega) (by omega)
    refine lv_aload_n hx hb dX7_beginSecondChild_72 rfl (lv_at hl 0 rfl) ?_
    refine g_X7_21 Cx hW (k := 119) (by decide) rfl (v := .ref (G.2.2.1 + 135)) (rf_119_1 iu_37) dX7_beginSecondChild_73 ?_
    refine lv_aload_n hx hb dX7_beginSecondChild_76 rfl (lv_at hl 0 rfl) ?_
    refine g_X7_190 Cx hW (k := 119) (by decide) rfl (v := r_17) (((fu_37 119 rfl).1 16).trans (((fu_29 119 rfl).1 16).trans (((fu_26 119 rfl).1 16).trans (uF_on)))) dX7_beginSecondChild_77 ?_
    refine lv_iconst (v := iv 1) hx hb dX7_beginSecondChild_80 (by decide) ?_
    have q_40 : 0 ≤ u_15.1 135 19 ∧ u_15.1 135 19 ≤ 102220 := iu_15.fi 135 19 2 (by decide) rfl
    have lk_41 : u_37.1 135 19 = u_15.1 135 19 := ((fu_37 135 rfl).1 19).trans (((fu_29 135 rfl).1 19).trans (((fu_26 135 rfl).1 19).trans (uF_ne (fun h => absurd h.2 (by decide)))))
    refine sBv (sV (As := [.int (iv r_17), .int (iv 1)]) (rest := []) (k := 135) Cx (v_X2_addLimit l G u_37 (rr := r_17) (ab := 1) (oc := oc) (od := od) (n := n) (hw := (hwS Wm)) (d := q.1) iu_37 ⟨hoc, hod, (neD hcd), ((((fu_37 135 rfl).2.2.2 0).trans (((fu_29 135 rfl).2.2.2 0).trans (((fu_26 135 rfl).2.2.2 0).trans (uF_r)))).trans xu_15.2.2.1.2.2.2.1), ((((fu_37 135 rfl).2.2.2 1).trans (((fu_29 135 rfl).2.2.2 1).trans (((fu_26 135 rfl).2.2.2 1).trans (uF_r)))).trans xu_15.2.2.1.2.2.2.2)⟩ (DRc.of hDq2 (show u_37.1 135 13 = u_15.1 135 13 from ((fu_37 135 rfl).1 13).trans (((fu_29 135 rfl).1 13).trans (((fu_26 135 rfl).1 13).trans (uF_ne (fun h => absurd h.2 (by decide)))))) (show u_37.1 135 14 = u_15.1 135 14 from ((fu_37 135 rfl).1 14).trans (((fu_29 135 rfl).1 14).trans (((fu_26 135 rfl).1 14).trans (uF_ne (fun h => absurd h.2 (by decide)))))) (show u_37.1 135 15 = u_15.1 135 15 from ((fu_37 135 rfl).1 15).trans (((fu_29 135 rfl).1 15).trans (((fu_26 135 rfl).1 15).trans (uF_ne (fun h => absurd h.2 (by decide)))))) (show u_37.1 135 16 = u_15.1 135 16 from ((fu_37 135 rfl).1 16).trans (((fu_29 135 rfl).1 16).trans (((fu_26 135 rfl).1 16).trans (uF_ne (fun h => absurd h.1 (by decide)))))) (show u_37.2.1 oc = u_15.2.1 oc from funext fun x => ((fu_37 oc (dic_pRz hoc)).2.1 x).trans (((fu_29 oc (dic_pFl hoc)).2.1 x).trans (((fu_26 oc (p1_no (tau_ne (dic_t hoc) (rfl : tau 120 = .inl 6) (fun h => by cases h)))).2.1 x).trans (uF_a)))) (show u_37.2.1 138 = u_15.2.1 138 from funext fun x => ((fu_37 138 rfl).2.1 x).trans (((fu_29 138 rfl).2.1 x).trans (((fu_26 138 rfl).2.1 x).trans (uF_a)))) (show u_37.2.1 139 = u_15.2.1 139 from funext fun x => ((fu_37 139 rfl).2.1 x).trans (((fu_29 139 rfl).2.1 x).trans (((fu_26 139 rfl).2.1 x).trans (uF_a))))) (by omega) (by omega) (by omega)) (c_X7_282 Cx rfl rfl (rmk_ok (by omega) (by decide))) hW (by decide) rfl rfl rfl hl.1 rfl (Nat.le_of_ble_eq_true rfl) dX7_beginSecondChild_81 ⟨Nat.le_of_ble_eq_true rfl, Nat.le_of_ble_eq_true rfl⟩) hL (fun u_42 H locs k_43 hW hL => ?_)
    obtain ⟨iu_42, fu_42, xu_42⟩ := k_43
    have F_44 := F_39.trans (fu_42.to pCx_Sr)
    have hda : dcs G u_42 oc od ∧ DRc u_42 oc n 0 (adR n q.1 (hiR q.1 q.2)) := by have e := xu_42.1 (by omega); rw [show r_17 = q.2 by omega, hw0, if_neg (by decide)] at e; exact e
    have q_45 : 0 ≤ u_8.1 119 9 ∧ u_8.1 119 9 ≤ 6 := iu_8.fi 119 9 7 (by decide) rfl
    have lk_46 : u_42.1 119 9 = u_8.1 119 9 := ((fu_42 119 rfl).1 9).trans (((fu_37 119 rfl).1 9).trans (((fu_29 119 rfl).1 9).trans (((fu_26 119 rfl).1 9).trans ((uF_ne (fun h => absurd h.2 (by decide))).trans ((fu_15 119 rfl).1 9)))))
    have q_47 : 0 ≤ u_8.1 119 8 ∧ u_8.1 119 8 ≤ 20 := iu_8.fi 119 8 7 (by decide) rfl
    have lk_48 : u_42.1 119 8 = u_8.1 119 8 := ((fu_42 119 rfl).1 8).trans (((fu_37 119 rfl).1 8).trans (((fu_29 119 rfl).1 8).trans (((fu_26 119 rfl).1 8).trans ((uF_ne (fun h => absurd h.2 (by decide))).trans ((fu_15 119 rfl).1 8)))))
    have q_49 : (-2147483648) ≤ u_8.1 119 10 ∧ u_8.1 119 10 ≤ 2147483647 := iu_8.fi 119 10 7 (by decide) rfl
    have lk_50 : u_42.1 119 10 = u_8.1 119 10 := ((fu_42 119 rfl).1 10).trans (((fu_37 119 rfl).1 10).trans (((fu_29 119 rfl).1 10).trans (((fu_26 119 rfl).1 10).trans ((uF_ne (fun h => absurd h.2 (by decide))).trans ((fu_15 119 rfl).1 10)))))
    have q_51 : 0 ≤ u_8.1 119 11 ∧ u_8.1 119 11 ≤ 1000 := iu_8.fi 119 11 7 (by decide) rfl
    have lk_52 : u_42.1 119 11 = u_8.1 119 11 := ((fu_42 119 rfl).1 11).trans (((fu_37 119 rfl).1 11).trans (((fu_29 119 rfl).1 11).trans (((fu_26 119 rfl).1 11).trans ((uF_ne (fun h => absurd h.2 (by decide))).trans ((fu_15 119 rfl).1 11)))))
    have q_53 : (-2147483648) ≤ u_8.1 119 12 ∧ u_8.1 119 12 ≤ 2147483647 := iu_8.fi 119 12 7 (by decide) rfl
    have lk_54 : u_42.1 119 12 = u_8.1 119 12 := ((fu_42 119 rfl).1 12).trans (((fu_37 119 rfl).1 12).trans (((fu_29 119 rfl).1 12).trans (((fu_26 119 rfl).1 12).trans ((uF_ne (fun h => absurd h.2 (by decide))).trans ((fu_15 119 rfl).1 12)))))
    have q_55 : (-2147483648) ≤ u_8.1 119 13 ∧ u_8.1 119 13 ≤ 2147483647 := iu_8.fi 119 13 7 (by decide) rfl
    have lk_56 : u_42.1 119 13 = u_8.1 119 13 := ((fu_42 119 rfl).1 13).trans (((fu_37 119 rfl).1 13).trans (((fu_29 119 rfl).1 13).trans (((fu_26 119 rfl).1 13).trans ((uF_ne (fun h => absurd h.2 (by decide))).trans ((fu_15 119 rfl).1 13)))))
    have q_57 : 0 ≤ u_8.1 119 14 ∧ u_8.1 119 14 ≤ 3 := iu_8.fi 119 14 7 (by decide) rfl
    have lk_58 : u_42.1 119 14 = u_8.1 119 14 := ((fu_42 119 rfl).1 14).trans (((fu_37 119 rfl).1 14).trans (((fu_29 119 rfl).1 14).trans (((fu_26 119 rfl).1 14).trans ((uF_ne (fun h => absurd h.2 (by decide))).trans ((fu_15 119 rfl).1 14)))))
    have q_59 : 0 ≤ u_8.1 119 15 ∧ u_8.1 119 15 ≤ 6 := iu_8.fi 119 15 7 (by decide) rfl
    have lk_60 : u_42.1 119 15 = u_8.1 119 15 := ((fu_42 119 rfl).1 15).trans (((fu_37 119 rfl).1 15).trans (((fu_29 119 rfl).1 15).trans (((fu_26 119 rfl).1 15).trans ((uF_ne (fun h => absurd h.2 (by decide))).trans ((fu_15 119 rfl).1 15)))))
    have lk_61 : u_42.1 119 16 = r_17 := ((fu_42 119 rfl).1 16).trans (((fu_37 119 rfl).1 16).trans (((fu_29 119 rfl).1 16).trans (((fu_26 119 rfl).1 16).trans (uF_on))))
    have q_62 : (-1) ≤ u_42.1 135 17 ∧ u_42.1 135 17 ≤ 40 := iu_42.fi 135 17 2 (by decide) rfl
    have q_63 : (-1) ≤ u_42.1 135 18 ∧ u_42.1 135 18 ≤ 13 := iu_42.fi 135 18 2 (by decide) rfl
    exact sVret Cx hr hlk hW hL ⟨iu_42, F_44, (by rw [show (stp (KKm n A wh al) Wm) = (adR (KKm n A wh al).1 q.1 (hiR q.1 q.2), cu (chC Wm.2.1) 2 q.2, Wm.2.2.1, tl, Wm.2.2.2.2) from ((stp_6 hnx).trans ((cif_f (c := 1000 ≤ Wm.2.1 5) (fun z => by have y := xu_8.2.2.1.mp (by omega); omega)).trans (by rw [hsk])))]; exact ⟨(show u_42.1 119 9 = Wm.2.1 0 by omega), fun _ => ⟨_, ⟨⟨hoc, hod, (neD hcd), hda.1.2.2.2.1, hda.1.2.2.2.2⟩, (show DRc u_42 oc n 0 (adR n q.1 (hiR q.1 q.2)) from DRc.of hda.2 (rfl) (rfl) (rfl) (rfl) (funext fun x => rfl) (funext fun x => rfl) (funext fun x => rfl)), (KSc.of (KSc.of xu_15.2.2.2.2 (show u_37.1 135 19 = u_15.1 135 19 from ((fu_37 135 rfl).1 19).trans (((fu_29 135 rfl).1 19).trans (((fu_26 135 rfl).1 19).trans (uF_ne (fun h => absurd h.2 (by decide)))))) (show u_37.2.1 140 = u_15.2.1 140 from funext fun x => ((fu_37 140 rfl).2.1 x).trans (((fu_29 140 rfl).2.1 x).trans (((fu_26 140 rfl).2.1 x).trans (uF_a))))) xu_42.2 (funext fun x => (fu_42 140 rfl).2.1 x)), (TXc.of hT (show u_42.1 160 1 = S.1 160 1 from ((fu_42 160 rfl).1 1).trans (((fu_37 160 rfl).1 1).trans (((fu_29 160 rfl).1 1).trans (((fu_26 160 rfl).1 1).trans ((uF_ne (fun h => absurd h.2 (by decide))).trans (((fu_15 160 rfl).1 1).trans ((fu_8 160 rfl).1 1))))))) (show u_42.1 160 2 = S.1 160 2 from ((fu_42 160 rfl).1 2).trans (((fu_37 160 rfl).1 2).trans (((fu_29 160 rfl).1 2).trans (((fu_26 160 rfl).1 2).trans ((uF_ne (fun h => absurd h.2 (by decide))).trans (((fu_15 160 rfl).1 2).trans ((fu_8 160 rfl).1 2))))))) (show u_42.2.1 161 = S.2.1 161 from funext fun x => ((fu_42 161 rfl).2.1 x).trans (((fu_37 161 rfl).2.1 x).trans (((fu_29 161 rfl).2.1 x).trans (((fu_26 161 rfl).2.1 x).trans ((uF_a).trans (((fu_15 161 rfl).2.1 x).trans ((fu_8 161 rfl).2.1 x)))))))), (by have e := (RWz.of hrw (show u_42.1 120 8 = u_37.1 120 8 from (fu_42 120 rfl).1 8) (show u_42.1 120 9 = u_37.1 120 9 from (fu_42 120 rfl).1 9) (show u_42.2.1 121 = u_37.2.1 121 from funext fun x => (fu_42 121 rfl).2.1 x)); rw [show r_25 = q.1.2.2.2.2.1 by omega] at e; exact e), (fun z => absurd z (hiv.2.2.2.2.2 (by rw [hsk]; exact fun z2 => by cases z2))), ⟨((((fu_42 119 rfl).2.2.2 7).trans (((fu_37 119 rfl).2.2.2 7).trans (((fu_29 119 rfl).2.2.2 7).trans (((fu_26 119 rfl).2.2.2 7).trans ((uF_r).trans ((fu_15 119 rfl).2.2.2 7))))) : u_42.2.2.2 119 7 = u_8.2.2.2 119 7).trans ((xu_8.2.2.2.2.2.2 7).trans ((rfl).trans hmr))), (MDv.of hMD (show u_42.1 md 2 = S.1 md 2 from ((fu_42 md (mo_pCx hmo).1).1 2).trans (((fu_37 md (mo_pRz hmo).1).1 2).trans (((fu_29 md (mo_pFl hmo).1).1 2).trans (((fu_26 md (p1_no (tau_ne hmo.1 (rfl : tau 120 = .inl 6) (fun h => by cases h)))).1 2).trans ((uF_ne (fun h => absurd h.2 (by decide))).trans (((fu_15 md (mo_pRs hmo).1).1 2).trans ((fu_8 md (mo_p119 hmo).1).1 2))))))) (show u_42.1 md 3 = S.1 md 3 from ((fu_42 md (mo_pCx hmo).1).1 3).trans (((fu_37 md (mo_pRz hmo).1).1 3).trans (((fu_29 md (mo_pFl hmo).1).1 3).trans (((fu_26 md (p1_no (tau_ne hmo.1 (rfl : tau 120 = .inl 6) (fun h => by cases h)))).1 3).trans ((uF_ne (fun h => absurd h.2 (by decide))).trans (((fu_15 md (mo_pRs hmo).1).1 3).trans ((fu_8 md (mo_p119 hmo).1).1 3))))))) (show u_42.1 md 4 = S.1 md 4 from ((fu_42 md (mo_pCx hmo).1).1 4).trans (((fu_37 md (mo_pRz hmo).1).1 4).trans (((fu_29 md (mo_pFl hmo).1).1 4).trans (((fu_26 md (p1_no (tau_ne hmo.1 (rfl : tau 120 = .inl 6) (fun h => by cases h)))).1 4).trans ((uF_ne (fun h => absurd h.2 (by decide))).trans (((fu_15 md (mo_pRs hmo).1).1 4).trans ((fu_8 md (mo_p119 hmo).1).1 4))))))) (show u_42.2.1 (md + 1) = S.2.1 (md + 1) from funext fun x => ((fu_42 (md + 1) (mo_pCx hmo).2.1).2.1 x).trans (((fu_37 (md + 1) (mo_pRz hmo).2.1).2.1 x).trans (((fu_29 (md + 1) (mo_pFl hmo).2.1).2.1 x).trans (((fu_26 (md + 1) (p1_no (tau_ne hmo.2.1 (rfl : tau 120 = .inl 6) (fun h => by cases h)))).2.1 x).trans ((uF_a).trans (((fu_15 (md + 1) (mo_pRs hmo).2.1).2.1 x).trans ((fu_8 (md + 1) (mo_p119 hmo).2.1).2.1 x))))))) (show u_42.2.1 (md + 2) = S.2.1 (md + 2) from funext fun x => ((fu_42 (md + 2) (mo_pCx hmo).2.2).2.1 x).trans (((fu_37 (md + 2) (mo_pRz hmo).2.2).2.1 x).trans (((fu_29 (md + 2) (mo_pFl hmo).2.2).2.1 x).trans (((fu_26 (md + 2) (p1_no (tau_ne hmo.2.2.1 (rfl : tau 120 = .inl 6) (fun h => by cases h)))).2.1 x).trans ((uF_a).trans (((fu_15 (md + 2) (mo_pRs hmo).2.2).2.1 x).trans ((fu_8 (md + 2) (mo_p119 hmo).2.2).2.1 x))))))))⟩, (BPc.of hBP (show u_42.2.1 162 = S.2.1 162 from funext fun x => ((fu_42 162 rfl).2.1 x).trans (((fu_37 162 rfl).2.1 x).trans (((fu_29 162 rfl).2.1 x).trans (((fu_26 162 rfl).2.1 x).trans ((uF_a).trans (((fu_15 162 rfl).2.1 x).trans ((fu_8 162 rfl).2.1 x)))))))), ⟨(show u_42.1 119 8 = al by omega), (show u_42.1 119 9 = Wm.2.1 0 by omega), (show u_42.1 119 10 = Wm.2.1 4 by omega), (show u_42.1 119 11 = Wm.2.1 5 + 1 by omega), (show u_42.1 119 12 = Wm.2.1 6 by omega), (show u_42.1 119 13 = Wm.2.1 7 by omega), (show u_42.1 119 14 = phC (4) by unfold phC; omega), (show u_42.1 119 15 = 0 by omega), (fun qz => by have qz : (3 : Int) ≤ (0 : Int) ∧ (0 : Int) ≤ 5 := qz; show u_42.1 119 16 = q.2; omega), (fun qz => by have qz : (0 : Int) = 1 := qz; show u_42.1 135 17 = Wm.2.1 8 ∧ u_42.1 135 18 = Wm.2.1 9; omega), (fun qz => by have qz : (Wm.2.1 0 : Int) = 4 := qz; show u_42.1 135 18 = Wm.2.1 9; omega)⟩⟩⟩⟩)⟩ dX7_beginSecondChild_84
  · have q_64 : 0 ≤ u_8.1 119 9 ∧ u_8.1 119 9 ≤ 6 := iu_8.fi 119 9 7 (by decide) rfl
    exact sVret Cx hr hlk hW hL ⟨iu_8, F_11, (by rw [show (stp (KKm n A wh al) Wm) = wC Wm (cu Wm.2.1 0 6) from ((stp_6 hnx).trans (cif_t (c := 1000 ≤ Wm.2.1 5) (by by_cases z : 1000 ≤ Wm.2.1 5; exact z; (exfalso; have := xu_8.2.2.1.mpr ⟨by have y := hT.over; exact fun z2 => hlen z2, by omega, by omega⟩; omega))))]; exact ⟨(show u_8.1 119 9 = 6 by omega), fun q => absurd (show (6 : Int) ≤ 4 from q) (by decide)⟩)⟩ dX7_beginSecondChild_8

set_option maxRecDepth 100000 in
set_option maxHeartbeats 4000000 in
theorem v_X7_run (l : Launch) (G : sG) (S : sS) {md : Nat} {n mm mx al : Int} {A : Int → Int → Int} {wh : Int → Int} {Wm : wT} {mo : Int} (hI : cX G S 0 0 0) (hmo : mdl md) (hmo1 : 1 ≤ mo ∧ mo ≤ 500) (hn12 : 0 ≤ n ∧ n ≤ 12 ∧ 0 ≤ al ∧ al ≤ 20) (hmm : 0 ≤ mm) (hpb : 0 ≤ Wm.2.1 4 ∧ Wm.2.1 4 ≤ 1000000) (hrn0 : Hd (RNq G S md n mm mx al A wh Wm (Wm.2.1 4 + mo) 0 0)) (hIv0 : Hd (Wm.2.1 0 = 1 → Iv (KKm n A wh al) Wm ∧ Iw Wm)) : Met l yX7_run (.code yX7_run cX7_run 4 (some .int) :: tb) (rmk 9 0 0) (sPc G 294 S [.ref (G.2.2.1 + 119), .int (iv mo)]) (sQi G 294 (fun r u => cX G u 0 0 0 ∧ Fr S u pSr ∧ (0 ≤ r ∧ r ≤ mo ∧ Hd (∃ U, wkW (KKm n A wh al) Wm (Wm.2.1 4 + mo) U ∧ stW U (Wm.2.1 4 + mo) ∧ r = U.2.1 4 - Wm.2.1 4 ∧ u.1 119 9 = U.2.1 0 ∧ (U.2.1 0 ≤ 4 → ∃ oc od RR, SRq G u oc od md n mm mx al A wh RR U) ∧ (U.2.1 0 = 1 → (Iv (KKm n A wh al) U ∧ Iw U) ∧ ¬ 30000 < U.2.2.1.length))))) 0 0 (sF G) := by
  refine sEnter (by decide) (Nat.le_of_ble_eq_true rfl) ?_
  intro p e s m args below meth c Cx hr hlk hnm hW ls hl
  have Cx : sC G p m c cX7_run 4 s args RX7 := Cx
  obtain ⟨hx, hb, hml, hown, hts⟩ := id Cx.1
  have hL : sL G [] := sL_nil
  have hl : lv_has ls 4 [(0, .ref (G.2.2.1 + 119)), (1, .int (iv mo))] := hl
  have hW0 := hW
  refine lv_iconst (v := iv 0) hx hb dX7_run_0 (by decide) ?_
  refine lv_istore_n (lv' := [(2, .int (iv 0)), (0, .ref (G.2.2.1 + 119)), (1, .int (iv mo))]) hx hb dX7_run_1 rfl hl (by decide) rfl (fun ls hl => ?_)
  refine lv_iconst (v := iv 0) hx hb dX7_run_2 (by decide) ?_
  refine lv_istore_n (lv' := [(3, .int (iv 0)), (2, .int (iv 0)), (0, .ref (G.2.2.1 + 119)), (1, .int (iv mo))]) hx hb dX7_run_3 rfl hl (by decide) rfl (fun ls hl => ?_)
  have loop_4 : ∀ (fuel : Nat) (S4 : sS) (i : Int) (dn : Int) (H : Heap) (locs : List Loc) (ls : Array Slot), (1000000 - i).toNat < fuel → (cX G S4 0 0 0) → (Fr S S4 pSr) → (Fr S S4 pSr) → (0 ≤ i ∧ i ≤ 1000000) → (0 ≤ dn ∧ dn ≤ mo) → (Hd (RNq G S4 md n mm mx al A wh Wm (Wm.2.1 4 + mo) dn i)) → sW G 294 S4 H → sL G locs → lv_has ls 4 [(3, .int (iv i)), (2, .int (iv dn)), (0, .ref (G.2.2.1 + 119)), (1, .int (iv mo))] → W p l e (rmk 9 0 0) s m args below meth c H locs 0 0 (MQ below (sQi G 294 (fun r u => cX G u 0 0 0 ∧ Fr S u pSr ∧ (0 ≤ r ∧ r ≤ mo ∧ Hd (∃ U, wkW (KKm n A wh al) Wm (Wm.2.1 4 + mo) U ∧ stW U (Wm.2.1 4 + mo) ∧ r = U.2.1 4 - Wm.2.1 4 ∧ u.1 119 9 = U.2.1 0 ∧ (U.2.1 0 ≤ 4 → ∃ oc od RR, SRq G u oc od md n mm mx al A wh RR U) ∧ (U.2.1 0 = 1 → (Iv (KKm n A wh al) U ∧ Iw U) ∧ ¬ 30000 < U.2.2.1.length))))) args s 0 0 (sF G)) (F0 m 4 ls []) := by
    intro fuel
    induction fuel with
    | zero => intro S4 i dn H locs ls hmeas hI4 hFm4 hL4_ hi hdn hrn hW hL hl; exact absurd hmeas (Nat.not_lt_zero _)
    | succ fuel ih_4 =>
      intro S4 i dn H locs ls hmeas hI4 hFm4 hL4_ hi hdn hrn hW hL hl
      obtain ⟨U, hwk, hu9, hu6, hsr, hud, hgo⟩ := id hrn
      refine lv_iload_n hx hb dX7_run_4 rfl (lv_at hl 0 rfl) ?_
      refine lv_ldc hx hb hown (hts _ w_1229) dX7_run_5 ?_
      refine r_icmp_ge (tgt := 151) hx hb ⟨(by omega), (by omega)⟩ ⟨(by omega), (by omega)⟩ dX7_run_7 (by decide) (fun c_1 => ?_) (fun c_1 => ?_)
      · refine lv_iload_n hx hb dX7_run_151 rfl (lv_at hl 1 rfl) ?_
        have q_2 : 0 ≤ S4.1 119 9 ∧ S4.1 119 9 ≤ 6 := hI4.fi 119 9 7 (by decide) rfl
        exact sIret Cx hr hlk hW hL ⟨hI4, hFm4, ⟨by omega, by omega, U, hwk, .inl (fun q => by have y := hgo q; have z := phW_b (hIv0 (hwk.go q)).1 y.1.1; have y2 := y.2.1; omega), hud, hu9, hsr, fun q => ⟨(hgo q).1, (hgo q).2.2⟩⟩⟩ dX7_run_152
      · refine lv_aload_n hx hb dX7_run_10 rfl (lv_at hl 2 rfl) ?_
        have q_3 : 0 ≤ S4.1 119 9 ∧ S4.1 119 9 ≤ 6 := hI4.fi 119 9 7 (by decide) rfl
        refine g_X7_69 Cx hW (k := 119) (by decide) rfl (v := S4.1 119 9) rfl dX7_run_11 ?_
        refine lv_iconst (v := iv 1) hx hb dX7_run_14 (by decide) ?_
        refine r_icmp_ne (tgt := 151) hx hb ⟨(by omega), (by omega)⟩ ⟨(by omega), (by omega)⟩ dX7_run_15 (by decide) (fun c_4 => ?_) (fun c_4 => ?_)
        · refine lv_iload_n hx hb dX7_run_151 rfl (lv_at hl 1 rfl) ?_
          exact sIret Cx hr hlk hW hL ⟨hI4, hFm4, ⟨by omega, by omega, U, hwk, .inl (fun q => by have y := hgo q; have z := phW_b (hIv0 (hwk.go q)).1 y.1.1; have y2 := y.2.1; omega), hud, hu9, hsr, fun q => ⟨(hgo q).1, (hgo q).2.2⟩⟩⟩ dX7_run_152
        · have hU1 : U.2.1 0 = 1 := by omega
          obtain ⟨hUI, hUp, hUl⟩ := hgo hU1
          obtain ⟨oc, od, RR, hSR⟩ := hsr (by omega)
          have hcr := hSR.2.2.2.2.2.2.2.2; have hcr15 := hcr.2.2.2.2.2.2.2.1; have hcr10 := hcr.2.2.1; have hc17 := hcr.2.2.2.2.2.2.2.2.2.1
          obtain ⟨k8, k9, k10, k11, k12, k13, k14, k15, k16, k17, k18⟩ := id hcr
          refine lv_aload_n hx hb dX7_run_18 rfl (lv_at hl 2 rfl) ?_
          have q_5 : 0 ≤ S4.1 119 15 ∧ S4.1 119 15 ≤ 6 := hI4.fi 119 15 7 (by decide) rfl
          refine g_X7_91 Cx hW (k := 119) (by decide) rfl (v := S4.1 119 15) rfl dX7_run_19 ?_
          by_cases c_6 : S4.1 119 15 = 1
          · refine lv_tableIn (off := 38) (tgt := 60) hx hb dX7_run_22 (by rw [c_6]; decide) (by rw [c_6]; decide) (by rw [c_6]; decide) (by decide) ?_
            refine lv_iload_n hx hb dX7_run_60 rfl (lv_at hl 1 rfl) ?_
            refine lv_iload_n hx hb dX7_run_61 rfl (lv_at hl 3 rfl) ?_
            refine r_icmp_lt (tgt := 67) hx hb ⟨(by omega), (by omega)⟩ ⟨(by omega), (by omega)⟩ dX7_run_62 (by decide) (fun c_7 => ?_) (fun c_7 => ?_)
            · refine lv_aload_n hx hb dX7_run_67 rfl (lv_at hl 2 rfl) ?_
              refine g_X7_21 Cx hW (k := 119) (by decide) rfl (v := .ref (G.2.2.1 + 135)) (rf_119_1 hI4) dX7_run_68 ?_
              obtain ⟨hdq, hDR, hpvx⟩ := (⟨hSR.1, hSR.2.1, trivial⟩ : dcs G S4 oc od ∧ DRc S4 oc n (hwS U) U.1 ∧ True)
              obtain ⟨hoc, hod, hcd, hec, hed⟩ := id hdq
              have hU11 : U.2.1 1 = 1 := by omega
              have hn1 := Iv.n1 hUI.1.2.2.2.1 hU11; have hn1a := hn1.1; have hn1b := hn1.2.1; have hDp := hUI.1.1.2.2.1; have h178 := hc17 hU11; have h17 := h178.1; have h18 := h178.2
              have q_8 : (-1) ≤ S4.1 135 17 ∧ S4.1 135 17 ≤ 40 := hI4.fi 135 17 2 (by decide) rfl
              have q_9 : (-1) ≤ S4.1 135 18 ∧ S4.1 135 18 ≤ 13 := hI4.fi 135 18 2 (by decide) rfl
              have q_10 : 0 ≤ S4.1 135 19 ∧ S4.1 135 19 ≤ 102220 := hI4.fi 135 19 2 (by decide) rfl
              refine sBi (sV (As := []) (rest := []) (k := 135) Cx (v_X2_pivot l G S4 (oc := oc) (od := od) (n := n) (hw := (hwS U)) (d := U.1) (rr := (U.2.1 8)) (ss := (U.2.1 9)) hI4 ⟨hoc, hod, (neD hcd), hec, hed⟩ hDR (by omega) (by omega) (by omega) (by omega) (by omega) hn1.2.2.1 (Iv.ex hUI.1 hU11)) (c_X7_137 Cx rfl rfl (rmk_ok (by omega) (by decide))) hW (by decide) rfl rfl rfl hl.1 rfl (Nat.le_of_ble_eq_true rfl) dX7_run_71 ⟨Nat.le_of_ble_eq_true rfl, Nat.le_of_ble_eq_true rfl⟩) hL (fun r_13 u_11 H locs k_12 hW hL => ?_)
              obtain ⟨iu_11, fu_11, xu_11⟩ := k_12
              have F_14 := hFm4.trans (fu_11.to pPv_Sr)
              have F_15 := hL4_.trans (fu_11.to pPv_Sr)
              have hpb0 : r_13 = 0 → bgx (hwS U) U.1 (U.2.1 8) (U.2.1 9) := fun z => (xu_11.2.2.2.1 z).1
              have hpb1 : r_13 = 1 → _ := fun z => xu_11.2.2.1 z
              refine r_if_eq (tgt := 98) hx hb ⟨(by omega), (by omega)⟩ dX7_run_74 (by decide) (fun c_16 => ?_) (fun c_16 => ?_)
              · replace hpb0 := hpb0 (by omega)
                refine lv_aload_n hx hb dX7_run_98 rfl (lv_at hl 2 rfl) ?_
                refine lv_iconst (v := iv 5) hx hb dX7_run_99 (by decide) ?_
                refine p_X7_69 Cx hW hL (k := 119) (by decide) rfl dX7_run_100 (fun H locs hW hL => ?_)
                have F_17 : Fr S (uF u_11 119 9 5) pSr := F_14.F rfl
                have F_18 : Fr S (uF u_11 119 9 5) pSr := F_15.F rfl
                have i_19 : cX G (uF u_11 119 9 5) 0 0 0 := iu_11.status ⟨by omega, by omega⟩ (by omega)
                refine lv_goto (tgt := 145) hx hb dX7_run_103 (by decide) ?_
                refine lv_iinc (v := iv (i + 1)) (lv' := [(3, .int (iv (i + 1))), (2, .int (iv dn)), (0, .ref (G.2.2.1 + 119)), (1, .int (iv mo))]) hx hb dX7_run_145 hl (k := 0) rfl ((Int32.ofInt_add _ _).symm) (by decide) rfl (fun ls hl => ?_)
                refine lv_goto (tgt := 4) hx hb dX7_run_148 (by decide) ?_
                exact ih_4 (uF u_11 119 9 5) (i + 1) dn _ _ _ (by omega) i_19 F_17 F_18 (by omega) (by omega) (RNq.st (by omega) hwk (fun z => by rcases z with z | z; exact z hU1; omega) hUI hUp hUl hU1 (by rw [(stp_1 (K := (KKm n A wh al)) (show U.2.1 1 = 1 by omega)), show s_pv U = _ from cif_t hpb0]; exact uF_on) (fun z => by rw [(stp_1 (K := (KKm n A wh al)) (show U.2.1 1 = 1 by omega)), show s_pv U = _ from cif_t hpb0] at z; exact absurd (show (5 : Int) ≤ 4 from z) (by decide)) (by rw [(stp_1 (K := (KKm n A wh al)) (show U.2.1 1 = 1 by omega)), show s_pv U = _ from cif_t hpb0]; exact hud)) hW hL (lv_sub hl [0, 1, 2, 3] rfl)
              · replace hpb1 := hpb1 (by omega)
                refine lv_iinc (v := iv (dn + 1)) (lv' := [(2, .int (iv (dn + 1))), (3, .int (iv i)), (0, .ref (G.2.2.1 + 119)), (1, .int (iv mo))]) hx hb dX7_run_77 hl (k := 1) rfl ((Int32.ofInt_add _ _).symm) (by decide) rfl (fun ls hl => ?_)
                refine lv_aload_n hx hb dX7_run_80 rfl (lv_at hl 2 rfl) ?_
                refine lv_dup hx hb dX7_run_81 rfl ?_
                have q_20 : (-2147483648) ≤ S4.1 119 10 ∧ S4.1 119 10 ≤ 2147483647 := hI4.fi 119 10 7 (by decide) rfl
                refine g_X7_72 Cx hW (k := 119) (by decide) rfl (v := S4.1 119 10) ((fu_11 119 rfl).1 10) dX7_run_82 ?_
                refine lv_iconst (v := iv 1) hx hb dX7_run_85 (by decide) ?_
                refine r_iadd hx hb dX7_run_86 ?_
                refine p_X7_72 Cx hW hL (k := 119) (by decide) rfl dX7_run_87 (fun H locs hW hL => ?_)
                have F_21 : Fr S (uF u_11 119 10 ((S4.1 119 10) + 1)) pSr := F_14.F rfl
                have F_22 : Fr S (uF u_11 119 10 ((S4.1 119 10) + 1)) pSr := F_15.F rfl
                have i_23 : cX G (uF u_11 119 10 ((S4.1 119 10) + 1)) 0 0 0 := iu_11.F rfl rfl (show (-2147483648) ≤ (S4.1 119 10) + 1 ∧ (S4.1 119 10) + 1 ≤ 2147483647 from ⟨by omega, by omega⟩)
                refine lv_aload_n hx hb dX7_run_90 rfl (lv_at hl 2 rfl) ?_
                refine lv_iconst (v := iv 0) hx hb dX7_run_91 (by decide) ?_
                refine p_X7_91 Cx hW hL (k := 119) (by decide) rfl dX7_run_92 (fun H locs hW hL => ?_)
                have F_24 : Fr S (uF (uF u_11 119 10 ((S4.1 119 10) + 1)) 119 15 0) pSr := F_21.F rfl
                have F_25 : Fr S (uF (uF u_11 119 10 ((S4.1 119 10) + 1)) 119 15 0) pSr := F_22.F rfl
                have i_26 : cX G (uF (uF u_11 119 10 ((S4.1 119 10) + 1)) 119 15 0) 0 0 0 := i_23.F rfl rfl (show 0 ≤ 0 ∧ 0 ≤ 6 from ⟨by omega, by omega⟩)
                refine lv_goto (tgt := 145) hx hb dX7_run_95 (by decide) ?_
                refine lv_iinc (v := iv (i + 1)) (lv' := [(3, .int (iv (i + 1))), (2, .int (iv (dn + 1))), (0, .ref (G.2.2.1 + 119)), (1, .int (iv mo))]) hx hb dX7_run_145 hl (k := 1) rfl ((Int32.ofInt_add _ _).symm) (by decide) rfl (fun ls hl => ?_)
                refine lv_goto (tgt := 4) hx hb dX7_run_148 (by decide) ?_
                have q_27 : 0 ≤ S4.1 119 8 ∧ S4.1 119 8 ≤ 20 := hI4.fi 119 8 7 (by decide) rfl
                have lk_28 : (uF (uF u_11 119 10 ((S4.1 119 10) + 1)) 119 15 0).1 119 8 = S4.1 119 8 := (uF_ne (fun h => absurd h.2 (by decide))).trans ((uF_ne (fun h => absurd h.2 (by decide))).trans ((fu_11 119 rfl).1 8))
                have lk_29 : (uF (uF u_11 119 10 ((S4.1 119 10) + 1)) 119 15 0).1 119 9 = S4.1 119 9 := (uF_ne (fun h => absurd h.2 (by decide))).trans ((uF_ne (fun h => absurd h.2 (by decide))).trans ((fu_11 119 rfl).1 9))
                have lk_30 : (uF (uF u_11 119 10 ((S4.1 119 10) + 1)) 119 15 0).1 119 10 = (S4.1 119 10) + 1 := (uF_ne (fun h => absurd h.2 (by decide))).trans (uF_on)
                have q_31 : 0 ≤ S4.1 119 11 ∧ S4.1 119 11 ≤ 1000 := hI4.fi 119 11 7 (by decide) rfl
                have lk_32 : (uF (uF u_11 119 10 ((S4.1 119 10) + 1)) 119 15 0).1 119 11 = S4.1 119 11 := (uF_ne (fun h => absurd h.2 (by decide))).trans ((uF_ne (fun h => absurd h.2 (by decide))).trans ((fu_11 119 rfl).1 11))
                have q_33 : (-2147483648) ≤ S4.1 119 12 ∧ S4.1 119 12 ≤ 2147483647 := hI4.fi 119 12 7 (by decide) rfl
                have lk_34 : (uF (uF u_11 119 10 ((S4.1 119 10) + 1)) 119 15 0).1 119 12 = S4.1 119 12 := (uF_ne (fun h => absurd h.2 (by decide))).trans ((uF_ne (fun h => absurd h.2 (by decide))).trans ((fu_11 119 rfl).1 12))
                have q_35 : (-2147483648) ≤ S4.1 119 13 ∧ S4.1 119 13 ≤ 2147483647 := hI4.fi 119 13 7 (by decide) rfl
                have lk_36 : (uF (uF u_11 119 10 ((S4.1 119 10) + 1)) 119 15 0).1 119 13 = S4.1 119 13 := (uF_ne (fun h => absurd h.2 (by decide))).trans ((uF_ne (fun h => absurd h.2 (by decide))).trans ((fu_11 119 rfl).1 13))
                have q_37 : 0 ≤ S4.1 119 14 ∧ S4.1 119 14 ≤ 3 := hI4.fi 119 14 7 (by decide) rfl
                have lk_38 : (uF (uF u_11 119 10 ((S4.1 119 10) + 1)) 119 15 0).1 119 14 = S4.1 119 14 := (uF_ne (fun h => absurd h.2 (by decide))).trans ((uF_ne (fun h => absurd h.2 (by decide))).trans ((fu_11 119 rfl).1 14))
                have lk_39 : (uF (uF u_11 119 10 ((S4.1 119 10) + 1)) 119 15 0).1 119 15 = 0 := uF_on
                have q_40 : (-1) ≤ S4.1 119 16 ∧ S4.1 119 16 ≤ 40 := hI4.fi 119 16 7 (by decide) rfl
                have lk_41 : (uF (uF u_11 119 10 ((S4.1 119 10) + 1)) 119 15 0).1 119 16 = S4.1 119 16 := (uF_ne (fun h => absurd h.2 (by decide))).trans ((uF_ne (fun h => absurd h.2 (by decide))).trans ((fu_11 119 rfl).1 16))
                have q_42 : (-1) ≤ u_11.1 135 17 ∧ u_11.1 135 17 ≤ 40 := iu_11.fi 135 17 2 (by decide) rfl
                have lk_43 : (uF (uF u_11 119 10 ((S4.1 119 10) + 1)) 119 15 0).1 135 17 = u_11.1 135 17 := (uF_ne (fun h => absurd h.2 (by decide))).trans (uF_ne (fun h => absurd h.2 (by decide)))
                have q_44 : (-1) ≤ u_11.1 135 18 ∧ u_11.1 135 18 ≤ 13 := iu_11.fi 135 18 2 (by decide) rfl
                have lk_45 : (uF (uF u_11 119 10 ((S4.1 119 10) + 1)) 119 15 0).1 135 18 = u_11.1 135 18 := (uF_ne (fun h => absurd h.2 (by decide))).trans (uF_ne (fun h => absurd h.2 (by decide)))
                exact ih_4 (uF (uF u_11 119 10 ((S4.1 119 10) + 1)) 119 15 0) (i + 1) (dn + 1) _ _ _ (by omega) i_26 F_24 F_25 (by omega) (by omega) (RNq.st (by omega) hwk (fun z => by rcases z with z | z; exact z hU1; omega) hUI hUp hUl hU1 (by rw [((stp_1 (K := (KKm n A wh al)) (show U.2.1 1 = 1 by omega)).trans (show s_pv U = (pvD U.1 (U.2.1 8) (U.2.1 9), cu (cu (cu U.2.1 4 (U.2.1 4 + 1)) 1 0) 3 (if U.2.1 3 = 0 then 1 else U.2.1 3), U.2.2) from cif_f hpb1.1))]; exact (show (uF (uF u_11 119 10 ((S4.1 119 10) + 1)) 119 15 0).1 119 9 = U.2.1 0 by omega)) (fun _ => by rw [((stp_1 (K := (KKm n A wh al)) (show U.2.1 1 = 1 by omega)).trans (show s_pv U = (pvD U.1 (U.2.1 8) (U.2.1 9), cu (cu (cu U.2.1 4 (U.2.1 4 + 1)) 1 0) 3 (if U.2.1 3 = 0 then 1 else U.2.1 3), U.2.2) from cif_f hpb1.1))]; exact ⟨od, oc, RR, ⟨⟨hpb1.2.1.1, hpb1.2.1.2.1, hpb1.2.1.2.2.1, (((uF_r).trans (uF_r)).trans hpb1.2.1.2.2.2.1), (((uF_r).trans (uF_r)).trans hpb1.2.1.2.2.2.2)⟩, (show DRc (uF (uF u_11 119 10 ((S4.1 119 10) + 1)) 119 15 0) od n (hwS _) (pvD U.1 (U.2.1 8) (U.2.1 9)) from by have e := DRc.of (u := (uF (uF u_11 119 10 ((S4.1 119 10) + 1)) 119 15 0)) hpb1.2.2 ((uF_ne (fun h => absurd h.2 (by decide))).trans (uF_ne (fun h => absurd h.2 (by decide)))) ((uF_ne (fun h => absurd h.2 (by decide))).trans (uF_ne (fun h => absurd h.2 (by decide)))) ((uF_ne (fun h => absurd h.1 (by decide))).trans (uF_ne (fun h => absurd h.2 (by decide)))) ((uF_ne (fun h => absurd h.2 (by decide))).trans (uF_ne (fun h => absurd h.2 (by decide)))) (funext fun x => (uF_a).trans (uF_a)) (funext fun x => (uF_a).trans (uF_a)) (funext fun x => (uF_a).trans (uF_a)); rw [show hwS U = _ from (hwpv U).symm] at e; exact e), (KSc.of hSR.2.2.1 (((uF_ne (fun h => absurd h.2 (by decide))).trans (uF_ne (fun h => absurd h.2 (by decide))) : (uF (uF u_11 119 10 ((S4.1 119 10) + 1)) 119 15 0).1 135 19 = u_11.1 135 19).trans xu_11.2.2.2.2) (funext fun x => (uF_a).trans ((uF_a).trans ((fu_11 140 rfl).2.1 x)))), (TXc.of hSR.2.2.2.1 ((uF_ne (fun h => absurd h.2 (by decide))).trans ((uF_ne (fun h => absurd h.2 (by decide))).trans ((fu_11 160 rfl).1 1))) ((uF_ne (fun h => absurd h.2 (by decide))).trans ((uF_ne (fun h => absurd h.2 (by decide))).trans ((fu_11 160 rfl).1 2))) (funext fun x => (uF_a).trans ((uF_a).trans ((fu_11 161 rfl).2.1 x)))), (RWz.of hSR.2.2.2.2.1 ((uF_ne (fun h => absurd h.2 (by decide))).trans ((uF_ne (fun h => absurd h.2 (by decide))).trans ((fu_11 120 rfl).1 8))) ((uF_ne (fun h => absurd h.2 (by decide))).trans ((uF_ne (fun h => absurd h.2 (by decide))).trans ((fu_11 120 rfl).1 9))) (funext fun x => (uF_a).trans ((uF_a).trans ((fu_11 121 rfl).2.1 x)))), hSR.2.2.2.2.2.1, ⟨(((uF_r).trans ((uF_r).trans ((fu_11 119 rfl).2.2.2 7))).trans hSR.2.2.2.2.2.2.1.1), (MDv.of hSR.2.2.2.2.2.2.1.2 ((uF_ne (fun h => absurd h.2 (by decide))).trans ((uF_ne (fun h => absurd h.2 (by decide))).trans ((fu_11 md (mo_pPv hmo).1).1 2))) ((uF_ne (fun h => absurd h.2 (by decide))).trans ((uF_ne (fun h => absurd h.2 (by decide))).trans ((fu_11 md (mo_pPv hmo).1).1 3))) ((uF_ne (fun h => absurd h.2 (by decide))).trans ((uF_ne (fun h => absurd h.2 (by decide))).trans ((fu_11 md (mo_pPv hmo).1).1 4))) (funext fun x => (uF_a).trans ((uF_a).trans ((fu_11 (md + 1) (mo_pPv hmo).2.1).2.1 x))) (funext fun x => (uF_a).trans ((uF_a).trans ((fu_11 (md + 2) (mo_pPv hmo).2.2).2.1 x))))⟩, (BPc.of hSR.2.2.2.2.2.2.2.1 (funext fun x => (uF_a).trans ((uF_a).trans ((fu_11 162 rfl).2.1 x)))), ⟨(show (uF (uF u_11 119 10 ((S4.1 119 10) + 1)) 119 15 0).1 119 8 = al by omega), (show (uF (uF u_11 119 10 ((S4.1 119 10) + 1)) 119 15 0).1 119 9 = U.2.1 0 by omega), (show (uF (uF u_11 119 10 ((S4.1 119 10) + 1)) 119 15 0).1 119 10 = U.2.1 4 + 1 by omega), (show (uF (uF u_11 119 10 ((S4.1 119 10) + 1)) 119 15 0).1 119 11 = U.2.1 5 by omega), (show (uF (uF u_11 119 10 ((S4.1 119 10) + 1)) 119 15 0).1 119 12 = U.2.1 6 by omega), (show (uF (uF u_11 119 10 ((S4.1 119 10) + 1)) 119 15 0).1 119 13 = U.2.1 7 by omega), (show (uF (uF u_11 119 10 ((S4.1 119 10) + 1)) 119 15 0).1 119 14 = phC (if U.2.1 3 = 0 then 1 else U.2.1 3) by rw [phC_p]; omega), (show (uF (uF u_11 119 10 ((S4.1 119 10) + 1)) 119 15 0).1 119 15 = 0 by omega), (fun q => absurd (show (3 : Int) ≤ 0 from q.1) (by decide)), (fun q => absurd (show (0 : Int) = 1 from q) (by decide)), (fun q => absurd (show U.2.1 0 = 4 from q) (by omega))⟩⟩⟩) (by rw [((stp_1 (K := (KKm n A wh al)) (show U.2.1 1 = 1 by omega)).trans (show s_pv U = (pvD U.1 (U.2.1 8) (U.2.1 9), cu (cu (cu U.2.1 4 (U.2.1 4 + 1)) 1 0) 3 (if U.2.1 3 = 0 then 1 else U.2.1 3), U.2.2) from cif_f hpb1.1))]; show dn + 1 = U.2.1 4 + 1 - Wm.2.1 4; omega)) hW hL (lv_sub hl [0, 1, 2, 3] rfl)
            · refine lv_iload_n hx hb dX7_run_65 rfl (lv_at hl 1 rfl) ?_
              exact sIret Cx hr hlk hW hL ⟨hI4, hFm4, ⟨by omega, by omega, U, hwk, .inr ⟨by omega, by omega⟩, hud, hu9, hsr, fun q => ⟨(hgo q).1, (hgo q).2.2⟩⟩⟩ dX7_run_66
          by_cases c_46 : S4.1 119 15 = 2
          · refine lv_tableIn (off := 84) (tgt := 106) hx hb dX7_run_22 (by rw [c_46]; decide) (by rw [c_46]; decide) (by rw [c_46]; decide) (by decide) ?_
            refine lv_aload_n hx hb dX7_run_106 rfl (lv_at hl 2 rfl) ?_
            refine sBv (sV (As := []) (rest := []) (k := 119) Cx (v_X7_judge l G S4 (oc := oc) (od := od) (md := md) (n := n) (mm := mm) (mx := mx) (al := al) (A := A) (wh := wh) (RR := RR) (Wm := U) hI4 hmo hSR hUI (by omega) (by omega) (by omega) (by omega)) (c_X7_140 Cx rfl rfl (rmk_ok (by omega) (by decide))) hW (by decide) rfl rfl rfl hl.1 rfl (Nat.le_of_ble_eq_true rfl) dX7_run_107 ⟨Nat.le_of_ble_eq_true rfl, Nat.le_of_ble_eq_true rfl⟩) hL (fun u_47 H locs k_48 hW hL => ?_)
            obtain ⟨iu_47, fu_47, xu_47⟩ := k_48
            have F_49 := hFm4.trans fu_47
            have F_50 := hL4_.trans fu_47
            refine lv_goto (tgt := 145) hx hb dX7_run_110 (by decide) ?_
            refine lv_iinc (v := iv (i + 1)) (lv' := [(3, .int (iv (i + 1))), (2, .int (iv dn)), (0, .ref (G.2.2.1 + 119)), (1, .int (iv mo))]) hx hb dX7_run_145 hl (k := 0) rfl ((Int32.ofInt_add _ _).symm) (by decide) rfl (fun ls hl => ?_)
            refine lv_goto (tgt := 4) hx hb dX7_run_148 (by decide) ?_
            exact ih_4 u_47 (i + 1) dn _ _ _ (by omega) iu_47 F_49 F_50 (by omega) (by omega) (RNq.st (by omega) hwk (fun z => by rcases z with z | z; exact z hU1; omega) hUI hUp hUl hU1 xu_47.1 (fun z => ⟨oc, od, RR, xu_47.2 z⟩) (by rw [c4_st hUI.1 (by omega)]; exact hud)) hW hL (lv_sub hl [0, 1, 2, 3] rfl)
          by_cases c_51 : S4.1 119 15 = 3
          · refine lv_tableIn (off := 91) (tgt := 113) hx hb dX7_run_22 (by rw [c_51]; decide) (by rw [c_51]; decide) (by rw [c_51]; decide) (by decide) ?_
            refine lv_aload_n hx hb dX7_run_113 rfl (lv_at hl 2 rfl) ?_
            refine sBv (sV (As := []) (rest := []) (k := 119) Cx (v_X7_leaf l G S4 (oc := oc) (od := od) (md := md) (n := n) (mm := mm) (mx := mx) (al := al) (A := A) (wh := wh) (RR := RR) (Wm := U) hI4 hmo hSR hUI (by omega) (by omega) (by omega)) (c_X7_143 Cx rfl rfl (rmk_ok (by omega) (by decide))) hW (by decide) rfl rfl rfl hl.1 rfl (Nat.le_of_ble_eq_true rfl) dX7_run_114 ⟨Nat.le_of_ble_eq_true rfl, Nat.le_of_ble_eq_true rfl⟩) hL (fun u_52 H locs k_53 hW hL => ?_)
            obtain ⟨iu_52, fu_52, xu_52⟩ := k_53
            have F_54 := hFm4.trans fu_52
            have F_55 := hL4_.trans fu_52
            refine lv_goto (tgt := 145) hx hb dX7_run_117 (by decide) ?_
            refine lv_iinc (v := iv (i + 1)) (lv' := [(3, .int (iv (i + 1))), (2, .int (iv dn)), (0, .ref (G.2.2.1 + 119)), (1, .int (iv mo))]) hx hb dX7_run_145 hl (k := 0) rfl ((Int32.ofInt_add _ _).symm) (by decide) rfl (fun ls hl => ?_)
            refine lv_goto (tgt := 4) hx hb dX7_run_148 (by decide) ?_
            exact ih_4 u_52 (i + 1) dn _ _ _ (by omega) iu_52 F_54 F_55 (by omega) (by omega) (RNq.st (by omega) hwk (fun z => by rcases z with z | z; exact z hU1; omega) hUI hUp hUl hU1 xu_52.1 (fun z => ⟨oc, od, RR, xu_52.2 z⟩) (by rw [c4_st hUI.1 (by omega)]; exact hud)) hW hL (lv_sub hl [0, 1, 2, 3] rfl)
          by_cases c_56 : S4.1 119 15 = 4
          · refine lv_tableIn (off := 98) (tgt := 120) hx hb dX7_run_22 (by rw [c_56]; decide) (by rw [c_56]; decide) (by rw [c_56]; decide) (by decide) ?_
            refine lv_aload_n hx hb dX7_run_120 rfl (lv_at hl 2 rfl) ?_
            refine sBv (sV (As := []) (rest := []) (k := 119) Cx (v_X7_cut l G S4 (oc := oc) (od := od) (md := md) (n := n) (mm := mm) (mx := mx) (al := al) (A := A) (wh := wh) (RR := RR) (Wm := U) hI4 hmo hSR hUI (by omega) (by omega) (by omega)) (c_X7_146 Cx rfl rfl (rmk_ok (by omega) (by decide))) hW (by decide) rfl rfl rfl hl.1 rfl (Nat.le_of_ble_eq_true rfl) dX7_run_121 ⟨Nat.le_of_ble_eq_true rfl, Nat.le_of_ble_eq_true rfl⟩) hL (fun u_57 H locs k_58 hW hL => ?_)
            obtain ⟨iu_57, fu_57, xu_57⟩ := k_58
            have F_59 := hFm4.trans fu_57
            have F_60 := hL4_.trans fu_57
            refine lv_goto (tgt := 145) hx hb dX7_run_124 (by decide) ?_
            refine lv_iinc (v := iv (i + 1)) (lv' := [(3, .int (iv (i + 1))), (2, .int (iv dn)), (0, .ref (G.2.2.1 + 119)), (1, .int (iv mo))]) hx hb dX7_run_145 hl (k := 0) rfl ((Int32.ofInt_add _ _).symm) (by decide) rfl (fun ls hl => ?_)
            refine lv_goto (tgt := 4) hx hb dX7_run_148 (by decide) ?_
            exact ih_4 u_57 (i + 1) dn _ _ _ (by omega) iu_57 F_59 F_60 (by omega) (by omega) (RNq.st (by omega) hwk (fun z => by rcases z with z | z; exact z hU1; omega) hUI hUp hUl hU1 xu_57.1 (fun z => by obtain ⟨R2, h2⟩ := xu_57.2 z; exact ⟨oc, od, R2, h2⟩) (by rw [c4_st hUI.1 (by omega)]; exact hud)) hW hL (lv_sub hl [0, 1, 2, 3] rfl)
          by_cases c_61 : S4.1 119 15 = 5
          · refine lv_tableIn (off := 105) (tgt := 127) hx hb dX7_run_22 (by rw [c_61]; decide) (by rw [c_61]; decide) (by rw [c_61]; decide) (by decide) ?_
            refine lv_aload_n hx hb dX7_run_127 rfl (lv_at hl 2 rfl) ?_
            refine sBv (sV (As := []) (rest := []) (k := 119) Cx (v_X7_branch l G S4 (oc := oc) (od := od) (md := md) (n := n) (mm := mm) (mx := mx) (al := al) (A := A) (wh := wh) (RR := RR) (Wm := U) hI4 hmo hSR hUI (by omega) (by omega) (by omega)) (c_X7_149 Cx rfl rfl (rmk_ok (by omega) (by decide))) hW (by decide) rfl rfl rfl hl.1 rfl (Nat.le_of_ble_eq_true rfl) dX7_run_128 ⟨Nat.le_of_ble_eq_true rfl, Nat.le_of_ble_eq_true rfl⟩) hL (fun u_62 H locs k_63 hW hL => ?_)
            obtain ⟨iu_62, fu_62, xu_62⟩ := k_63
            have F_64 := hFm4.trans fu_62
            have F_65 := hL4_.trans fu_62
            refine lv_goto (tgt := 145) hx hb dX7_run_131 (by decide) ?_
            refine lv_iinc (v := iv (i + 1)) (lv' := [(3, .int (iv (i + 1))), (2, .int (iv dn)), (0, .ref (G.2.2.1 + 119)), (1, .int (iv mo))]) hx hb dX7_run_145 hl (k := 0) rfl ((Int32.ofInt_add _ _).symm) (by decide) rfl (fun ls hl => ?_)
            refine lv_goto (tgt := 4) hx hb dX7_run_148 (by decide) ?_
            exact ih_4 u_62 (i + 1) dn _ _ _ (by omega) iu_62 F_64 F_65 (by omega) (by omega) (RNq.st (by omega) hwk (fun z => by rcases z with z | z; exact z hU1; omega) hUI hUp hUl hU1 xu_62.1 (fun z => by obtain ⟨R2, h2⟩ := xu_62.2 z; exact ⟨oc, od, R2, h2⟩) (by rw [c4_st hUI.1 (by omega)]; exact hud)) hW hL (lv_sub hl [0, 1, 2, 3] rfl)
          by_cases c_66 : S4.1 119 15 = 6
          · refine lv_tableIn (off := 112) (tgt := 134) hx hb dX7_run_22 (by rw [c_66]; decide) (by rw [c_66]; decide) (by rw [c_66]; decide) (by decide) ?_
            refine lv_aload_n hx hb dX7_run_134 rfl (lv_at hl 2 rfl) ?_
            refine sBv (sV (As := []) (rest := []) (k := 119) Cx (v_X7_beginSecondChild l G S4 (oc := oc) (od := od) (md := md) (n := n) (mm := mm) (mx := mx) (al := al) (A := A) (wh := wh) (RR := RR) (Wm := U) hI4 hmo hSR hUI (by omega) (by omega) (by omega) hUl) (c_X7_152 Cx rfl rfl (rmk_ok (by omega) (by decide))) hW (by decide) rfl rfl rfl hl.1 rfl (Nat.le_of_ble_eq_true rfl) dX7_run_135 ⟨Nat.le_of_ble_eq_true rfl, Nat.le_of_ble_eq_true rfl⟩) hL (fun u_67 H locs k_68 hW hL => ?_)
            obtain ⟨iu_67, fu_67, xu_67⟩ := k_68
            have F_69 := hFm4.trans fu_67
            have F_70 := hL4_.trans fu_67
            refine lv_goto (tgt := 145) hx hb dX7_run_138 (by decide) ?_
            refine lv_iinc (v := iv (i + 1)) (lv' := [(3, .int (iv (i + 1))), (2, .int (iv dn)), (0, .ref (G.2.2.1 + 119)), (1, .int (iv mo))]) hx hb dX7_run_145 hl (k := 0) rfl ((Int32.ofInt_add _ _).symm) (by decide) rfl (fun ls hl => ?_)
            refine lv_goto (tgt := 4) hx hb dX7_run_148 (by decide) ?_
            exact ih_4 u_67 (i + 1) dn _ _ _ (by omega) iu_67 F_69 F_70 (by omega) (by omega) (RNq.st (by omega) hwk (fun z => by rcases z with z | z; exact z hU1; omega) hUI hUp hUl hU1 xu_67.1 (fun z => by obtain ⟨R2, h2⟩ := xu_67.2 z; exact ⟨oc, od, R2, h2⟩) (by rw [c4_st hUI.1 (by omega)]; exact hud)) hW hL (lv_sub hl [0, 1, 2, 3] rfl)
          refine lv_tableOut (tgt := 141) hx hb dX7_run_22 (by rw [iv_toInt ⟨(by omega), (by omega)⟩]; omega) (by decide) ?_
          refine lv_aload_n hx hb dX7_run_141 rfl (lv_at hl 2 rfl) ?_
          refine sBv (sV (As := []) (rest := []) (k := 119) Cx (v_X7_choose l G S4 (oc := oc) (od := od) (md := md) (n := n) (mm := mm) (mx := mx) (al := al) (A := A) (wh := wh) (RR := RR) (Wm := U) hI4 hmo hSR hUI (by omega) (by omega) (by omega)) (c_X7_155 Cx rfl rfl (rmk_ok (by omega) (by decide))) hW (by decide) rfl rfl rfl hl.1 rfl (Nat.le_of_ble_eq_true rfl) dX7_run_142 ⟨Nat.le_of_ble_eq_true rfl, Nat.le_of_ble_eq_true rfl⟩) hL (fun u_71 H locs k_72 hW hL => ?_)
          obtain ⟨iu_71, fu_71, xu_71⟩ := k_72
          have F_73 := hFm4.trans fu_71
          have F_74 := hL4_.trans fu_71
          refine lv_iinc (v := iv (i + 1)) (lv' := [(3, .int (iv (i + 1))), (2, .int (iv dn)), (0, .ref (G.2.2.1 + 119)), (1, .int (iv mo))]) hx hb dX7_run_145 hl (k := 0) rfl ((Int32.ofInt_add _ _).symm) (by decide) rfl (fun ls hl => ?_)
          refine lv_goto (tgt := 4) hx hb dX7_run_148 (by decide) ?_
          exact ih_4 u_71 (i + 1) dn _ _ _ (by omega) iu_71 F_73 F_74 (by omega) (by omega) (RNq.st (by omega) hwk (fun z => by rcases z with z | z; exact z hU1; omega) hUI hUp hUl hU1 xu_71.1 (fun z => ⟨oc, od, RR, xu_71.2 z⟩) (by rw [c4_st hUI.1 (by omega)]; exact hud)) hW hL (lv_sub hl [0, 1, 2, 3] rfl)
  exact loop_4 (_ + 1) S 0 0 _ _ _ (Nat.lt_succ_self _) hI (Fr.rf : Fr S S pSr) Fr.rf (by omega) (by omega) hrn0 hW hL (lv_sub hl [0, 1, 2, 3] rfl)
