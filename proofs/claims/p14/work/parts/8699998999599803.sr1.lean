/-! The work's numbers stay small; how long a head may be; all that holds of the machine besides -/
def sml (x : Int) : Prop := -pw 6 < x ∧ x < pw 6
theorem sml_n {x : Int} (h : sml x) : sml (-x) := by unfold sml at h ⊢; omega
theorem sml_0 : sml 0 := by unfold sml; decide
theorem sml_sg {x y : Int} (h : sml x) : sml (sgi y * x) := by
  rcases sgi_1 y with e | e <;> rw [e]
  · rw [Int.one_mul]; exact h
  · rw [Int.neg_one_mul]; exact sml_n h
theorem sml_d {x g : Int} (h : sml x) (hg : 0 < g) : sml (x / g) := by
  unfold sml at h ⊢
  rcases Int.lt_or_le x 0 with q | q
  · have a : x ≤ x / g := Int.le_ediv_of_mul_le hg (by
      have b : x * g ≤ x * 1 := Int.mul_le_mul_of_nonpos_left (by omega) (by omega)
      omega)
    have c : x / g < 0 := Int.ediv_neg_of_neg_of_pos q hg
    have p := pw_pos 6
    omega
  · have a := Int.ediv_nonneg q (Int.le_of_lt hg)
    have b := Int.ediv_le_self g q
    omega
/-- a dictionary's numbers -/
def sb (hw : Int) (d : dT) : Prop := (∀ i j, -1 ≤ i → i ≤ d.2.2.2.2.1 → (i = -1 → hw = 1) → 0 ≤ j → j ≤ d.2.2.2.2.2 → sml (d.2.1 i j)) ∧ sml d.1
section SR
variable {K : qT} {W : wT} {d : dT} {n hw r s : Int}
theorem sb.pv (h : sb hw d) (hr : 1 ≤ r ∧ r ≤ d.2.2.2.2.1) (hs : 1 ≤ s ∧ s ≤ d.2.2.2.2.2) (hb : ¬ bgx hw d r s) : sb hw (pvD d r s) := by
  refine ⟨fun i j i0 i1 iw j0 j1 => ?_, ?_⟩
  · have i1 : i ≤ d.2.2.2.2.1 := i1
    have j1 : j ≤ d.2.2.2.2.2 := j1
    show sml (pvT d r s i j)
    by_cases e : i = r
    · by_cases f : j = s
      · unfold pvT; rw [if_pos e, if_pos f]; exact sml_sg h.2
      · unfold pvT; rw [if_pos e, if_neg f]; exact sml_sg (h.1 r j (by omega) hr.2 (fun q => by omega) j0 j1)
    · by_cases f : j = s
      · unfold pvT; rw [if_neg e, if_pos f]; exact sml_n (sml_sg (h.1 i s i0 i1 iw (by omega) hs.2))
      · have z : ¬ bgN (pvT d r s i j) := fun q => hb ⟨i, j, ⟨i0, i1⟩, iw, ⟨j0, j1⟩, e, f, q⟩
        unfold bgN at z
        unfold sml
        omega
  · show sml (sgi (d.2.1 r s) * d.2.1 r s)
    exact sml_sg (h.1 r s (by omega) hr.2 (fun q => by omega) (by omega) hs.2)
theorem sb.ad {t : Int → Int} (h : sb 0 d) (ht : ∀ j, 0 ≤ j → j ≤ d.2.2.2.2.2 → sml (t j)) : sb 0 (adR n d t) := by
  refine ⟨fun i j i0 i1 iw j0 j1 => ?_, h.2⟩
  have i1 : i ≤ d.2.2.2.2.1 + 1 := i1
  show sml (if i = d.2.2.2.2.1 + 1 then t j else d.2.1 i j)
  by_cases e : i = d.2.2.2.2.1 + 1
  · rw [if_pos e]; exact ht j j0 j1
  · rw [if_neg e]; exact h.1 i j i0 (by omega) iw j0 j1
theorem sml_m {x D : Int} (hD : 0 < D) (h : sml D) : sml (x % D) ∧ sml (x % D - D) := by
  have a := Int.emod_nonneg x (show D ≠ 0 by omega)
  have b := Int.emod_lt_of_pos x hD
  unfold sml at h ⊢
  omega
theorem sb.cu (h : sb 0 d) (hD : 0 < d.1) (hr : 1 ≤ r ∧ r ≤ d.2.2.2.2.1) : sb 0 (adR n d (cuR d r)) := h.ad (fun j _ _ => sml_n (sml_m hD h.2).1)
theorem sb.lo (h : sb 0 d) (hD : 0 < d.1) (hr : 1 ≤ r ∧ r ≤ d.2.2.2.2.1) : sb 0 (adR n d (loR d r)) := h.ad (fun j j0 j1 => by
  show sml (if j = 0 then -(d.2.1 r 0 % d.1) else -d.2.1 r j)
  by_cases e : j = 0
  · rw [if_pos e]; exact sml_n (sml_m hD h.2).1
  · rw [if_neg e]; exact sml_n (h.1 r j (by omega) hr.2 (fun q => by omega) j0 j1))
theorem sb.hi (h : sb 0 d) (hD : 0 < d.1) (hr : 1 ≤ r ∧ r ≤ d.2.2.2.2.1) : sb 0 (adR n d (hiR d r)) := h.ad (fun j j0 j1 => by
  show sml (if j = 0 then d.2.1 r 0 % d.1 - d.1 else d.2.1 r j)
  by_cases e : j = 0
  · rw [if_pos e]; exact (sml_m hD h.2).2
  · rw [if_neg e]; exact h.1 r j (by omega) hr.2 (fun q => by omega) j0 j1)
theorem sb.dp (h : sb 1 d) (hp : 0 ≤ d.2.2.2.2.2) : sb 0 (dpD d) := by
  refine ⟨fun i j i0 i1 iw j0 j1 => ?_, h.2⟩
  have j1 : j ≤ d.2.2.2.2.2 - 1 := j1
  show sml (if j = pOf d 0 then d.2.1 i d.2.2.2.2.2 else d.2.1 i j)
  by_cases e : j = pOf d 0
  · rw [if_pos e]; exact h.1 i _ i0 i1 (fun _ => rfl) hp (Int.le_refl _)
  · rw [if_neg e]; exact h.1 i j i0 i1 (fun _ => rfl) j0 (by omega)
theorem sb.to {hv : Int} (h : sb hw d) (e : hv = 1 → hw = 1) : sb hv d := ⟨fun i j i0 i1 iw j0 j1 => h.1 i j i0 i1 (fun q => e (iw q)) j0 j1, h.2⟩
/-- the machine's numbers -/
def Jb (W : wT) : Prop := sb (hwS W) W.1 ∧ (∀ q, q ∈ W.2.2.2.1 → sb 0 q.1) ∧ (0 < W.2.1 6 → sml W.2.2.2.2.1 ∧ sml W.2.2.2.2.2.1 ∧ ∀ v, sml (W.2.2.2.2.2.2 v))
theorem Jb.c {c : Nat → Int} (j : Jb W) (e : hwS (wC W c) = 1 → hwS W = 1) (e6 : c 6 = W.2.1 6) : Jb (wC W c) := ⟨j.1.to e, j.2.1, fun q => j.2.2 (by have q : 0 < c 6 := q; omega)⟩
theorem Jb.c3 {c : Nat → Int} (j : Jb W) (e : c 3 = W.2.1 3) (e6 : c 6 = W.2.1 6) : Jb (wC W c) := j.c (fun q => by rw [show hwS (wC W c) = hwS W from hw_cg e] at q; exact q) e6
theorem sb.pt (h : sb hw d) (hm : 0 ≤ d.2.2.2.2.1) (hp : 0 ≤ d.2.2.2.2.2) (v : Int) : sml (ptB d v) := by
  unfold ptB
  by_cases q : rOf d v ≠ 0
  · rw [cif_t q]
    have r := rOf_i q hm
    exact h.1 _ 0 (by omega) r.1.2 (fun z => by omega) (by omega) hp
  · rw [cif_f q]; exact sml_0
theorem Jb.st (h : Iv K W) (j : Jb W) : Jb (stp K W) := by
  have a := h.1
  have pl := a.2.1.1
  have ml := a.1.1
  have hD := a.2.2.1
  rcases h.2.2.2.1 with n | n | n | n | n | n
  · rw [stp_0 n]
    rcases h.2.2.1 with f | f | f | f | f
    · rw [ch_0 f.1]; exact j.c3 rfl rfl
    · by_cases q : cU W.1 (-1) ≠ 0 ∧ rU W.1 (cU W.1 (-1)) ≠ 0
      · rw [ch_1p f.1 q]; exact j.c3 rfl rfl
      · by_cases z : W.1.2.1 (-1) 0 < 0
        · rw [ch_1l f.1 q z]; exact j.c3 rfl rfl
        · by_cases y : rOf W.1 0 ≠ 0
          · rw [ch_1o f.1 q z y]
            exact Jb.c3 (W := wC W (cu W.2.1 3 5)) (j.c (fun _ => hw_1 (.inr (.inl f.1))) rfl) rfl rfl
          · rw [ch_1d f.1 q z y]
            have e := j.1
            rw [hw_1 (.inr (.inl f.1))] at e
            exact ⟨by rw [show hwS (dpW W) = 0 from hw_0 (.inl rfl)]; exact e.dp pl, j.2.1, j.2.2⟩
    · rw [ch_5 f.1]
      have e := j.1
      rw [hw_1 (.inr (.inr f.1))] at e
      exact ⟨by rw [show hwS (dpW W) = 0 from hw_0 (.inl rfl)]; exact e.dp pl, j.2.1, j.2.2⟩
    · by_cases q : cU W.1 0 = 0
      · rw [ch_3j f.1 q]; exact j.c3 rfl rfl
      · by_cases z : rU W.1 (cU W.1 0) = 0
        · rw [ch_3u f.1 q z]; exact j.c3 rfl rfl
        · rw [ch_3p f.1 q z]; exact j.c3 rfl rfl
    · by_cases q : rDn W.1 = 0
      · rw [ch_4j f q]; exact j.c3 rfl rfl
      · by_cases z : cDn W.1 (rDn W.1) = 0
        · rw [ch_4l f q z]; exact j.c3 rfl rfl
        · rw [ch_4p f q z]; exact j.c3 rfl rfl
  · rw [stp_1 n.1]
    by_cases b : bgx (hwS W) W.1 (W.2.1 8) (W.2.1 9)
    · rw [show s_pv W = _ from cif_t b]; exact j.c3 rfl rfl
    · rw [show s_pv W = _ from cif_f b]
      obtain ⟨r, s, _⟩ := Iv.n1 h.2.2.2.1 n.1
      exact ⟨by rw [hwpv W]; exact j.1.pv r s b, j.2.1, j.2.2⟩
  · rw [stp_2 n.1]
    by_cases q : 0 < W.2.1 6 ∧ ¬ abv K W
    · rw [show s_ju K W = toL W 0 from cif_t q]; exact j.c3 rfl rfl
    · by_cases z : bRk K.1 K.2.1 W.1 = 0
      · rw [show s_ju K W = _ from (cif_f q).trans (cif_t z)]
        exact ⟨j.1.to (fun q => q), j.2.1, fun _ => ⟨j.1.1 0 0 (by omega) (by omega) (fun q => by omega) (by omega) pl, j.1.2, j.1.pt ml pl⟩⟩
      · rw [show s_ju K W = _ from (cif_f q).trans (cif_f z)]; exact j.c3 rfl rfl
  · rw [stp_3 n.1]
    by_cases t : 30000 < (leT K.1 W.1 (W.2.1 2) W.2.2.1).length
    · rw [show s_le K W = _ from cif_t t]; exact j.c3 rfl rfl
    · rw [show s_le K W = _ from cif_f t]
      by_cases s : W.2.2.2.1.length = 0
      · rw [cif_t s]; exact ⟨j.1.to (fun q => q), j.2.1, j.2.2⟩
      · rw [cif_f s]; exact ⟨j.1.to (fun q => q), j.2.1, j.2.2⟩
  · have s0 := j.1
    rw [hw_0 n.2.1] at s0
    rcases n.1 with e | e
    · rw [stp_4 e]
      by_cases t : 30000 < (cuT K.1 W.1 (W.2.1 2) W.2.2.1).length ∨ 40 ≤ W.1.2.2.2.2.1 ∨ 1000 ≤ W.2.1 5
      · rw [show s_cu K W = _ from cif_t t]; exact j.c3 rfl rfl
      · rw [show s_cu K W = _ from cif_f t]
        exact ⟨(s0.cu hD n.2.2.1).to (fun q => absurd (show (0 : Int) = 1 from q) (by decide)), j.2.1, j.2.2⟩
    · rw [stp_5 e]
      by_cases t : 30000 < (brT W.1 (W.2.1 2) W.2.2.1).length ∨ 40 ≤ W.1.2.2.2.2.1 ∨ 1000 ≤ W.2.1 5
      · rw [show s_br K W = _ from cif_t t]; exact j.c3 rfl rfl
      · rw [show s_br K W = _ from cif_f t]
        refine ⟨(s0.lo hD n.2.2.1).to (fun q => absurd (show (0 : Int) = 1 from q) (by decide)), fun q hq => ?_, j.2.2⟩
        have hq : q ∈ (W.1, W.2.1 2) :: W.2.2.2.1 := hq
        rcases List.mem_cons.mp hq with z | z
        · rw [z]; exact s0
        · exact j.2.1 q z
  · rw [stp_6 n.1]
    by_cases t : 1000 ≤ W.2.1 5
    · rw [show s_se K W = _ from cif_t t]; exact j.c3 rfl rfl
    · rw [show s_se K W = _ from cif_f t]
      have sk := h.2.2.2.2.1
      obtain ⟨d, cc, tr, sk', bb⟩ := W
      cases sk' with
      | nil => exact absurd rfl n.2.1
      | cons q t' =>
        have k : q.1.2.2.2.2.1 < d.2.2.2.2.1 ∧ dOK K.1 0 q.1 ∧ (1 ≤ q.2 ∧ q.2 ≤ q.1.2.2.2.2.1) ∧ (1 ≤ q.1.2.2.1 q.2 ∧ q.1.2.2.1 q.2 ≤ K.1) ∧ skO K.1 q.1.2.2.2.2.1 t' := sk
        exact ⟨((j.2.1 q List.mem_cons_self).hi k.2.1.2.2.1 k.2.2.1).to (fun q => absurd (show (0 : Int) = 1 from q) (by decide)), fun x hx => j.2.1 x (List.mem_cons_of_mem _ hx), j.2.2⟩
end SR
theorem W0_jb {n mm : Int} {A : Int → Int → Int} {hw : Int} (hA : ∀ i j, -100000 ≤ A i j ∧ A i j ≤ 100000) : Jb (W0m n mm A hw) := by
  have p : (100000 : Int) < pw 6 := by decide
  have s1 : ∀ x : Int, -100000 ≤ x ∧ x ≤ 100000 → sml x := fun x h => by unfold sml; omega
  refine ⟨⟨fun i j _ _ _ _ _ => ?_, s1 _ (by show -100000 ≤ (1 : Int) ∧ (1 : Int) ≤ 100000; decide)⟩, fun q hq => absurd hq (List.not_mem_nil), fun q => absurd (show (0 : Int) < 0 from q) (by decide)⟩
  show sml (if j = n + 1 then (if i = -1 then 1 else if i = 0 then 0 else -1) else if i = -1 then 0 else if i = 0 ∧ 0 < j then -A 0 j else A i j)
  have a := hA 0 j
  have b := hA i j
  apply s1
  split
  · split
    · omega
    · split <;> omega
  · split
    · omega
    · split <;> omega
/-- where the work has ended -/
def Je (K : qT) (W : wT) : Prop := (W.2.1 0 = 2 → 0 < W.2.1 6 ∧ 0 < W.2.2.2.2.2.1) ∧ (W.2.1 0 = 3 → W.2.1 6 = 0) ∧ (W.2.1 0 = 4 → (dOK K.1 0 W.1 ∧ nn0 W.1) ∧ (W.2.1 3 = 3 ∧ 1 ≤ W.2.1 9 ∧ W.2.1 9 ≤ W.1.2.2.2.2.2)) ∧ (W.2.1 0 = 2 ∨ W.2.1 0 = 3 → W.2.2.1 ≠ [])
theorem Je.n {K : qT} {W : wT} (h : W.2.1 0 ≠ 2 ∧ W.2.1 0 ≠ 3 ∧ W.2.1 0 ≠ 4) : Je K W := ⟨fun q => absurd q h.1, fun q => absurd q h.2.1, fun q => absurd q h.2.2, fun q => by rcases q with q | q; (exact absurd q h.1); (exact absurd q h.2.1)⟩
theorem Je.st {K : qT} {W : wT} (h : Iv K W) (h0 : W.2.1 0 = 1) (j : Jp W) : Je K (stp K W) := by
  have N : W.2.1 0 ≠ 2 ∧ W.2.1 0 ≠ 3 ∧ W.2.1 0 ≠ 4 := by omega
  have S6 : ∀ c : Nat → Int, c 0 = 6 ∨ c 0 = 5 → Je K (wC W c) := fun c hc => Je.n (show c 0 ≠ 2 ∧ c 0 ≠ 3 ∧ c 0 ≠ 4 by omega)
  have S1 : ∀ c : Nat → Int, c 0 = 1 → Je K (wC W c) := fun c hc => Je.n (show c 0 ≠ 2 ∧ c 0 ≠ 3 ∧ c 0 ≠ 4 by omega)
  have a := h.1
  rcases h.2.2.2.1 with n | n | n | n | n | n
  · rw [stp_0 n]
    rcases h.2.2.1 with f | f | f | f | f
    · rw [ch_0 f.1]; exact S1 _ h0
    · by_cases q : cU W.1 (-1) ≠ 0 ∧ rU W.1 (cU W.1 (-1)) ≠ 0
      · rw [ch_1p f.1 q]; exact S1 _ h0
      · by_cases z : W.1.2.1 (-1) 0 < 0
        · rw [ch_1l f.1 q z]; exact S1 _ h0
        · by_cases y : rOf W.1 0 ≠ 0
          · rw [ch_1o f.1 q z y]; exact Je.n N
          · rw [ch_1d f.1 q z y]; exact Je.n N
    · rw [ch_5 f.1]; exact Je.n N
    · by_cases q : cU W.1 0 = 0
      · rw [ch_3j f.1 q]; exact S1 _ h0
      · by_cases z : rU W.1 (cU W.1 0) = 0
        · rw [ch_3u f.1 q z]
          have c := cU_i (d := W.1) (g := 0) a.2.1.1 q
          refine ⟨fun e => absurd (show (4 : Int) = 2 from e) (by decide), fun e => absurd (show (4 : Int) = 3 from e) (by decide), fun _ => ⟨⟨?_, j.2.1 (.inr (.inr f.1))⟩, f.1, c.1.1, c.1.2⟩, fun e => absurd (show (4 : Int) = 2 ∨ (4 : Int) = 3 from e) (by decide)⟩
          have e := a
          rw [hw_0 (.inl f.1)] at e
          exact e
        · rw [ch_3p f.1 q z]; exact S1 _ h0
    · by_cases q : rDn W.1 = 0
      · rw [ch_4j f q]; exact S1 _ h0
      · by_cases z : cDn W.1 (rDn W.1) = 0
        · rw [ch_4l f q z]; exact S1 _ h0
        · rw [ch_4p f q z]; exact S1 _ h0
  · rw [stp_1 n.1]
    by_cases b : bgx (hwS W) W.1 (W.2.1 8) (W.2.1 9)
    · rw [show s_pv W = _ from cif_t b]; exact S6 _ (.inr rfl)
    · rw [show s_pv W = _ from cif_f b]; exact Je.n N
  · rw [stp_2 n.1]
    by_cases q : 0 < W.2.1 6 ∧ ¬ abv K W
    · rw [show s_ju K W = toL W 0 from cif_t q]; exact S1 _ h0
    · by_cases z : bRk K.1 K.2.1 W.1 = 0
      · rw [show s_ju K W = _ from (cif_f q).trans (cif_t z)]; exact Je.n N
      · rw [show s_ju K W = _ from (cif_f q).trans (cif_f z)]; exact S1 _ h0
  · rw [stp_3 n.1]
    by_cases t : 30000 < (leT K.1 W.1 (W.2.1 2) W.2.2.1).length
    · rw [show s_le K W = _ from cif_t t]; exact S6 _ (.inl rfl)
    · rw [show s_le K W = _ from cif_f t]
      by_cases s : W.2.2.2.1.length = 0
      · rw [cif_t s]
        have b6 := h.2.1.2.1
        by_cases q : 0 < W.2.1 6
        · refine ⟨fun _ => ⟨q, h.2.1.2.2.1 q⟩, fun e => ?_, fun e => ?_, fun _ => tkn_nn (by decide)⟩
          · have e : (if 0 < W.2.1 6 then (2 : Int) else 3) = 3 := e
            rw [if_pos q] at e; exact absurd e (by decide)
          · have e : (if 0 < W.2.1 6 then (2 : Int) else 3) = 4 := e
            rw [if_pos q] at e; exact absurd e (by decide)
        · refine ⟨fun e => ?_, fun _ => (show W.2.1 6 = 0 by omega), fun e => ?_, fun _ => tkn_nn (by decide)⟩
          · have e : (if 0 < W.2.1 6 then (2 : Int) else 3) = 2 := e
            rw [if_neg q] at e; exact absurd e (by decide)
          · have e : (if 0 < W.2.1 6 then (2 : Int) else 3) = 4 := e
            rw [if_neg q] at e; exact absurd e (by decide)
      · rw [cif_f s]; exact Je.n N
  · rcases n.1 with e | e
    · rw [stp_4 e]
      by_cases t : 30000 < (cuT K.1 W.1 (W.2.1 2) W.2.2.1).length ∨ 40 ≤ W.1.2.2.2.2.1 ∨ 1000 ≤ W.2.1 5
      · rw [show s_cu K W = _ from cif_t t]; exact S6 _ (.inl rfl)
      · rw [show s_cu K W = _ from cif_f t]; exact Je.n N
    · rw [stp_5 e]
      by_cases t : 30000 < (brT W.1 (W.2.1 2) W.2.2.1).length ∨ 40 ≤ W.1.2.2.2.2.1 ∨ 1000 ≤ W.2.1 5
      · rw [show s_br K W = _ from cif_t t]; exact S6 _ (.inl rfl)
      · rw [show s_br K W = _ from cif_f t]; exact Je.n N
  · rw [stp_6 n.1]
    by_cases t : 1000 ≤ W.2.1 5
    · rw [show s_se K W = _ from cif_t t]; exact S6 _ (.inl rfl)
    · rw [show s_se K W = _ from cif_f t]
      obtain ⟨d, cc, tr, sk', bb⟩ := W
      cases sk' with
      | nil => exact absurd rfl n.2.1
      | cons q t' => exact Je.n N
/-! the bytes of the texts -/
def asc (L : List Int) : Prop := ∀ x, x ∈ L → 0 ≤ x ∧ x ≤ 127
theorem asc.nil : asc [] := fun _ h => absurd h (List.not_mem_nil)
theorem asc.ap {L M : List Int} (h : asc L) (g : asc M) : asc (L ++ M) := fun x hx => (List.mem_append.mp hx).elim (h x) (g x)
theorem asc.cn {a : Int} {M : List Int} (h : 0 ≤ a ∧ a ≤ 127) (g : asc M) : asc (a :: M) := fun x hx => (List.mem_cons.mp hx).elim (fun e => by rw [e]; exact h) (g x)
theorem asc.tk {L t : List Int} (h : asc L) (g : asc t) : asc (tkn L t) := by
  unfold tkn
  refine h.ap ?_
  split
  · exact g
  · exact asc.cn (by decide) g
theorem asc_dgf : ∀ f v : Nat, asc (dgf f v)
  | 0, _ => asc.nil
  | f + 1, v => by
    show asc (if v = 0 then [] else dgf f (v / 10) ++ [48 + ((v % 10 : Nat) : Int)])
    by_cases e : v = 0
    · rw [if_pos e]; exact asc.nil
    · rw [if_neg e]; exact (asc_dgf f (v / 10)).ap (asc.cn (by omega) asc.nil)
theorem asc_nm (x : Int) : asc (nmT x) := by
  unfold nmT
  split
  · exact asc.cn (by decide) asc.nil
  · split
    · exact asc.cn (by decide) (asc_dgf _ _)
    · exact asc_dgf _ _
theorem asc_1 {a : Int} (h : 0 ≤ a ∧ a ≤ 127) : asc [a] := asc.cn h asc.nil
theorem asc_w : asc wBo ∧ asc wFa ∧ asc wCu ∧ asc wBr ∧ asc wOp ∧ asc wIf ∧ asc wUn ∧ asc wAt ∧ asc wAl := by
  unfold asc wBo wFa wCu wBr wOp wIf wUn wAt wAl; decide
theorem asc_ps {f : Int → Int} {L : List Int} (h : asc L) : ∀ k : Nat, asc (psT f L k)
  | 0 => h
  | k + 1 => by
    show asc (prT (psT f L k) ((k : Int) + 1) (f ((k : Int) + 1)))
    have i := asc_ps (f := f) h k
    unfold prT
    split
    · exact i
    · exact ((i.tk (asc_nm _)).tk (asc_1 (by decide))).tk (asc_nm _)
theorem asc_pt {f : Int → Int} {L : List Int} (h : asc L) : ∀ k : Nat, asc (ptsT f L k)
  | 0 => h
  | k + 1 => (asc_pt (f := f) h k).tk (asc_nm _)
theorem asc_le {n : Int} {d : dT} {i : Int} {L : List Int} (h : asc L) : asc (leT n d i L) := by
  have w := asc_w
  unfold leT
  refine (asc_ps ((h.tk ?_).tk (asc_nm _)) _).tk (asc_1 (by decide))
  split
  · exact w.1
  · exact w.2.1
theorem asc_cu {n : Int} {d : dT} {i : Int} {L : List Int} (h : asc L) : asc (cuT n d i L) := (asc_ps ((h.tk asc_w.2.2.1).tk (asc_nm _)) _).tk (asc_1 (by decide))
theorem asc_br {d : dT} {i : Int} {L : List Int} (h : asc L) : asc (brT d i L) := ((h.tk asc_w.2.2.2.1).tk (asc_nm _)).tk (asc_nm _)
theorem asc_st {K : qT} {W : wT} (h : Iv K W) (j : asc W.2.2.1) : asc (stp K W).2.2.1 := by
  rcases h.2.2.2.1 with n | n | n | n | n | n
  · rw [stp_0 n]
    rcases h.2.2.1 with f | f | f | f | f
    · rw [ch_0 f.1]; exact j
    · by_cases q : cU W.1 (-1) ≠ 0 ∧ rU W.1 (cU W.1 (-1)) ≠ 0
      · rw [ch_1p f.1 q]; exact j
      · by_cases z : W.1.2.1 (-1) 0 < 0
        · rw [ch_1l f.1 q z]; exact j
        · by_cases y : rOf W.1 0 ≠ 0
          · rw [ch_1o f.1 q z y]; exact j
          · rw [ch_1d f.1 q z y]; exact j
    · rw [ch_5 f.1]; exact j
    · by_cases q : cU W.1 0 = 0
      · rw [ch_3j f.1 q]; exact j
      · by_cases z : rU W.1 (cU W.1 0) = 0
        · rw [ch_3u f.1 q z]; exact j
        · rw [ch_3p f.1 q z]; exact j
    · by_cases q : rDn W.1 = 0
      · rw [ch_4j f q]; exact j
      · by_cases z : cDn W.1 (rDn W.1) = 0
        · rw [ch_4l f q z]; exact j
        · rw [ch_4p f q z]; exact j
  · rw [stp_1 n.1]
    by_cases b : bgx (hwS W) W.1 (W.2.1 8) (W.2.1 9)
    · rw [show s_pv W = _ from cif_t b]; exact j
    · rw [show s_pv W = _ from cif_f b]; exact j
  · rw [stp_2 n.1]
    by_cases q : 0 < W.2.1 6 ∧ ¬ abv K W
    · rw [show s_ju K W = toL W 0 from cif_t q]; exact j
    · by_cases z : bRk K.1 K.2.1 W.1 = 0
      · rw [show s_ju K W = _ from (cif_f q).trans (cif_t z)]; exact j
      · rw [show s_ju K W = _ from (cif_f q).trans (cif_f z)]; exact j
  · rw [stp_3 n.1]
    by_cases t : 30000 < (leT K.1 W.1 (W.2.1 2) W.2.2.1).length
    · rw [show s_le K W = _ from cif_t t]; exact j
    · rw [show s_le K W = _ from cif_f t]; exact asc_le j
  · rcases n.1 with e | e
    · rw [stp_4 e]
      by_cases t : 30000 < (cuT K.1 W.1 (W.2.1 2) W.2.2.1).length ∨ 40 ≤ W.1.2.2.2.2.1 ∨ 1000 ≤ W.2.1 5
      · rw [show s_cu K W = _ from cif_t t]; exact j
      · rw [show s_cu K W = _ from cif_f t]; exact asc_cu j
    · rw [stp_5 e]
      by_cases t : 30000 < (brT W.1 (W.2.1 2) W.2.2.1).length ∨ 40 ≤ W.1.2.2.2.2.1 ∨ 1000 ≤ W.2.1 5
      · rw [show s_br K W = _ from cif_t t]; exact j
      · rw [show s_br K W = _ from cif_f t]; exact asc_br j
  · rw [stp_6 n.1]
    by_cases t : 1000 ≤ W.2.1 5
    · rw [show s_se K W = _ from cif_t t]; exact j
    · rw [show s_se K W = _ from cif_f t]
      obtain ⟨d, cc, tr, sk', bb⟩ := W
      cases sk' with
      | nil => exact absurd rfl n.2.1
      | cons q t' => exact j
theorem asc.gd {L : List Int} (h : asc L) (k : Nat) : 0 ≤ L.getD k 0 ∧ L.getD k 0 ≤ 127 := by
  rw [List.getD_eq_getElem?_getD]
  cases e : L[k]? with
  | none => show 0 ≤ (0 : Int) ∧ (0 : Int) ≤ 127; decide
  | some x => exact h x (List.mem_of_getElem? e)
/-- all of it -/
def JA (K : qT) (W : wT) : Prop := Jp W ∧ Jt W ∧ Jb W ∧ Je K W ∧ asc W.2.2.1
theorem JA.st {K : qT} {W : wT} (h : Iv K W) (h0 : W.2.1 0 = 1) (j : JA K W) : JA K (stp K W) := ⟨Jp.st h j.1, Jt.st h h0 j.2.1, Jb.st h j.2.2.1, Je.st h h0 j.1, asc_st h j.2.2.2.2⟩
theorem JA.it {K : qT} {W : wT} (hK : 0 ≤ K.1) (hI : W.2.1 0 = 1 → Iv K W ∧ Iw W) (j : JA K W) : ∀ k, (∀ q, q < k → (itW K W q).2.1 0 = 1) → JA K (itW K W k) ∧ ((itW K W k).2.1 0 = 1 → Iv K (itW K W k) ∧ Iw (itW K W k))
  | 0, _ => ⟨j, hI⟩
  | k + 1, h => by
    have ih := JA.it hK hI j k (fun q hq => h q (by omega))
    have s := h k (by omega)
    have iv := ih.2 s
    exact ⟨JA.st iv.1 s ih.1, fun v0 => by have z := iv.1.st iv.2 hK v0; exact ⟨z.1, z.2.1⟩⟩
theorem JA.wk {K : qT} {W U : wT} {b : Int} (hK : 0 ≤ K.1) (hI : W.2.1 0 = 1 → Iv K W ∧ Iw W) (j : JA K W) (h : wkW K W b U) : JA K U := by
  obtain ⟨k, e, f⟩ := h
  rw [e]
  refine (JA.it hK hI j k (fun q hq => ?_)).1
  by_cases z : (itW K W q).2.1 0 = 1
  · exact z
  · exact absurd (.inl z) (f q hq)
theorem W0_ja {n mm al : Int} {A : Int → Int → Int} {wh : Int → Int} {hw : Int} (h : hwA mm A hw) (hn : 0 ≤ n) (hA : ∀ i j, -100000 ≤ A i j ∧ A i j ≤ 100000) : JA (KKm n A wh al) (W0m n mm A hw) := ⟨W0_jp h hn, ⟨fun _ _ => rfl, fun q => absurd (show (1 : Int) = 4 from q) (by decide)⟩, W0_jb hA, Je.n (show (1 : Int) ≠ 2 ∧ (1 : Int) ≠ 3 ∧ (1 : Int) ≠ 4 by decide), asc.nil⟩
/-! how long texts are -/
theorem dgf_len : ∀ f k v : Nat, v < 10 ^ k → (dgf f v).length ≤ k
  | 0, k, v, _ => Nat.zero_le _
  | f + 1, k, v, h => by
    show (if v = 0 then [] else dgf f (v / 10) ++ [48 + ((v % 10 : Nat) : Int)]).length ≤ k
    by_cases e : v = 0
    · rw [if_pos e]; exact Nat.zero_le _
    · rw [if_neg e, List.length_append]
      cases k with
      | zero => rw [Nat.pow_zero] at h; omega
      | succ k =>
        rw [Nat.pow_succ] at h
        have ih := dgf_len f k (v / 10) (by omega)
        show (dgf f (v / 10)).length + 1 ≤ k + 1
        omega
theorem pw6_e : pw 6 = ((10 ^ 54 : Nat) : Int) := by decide +kernel
theorem dgz_len {v : Nat} (h : (v : Int) < pw 6) : (dgz v).length ≤ 54 := dgf_len v 54 v (by rw [pw6_e] at h; omega)
theorem nmT_len {x : Int} (h : sml x) : (nmT x).length ≤ 55 := by
  unfold sml at h
  unfold nmT
  by_cases e : x = 0
  · rw [if_pos e]; decide
  · rw [if_neg e]
    by_cases q : x < 0
    · rw [if_pos q]
      have := dgz_len (v := (-x).toNat) (by omega)
      show (dgz (-x).toNat).length + 1 ≤ 55
      omega
    · rw [if_neg q]
      have := dgz_len (v := x.toNat) (by omega)
      omega
theorem tkn_len {L t : List Int} : (tkn L t).length ≤ L.length + 1 + t.length := by
  unfold tkn
  rw [List.length_append]
  split
  · omega
  · rw [List.length_cons]; omega
theorem ptsT_len {f : Int → Int} {L : List Int} (h : ∀ v, sml (f v)) : ∀ k : Nat, (ptsT f L k).length ≤ L.length + 56 * k
  | 0 => by show L.length ≤ _; omega
  | k + 1 => by
    have a := ptsT_len (f := f) (L := L) h k
    have b := tkn_len (L := ptsT f L k) (t := nmT (f ((k : Int) + 1)))
    have c := nmT_len (h ((k : Int) + 1))
    show (tkn (ptsT f L k) (nmT (f ((k : Int) + 1)))).length ≤ _
    omega
theorem ptS_len {n : Int} {pt : Int → Int} {D : Int} {L : List Int} (hn : n ≤ 12) (hD : 0 < D) (sD : sml D) (h : ∀ v, sml (pt v)) : (ptS n pt D L).length ≤ L.length + 730 := by
  have g := gcP_p (pt := pt) hD n.toNat
  have a := ptsT_len (f := fun j => pt j / gcP pt D n.toNat) (L := L) (fun v => sml_d (h v) g) n.toNat
  have b := tkn_len (L := ptsT (fun j => pt j / gcP pt D n.toNat) L n.toNat) (t := [47])
  have c := tkn_len (L := tkn (ptsT (fun j => pt j / gcP pt D n.toNat) L n.toNat) [47]) (t := nmT (D / gcP pt D n.toNat))
  have e := nmT_len (sml_d sD g)
  have k : ([47] : List Int).length = 1 := rfl
  show (tkn (tkn (ptsT (fun j => pt j / gcP pt D n.toNat) L n.toNat) [47]) (nmT (D / gcP pt D n.toNat))).length ≤ _
  omega
theorem vaT_len {mx bv bd : Int} {L : List Int} (hD : 0 < bd) (sD : sml bd) (h : sml bv) : (vaT mx bv bd L).length ≤ L.length + 114 := by
  have g : 0 < gc (absI bv) bd := by rw [gc_cm]; exact gc_p hD
  have a := tkn_len (L := L) (t := nmT ((if mx = 1 then bv else -bv) / gc (absI bv) bd))
  have b := tkn_len (L := tkn L (nmT ((if mx = 1 then bv else -bv) / gc (absI bv) bd))) (t := [47])
  have c := tkn_len (L := tkn (tkn L (nmT ((if mx = 1 then bv else -bv) / gc (absI bv) bd))) [47]) (t := nmT (bd / gc (absI bv) bd))
  have s : sml (if mx = 1 then bv else -bv) := by split; (exact h); (exact sml_n h)
  have d := nmT_len (sml_d s g)
  have e := nmT_len (sml_d sD g)
  have k : ([47] : List Int).length = 1 := rfl
  unfold vaT
  omega
theorem rayV_s {d : dT} {s : Int} (h : sb 0 d) (hm : 0 ≤ d.2.2.2.2.1) (hs : 1 ≤ s ∧ s ≤ d.2.2.2.2.2) (v : Int) : sml (rayV d s v) := by
  unfold rayV
  by_cases q : rOf d v ≠ 0
  · rw [cif_t q]
    have r := rOf_i q hm
    exact sml_n (h.1 _ s (by omega) r.1.2 (fun z => by omega) (by omega) hs.2)
  · rw [cif_f q]
    by_cases z : d.2.2.2.1 s = v
    · rw [cif_t z]; exact h.2
    · rw [cif_f z]; exact sml_0
/-- a head is short -/
theorem hdT_len {K : qT} {n mx : Int} {W : wT} (hn : n ≤ 12) (j : JA K W) (h : W.2.1 0 = 2 ∨ W.2.1 0 = 3 ∨ W.2.1 0 = 4) : (hdT n mx W).length ≤ 1500 := by
  obtain ⟨_, _, jb, je, _⟩ := j
  unfold hdT
  by_cases q2 : W.2.1 0 = 2
  · rw [if_pos q2]
    have b := je.1 q2
    have s := jb.2.2 b.1
    unfold hdO atT
    have a1 := ptS_len (n := n) (L := tkn (vaT mx W.2.2.2.2.1 W.2.2.2.2.2.1 (tkn [] wOp)) wAt) hn b.2 s.2.1 s.2.2
    have a2 := tkn_len (L := vaT mx W.2.2.2.2.1 W.2.2.2.2.2.1 (tkn [] wOp)) (t := wAt)
    have a3 := vaT_len (mx := mx) (L := tkn [] wOp) b.2 s.2.1 s.1
    have a4 : (tkn [] wOp).length = 7 := rfl
    have a5 : wAt.length = 2 := rfl
    omega
  · rw [if_neg q2]
    by_cases q3 : W.2.1 0 = 3
    · rw [if_pos q3]; decide
    · rw [if_neg q3]
      have b := je.2.2.1 (by omega)
      have s := jb.1.to (hv := 0) (fun q => absurd q (by decide))
      have ok := b.1.1
      unfold hdU atT
      have a1 := ptS_len (n := n) (pt := ptB W.1) (L := tkn (tkn [] wUn) wAt) hn ok.2.2.1 s.2 (s.pt ok.1.1 ok.2.1.1)
      have a2 : (tkn (tkn [] wUn) wAt).length = 12 := rfl
      have a3 := tkn_len (L := ptS n (ptB W.1) W.1.1 (tkn (tkn [] wUn) wAt)) (t := wAl)
      have a4 : wAl.length = 5 := rfl
      have a5 := ptsT_len (f := rayV W.1 (W.2.1 9)) (L := tkn (ptS n (ptB W.1) W.1.1 (tkn (tkn [] wUn) wAt)) wAl) (rayV_s s ok.1.1 b.2.2) n.toNat
      have a6 := tkn_len (L := ptsT (rayV W.1 (W.2.1 9)) (tkn (ptS n (ptB W.1) W.1.1 (tkn (tkn [] wUn) wAt)) wAl) n.toNat) (t := [47])
      have a7 := tkn_len (L := tkn (ptsT (rayV W.1 (W.2.1 9)) (tkn (ptS n (ptB W.1) W.1.1 (tkn (tkn [] wUn) wAt)) wAl) n.toNat) [47]) (t := [49])
      have k : ([47] : List Int).length = 1 := rfl
      have k2 : ([49] : List Int).length = 1 := rfl
      omega
/-- a proof's byte -/
noncomputable def pfB (n mx : Int) (W : wT) (k : Int) : Int := cif ((2 ≤ W.2.1 0 ∧ W.2.1 0 ≤ 4) ∧ ¬ 30000 < (pfT n mx W).length ∧ 0 ≤ k ∧ k < ((pfT n mx W).length : Int)) ((pfT n mx W).getD k.toNat 0) (-1)
theorem asc_at {n : Int} {pt : Int → Int} {D : Int} {L : List Int} (h : asc L) : asc (atT n pt D L) := by
  unfold atT ptS
  exact ((asc_pt (h.tk asc_w.2.2.2.2.2.2.2.1) _).tk (asc_1 (by decide))).tk (asc_nm _)
theorem asc_hd {n mx : Int} {W : wT} : asc (hdT n mx W) := by
  have w := asc_w
  unfold hdT
  split
  · unfold hdO vaT
    exact asc_at ((((asc.nil.tk w.2.2.2.2.1).tk (asc_nm _)).tk (asc_1 (by decide))).tk (asc_nm _))
  · split
    · exact asc.nil.tk w.2.2.2.2.2.1
    · unfold hdU
      exact ((asc_pt ((asc_at (asc.nil.tk w.2.2.2.2.2.2.1)).tk w.2.2.2.2.2.2.2.2) _).tk (asc_1 (by decide))).tk (asc_1 (by decide))
theorem hdT_nn {n mx : Int} {W : wT} : hdT n mx W ≠ [] := by
  unfold hdT
  split
  · unfold hdO atT ptS; exact tkn_nn (nmT_nn _)
  · split
    · exact tkn_nn (by decide)
    · unfold hdU; exact tkn_nn (by decide)
/-- what the class has at the end -/
def CEr (S : sS) (n mx : Int) (W : wT) : Prop := (2 ≤ W.2.1 0 ∧ W.2.1 0 ≤ 4 → (30000 < (pfT n mx W).length → S.1 119 9 = 6) ∧ (¬ 30000 < (pfT n mx W).length → S.1 119 9 = W.2.1 0 ∧ TXc S 158 1500 (hdT n mx W) ∧ TXc S 160 30000 W.2.2.1)) ∧ (¬ (2 ≤ W.2.1 0 ∧ W.2.1 0 ≤ 4) → ¬ (2 ≤ S.1 119 9 ∧ S.1 119 9 ≤ 4))
theorem CEr.of {S u : sS} {n mx : Int} {W : wT} (h : CEr S n mx W) (e9 : u.1 119 9 = S.1 119 9) (e1 : u.1 158 1 = S.1 158 1) (e2 : u.1 158 2 = S.1 158 2) (e3 : u.2.1 159 = S.2.1 159) (e4 : u.1 160 1 = S.1 160 1) (e5 : u.1 160 2 = S.1 160 2) (e6 : u.2.1 161 = S.2.1 161) : CEr u n mx W := by
  unfold CEr
  rw [e9]
  exact ⟨fun q => ⟨(h.1 q).1, fun z => ⟨((h.1 q).2 z).1, TXc.of ((h.1 q).2 z).2.1 e1 e2 e3, TXc.of ((h.1 q).2 z).2.2 e4 e5 e6⟩⟩, h.2⟩
/-- the proof's length -/
theorem pfT_len {K : qT} {n mx : Int} {W : wT} (j : JA K W) (h : 2 ≤ W.2.1 0 ∧ W.2.1 0 ≤ 4) : (pfT n mx W).length = (hdT n mx W).length + (if 0 < W.2.2.1.length then 1 + W.2.2.1.length else 0) := by
  unfold pfT
  by_cases q : W.2.1 0 = 4
  · have e := j.2.1.2 q
    rw [if_pos q, e]; rfl
  · rw [if_neg q]
    have p : 0 < W.2.2.1.length := List.length_pos_iff.mpr (j.2.2.2.1.2.2.2 (by omega))
    rw [if_pos p, List.length_append, List.length_cons]
    omega
theorem pfT_e {K : qT} {n mx : Int} {W : wT} (j : JA K W) (h : 2 ≤ W.2.1 0 ∧ W.2.1 0 ≤ 4) : pfT n mx W = if 0 < W.2.2.1.length then hdT n mx W ++ (32 :: W.2.2.1) else hdT n mx W := by
  unfold pfT
  by_cases q : W.2.1 0 = 4
  · have e := j.2.1.2 q
    rw [if_pos q, e]; rfl
  · rw [if_neg q]
    have p : 0 < W.2.2.1.length := List.length_pos_iff.mpr (j.2.2.2.1.2.2.2 (by omega))
    rw [if_pos p]
