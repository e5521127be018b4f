/-! The proofs' texts; the greatest common divisor -/
def gc (a b : Int) : Int := (Nat.gcd a.toNat b.toNat : Int)
theorem gc_st {H L : Int} (hH : 0 ≤ H) (hL : 0 < L) : gc H L = gc L (H % L) := by
  unfold gc
  have e : (H % L).toNat = H.toNat % L.toNat := by
    obtain ⟨a, rfl⟩ : ∃ a : Nat, H = (a : Int) := ⟨H.toNat, by omega⟩
    obtain ⟨b, rfl⟩ : ∃ b : Nat, L = (b : Int) := ⟨L.toNat, by omega⟩
    rw [← Int.natCast_emod]; rfl
  rw [e, Nat.gcd_comm H.toNat L.toNat, Nat.gcd_rec L.toNat H.toNat, Nat.gcd_comm]
theorem gc_0 {H : Int} (hH : 0 ≤ H) : gc H 0 = H := by
  unfold gc
  rw [show ((0 : Int)).toNat = 0 from rfl, Nat.gcd_zero_right]; omega
theorem gc_p {a b : Int} (ha : 0 < a) : 0 < gc a b := by
  unfold gc
  have := Nat.gcd_pos_of_pos_left b.toNat (show 0 < a.toNat by omega)
  omega
theorem gc_d {a b : Int} (ha : 0 ≤ a) : gc a b ∣ a := by
  unfold gc
  have h := Nat.gcd_dvd_left a.toNat b.toNat
  have e : a = (a.toNat : Int) := by omega
  rw [e]
  exact Int.natCast_dvd_natCast.mpr h
theorem gc_e {a b : Int} (hb : 0 ≤ b) : gc a b ∣ b := by
  unfold gc
  have h := Nat.gcd_dvd_right a.toNat b.toNat
  have e : b = (b.toNat : Int) := by omega
  rw [e]
  exact Int.natCast_dvd_natCast.mpr h
def pw2 : Nat → Int
  | 0 => 1
  | k + 1 => 2 * pw2 k
theorem pw2_p : ∀ k, 0 < pw2 k
  | 0 => by decide
  | k + 1 => by have := pw2_p k; show 0 < 2 * pw2 k; omega
set_option maxRecDepth 100000 in
theorem pw2_999 : pw 24 < pw2 999 := by decide +kernel
/-- Euclid's way, and that a thousand steps are enough -/
def eIv (i H L g : Int) : Prop := 0 ≤ H ∧ 0 ≤ L ∧ gc H L = g ∧ (1 ≤ i → L < H ∧ pw2 (i - 1).toNat * (H * L) ≤ pw 24) ∧ H < pw 12 ∧ L < pw 12
theorem eIv.i0 {H L : Int} (h0 : 0 ≤ H ∧ 0 ≤ L) (h1 : H < pw 12 ∧ L < pw 12) : eIv 0 H L (gc H L) := ⟨h0.1, h0.2, rfl, fun q => absurd q (by decide), h1.1, h1.2⟩
theorem eIv.st {i H L g : Int} (h : eIv i H L g) (hi : 0 ≤ i) (hL : L ≠ 0) : eIv (i + 1) L (H % L) g := by
  obtain ⟨a, b, c, d, e, f⟩ := h
  have L0 : 0 < L := by omega
  have m0 := Int.emod_nonneg H (show L ≠ 0 from hL)
  have m1 := Int.emod_lt_of_pos H L0
  refine ⟨b, m0, by rw [← c]; exact (gc_st a L0).symm, fun _ => ⟨m1, ?_⟩, f, by omega⟩
  rw [show i + 1 - 1 = i by omega]
  rcases (by omega : i = 0 ∨ 1 ≤ i) with q | q
  · rw [q]
    show 1 * (L * (H % L)) ≤ pw 24
    have x1 : L * (H % L) ≤ pw 12 * (H % L) := Int.mul_le_mul_of_nonneg_right (by omega) m0
    have x2 : pw 12 * (H % L) ≤ pw 12 * pw 12 := Int.mul_le_mul_of_nonneg_left (by omega) (Int.le_of_lt (pw_pos 12))
    have x3 : pw 12 * pw 12 = pw 24 := by decide
    omega
  · obtain ⟨d1, d2⟩ := d q
    have half : 2 * (H % L) ≤ H := by
      have e1 := Int.mul_ediv_add_emod H L
      have q1 : 1 ≤ H / L := Int.le_ediv_of_mul_le L0 (by omega)
      have q2 : L * 1 ≤ L * (H / L) := Int.mul_le_mul_of_nonneg_left q1 b
      omega
    obtain ⟨k, hk⟩ : ∃ k : Nat, i = (k : Int) + 1 := ⟨(i - 1).toNat, by omega⟩
    rw [hk, show ((k : Int) + 1).toNat = k + 1 by omega]
    rw [hk, show ((k : Int) + 1 - 1).toNat = k by omega] at d2
    show 2 * pw2 k * (L * (H % L)) ≤ pw 24
    have y : L * (2 * (H % L)) ≤ L * H := Int.mul_le_mul_of_nonneg_left half b
    have z : pw2 k * (L * (2 * (H % L))) ≤ pw2 k * (L * H) := Int.mul_le_mul_of_nonneg_left y (Int.le_of_lt (pw2_p k))
    have e1 : 2 * pw2 k * (L * (H % L)) = pw2 k * (L * (2 * (H % L))) := by grind
    have e2 : L * H = H * L := Int.mul_comm _ _
    rw [e2] at z
    omega
theorem eIv.fin {i H L g : Int} (h : eIv i H L g) (hi : 1000 ≤ i ∨ L = 0) : H = g := by
  obtain ⟨a, b, c, d, e, f⟩ := h
  have l0 : L = 0 := by
    rcases hi with q | q
    · obtain ⟨d1, d2⟩ := d (by omega)
      rcases (by omega : L = 0 ∨ 1 ≤ L) with z | z
      · exact z
      · exfalso
        have p : 1 * 1 ≤ H * L := Int.mul_le_mul (by omega) z (by decide) a
        have mono : ∀ {x y : Nat}, x ≤ y → pw2 x ≤ pw2 y := fun {x y} hxy => by
          induction hxy with
          | refl => exact Int.le_refl _
          | step _ ih => rename_i m _; have := pw2_p m; show _ ≤ 2 * pw2 m; omega
        have m := mono (x := 999) (y := (i - 1).toNat) (by omega)
        have n := pw2_999
        have w : pw2 (i - 1).toNat * 1 ≤ pw2 (i - 1).toNat * (H * L) := Int.mul_le_mul_of_nonneg_left (by omega) (Int.le_of_lt (pw2_p _))
        omega
    · exact q
  rw [l0, gc_0 a] at c
  exact c
theorem gc_cm {a b : Int} : gc a b = gc b a := by unfold gc; rw [Nat.gcd_comm]
def absI (x : Int) : Int := if x < 0 then -x else x
theorem absI_p {x : Int} (h : 0 ≤ x) : absI x = x := if_neg (by omega)
theorem absI_0 (x : Int) : 0 ≤ absI x := by unfold absI; split <;> omega
theorem absI_d {g x : Int} (h : g ∣ absI x) : g ∣ x := by
  unfold absI at h
  split at h
  · exact (Int.dvd_neg).mp h
  · exact h
/-- what divides the point and what it is over -/
def gcP (pt : Int → Int) (D : Int) : Nat → Int
  | 0 => D
  | k + 1 => gc (gcP pt D k) (absI (pt ((k : Int) + 1)))
theorem gcP_p {pt : Int → Int} {D : Int} (hD : 0 < D) : ∀ k, 0 < gcP pt D k
  | 0 => hD
  | k + 1 => gc_p (gcP_p hD k)
theorem gcP_s {pt : Int → Int} {D j : Int} (hj : 1 ≤ j) : gcP pt D (j + 1 - 1).toNat = gc (gcP pt D (j - 1).toNat) (absI (pt j)) := by
  obtain ⟨k, rfl⟩ : ∃ k : Nat, j = (k : Int) + 1 := ⟨(j - 1).toNat, by omega⟩
  rw [show ((k : Int) + 1 + 1 - 1).toNat = k + 1 by omega, show ((k : Int) + 1 - 1).toNat = k by omega]; rfl
def ptsT (f : Int → Int) (L : List Int) : Nat → List Int
  | 0 => L
  | k + 1 => tkn (ptsT f L k) (nmT (f ((k : Int) + 1)))
theorem ptsT_s {f : Int → Int} {L : List Int} {j : Int} (hj : 1 ≤ j) : ptsT f L (j + 1 - 1).toNat = tkn (ptsT f L (j - 1).toNat) (nmT (f j)) := by
  obtain ⟨k, rfl⟩ : ∃ k : Nat, j = (k : Int) + 1 := ⟨(j - 1).toNat, by omega⟩
  rw [show ((k : Int) + 1 + 1 - 1).toNat = k + 1 by omega, show ((k : Int) + 1 - 1).toNat = k by omega]; rfl
theorem ptsT_cg {f g : Int → Int} {L : List Int} : ∀ k : Nat, (∀ i : Int, 1 ≤ i → i ≤ (k : Int) → f i = g i) → ptsT f L k = ptsT g L k
  | 0, _ => rfl
  | k + 1, h => by
    show tkn (ptsT f L k) (nmT (f ((k : Int) + 1))) = tkn (ptsT g L k) (nmT (g ((k : Int) + 1)))
    rw [ptsT_cg k (fun i a b => h i a (by omega)), h _ (by omega) (by omega)]
theorem gcP_cg {f g : Int → Int} {D : Int} : ∀ k : Nat, (∀ i : Int, 1 ≤ i → i ≤ (k : Int) → f i = g i) → gcP f D k = gcP g D k
  | 0, _ => rfl
  | k + 1, h => by
    show gc (gcP f D k) (absI (f ((k : Int) + 1))) = gc (gcP g D k) (absI (g ((k : Int) + 1)))
    rw [gcP_cg k (fun i a b => h i a (by omega)), h _ (by omega) (by omega)]
theorem ptsT_nn {f : Int → Int} {L : List Int} (h : L ≠ []) : ∀ k : Nat, ptsT f L k ≠ []
  | 0 => h
  | k + 1 => tkn_nn (nmT_nn _)
def wOp : List Int := [111, 112, 116, 105, 109, 97, 108]
def wIf : List Int := [105, 110, 102, 101, 97, 115, 105, 98, 108, 101]
def wUn : List Int := [117, 110, 98, 111, 117, 110, 100, 101, 100]
def wAt : List Int := [97, 116]
def wAl : List Int := [97, 108, 111, 110, 103]
/-- at a point -/
def ptS (n : Int) (pt : Int → Int) (D : Int) (L : List Int) : List Int := tkn (tkn (ptsT (fun j => pt j / gcP pt D n.toNat) L n.toNat) [47]) (nmT (D / gcP pt D n.toNat))
def atT (n : Int) (pt : Int → Int) (D : Int) (L : List Int) : List Int := ptS n pt D (tkn L wAt)
theorem ptS_cg {n : Int} {f g : Int → Int} {D : Int} {L : List Int} (h : ∀ i : Int, 1 ≤ i → i ≤ n → f i = g i) : ptS n f D L = ptS n g D L := by
  unfold ptS
  have e : gcP f D n.toNat = gcP g D n.toNat := gcP_cg _ (fun i a b => h i a (by omega))
  rw [e, ptsT_cg (f := fun j => f j / gcP g D n.toNat) (g := fun j => g j / gcP g D n.toNat) n.toNat (fun i a b => by show f i / _ = g i / _; rw [h i a (by omega)])]
/-- the VALUE -/
def vaT (mx bv bd : Int) (L : List Int) : List Int := tkn (tkn (tkn L (nmT ((if mx = 1 then bv else -bv) / gc (absI bv) bd))) [47]) (nmT (bd / gc (absI bv) bd))
noncomputable def rayV (d : dT) (s v : Int) : Int := cif (rOf d v ≠ 0) (-(d.2.1 (rOf d v) s)) (cif (d.2.2.2.1 s = v) d.1 0)
noncomputable def hdU (n : Int) (d : dT) (s : Int) : List Int := tkn (tkn (ptsT (rayV d s) (tkn (atT n (ptB d) d.1 (tkn [] wUn)) wAl) n.toNat) [47]) [49]
def hdO (n mx bv bd : Int) (pt : Int → Int) : List Int := atT n pt bd (vaT mx bv bd (tkn [] wOp))
noncomputable def hdT (n mx : Int) (W : wT) : List Int := if W.2.1 0 = 2 then hdO n mx W.2.2.2.2.1 W.2.2.2.2.2.1 W.2.2.2.2.2.2 else if W.2.1 0 = 3 then tkn [] wIf else hdU n W.1 (W.2.1 9)
/-- the whole proof -/
noncomputable def pfT (n mx : Int) (W : wT) : List Int := if W.2.1 0 = 4 then hdT n mx W else hdT n mx W ++ (32 :: W.2.2.1)
/-- no TREES ahead of the first child -/
def Jt (W : wT) : Prop := (W.2.1 0 = 1 → W.2.1 3 ≠ 4 → W.2.2.1 = []) ∧ (W.2.1 0 = 4 → W.2.2.1 = [])
section SQ
variable {K : qT} {W : wT}
theorem Jt.k {U : wT} (j : Jt W) (h0 : W.2.1 0 = 1) (e : U.2.2.1 = W.2.2.1) (e3 : U.2.1 3 ≠ 4 → W.2.1 3 ≠ 4) (e4 : U.2.1 0 = 4 → W.2.1 3 ≠ 4) : Jt U := ⟨fun _ q => by rw [e]; exact j.1 h0 (e3 q), fun q => by rw [e]; exact j.1 h0 (e4 q)⟩
theorem Jt.f {U : wT} (h : U.2.1 0 ≠ 4) (h3 : U.2.1 0 = 1 → U.2.1 3 = 4) : Jt U := ⟨fun a b => absurd (h3 a) b, fun q => absurd q h⟩
theorem Jt.st (h : Iv K W) (h0 : W.2.1 0 = 1) (j : Jt W) : Jt (stp K W) := by
  have no4 : W.2.1 0 = 4 → W.2.1 3 ≠ 4 := fun q => by omega
  rcases h.2.2.2.1 with n | n | n | n | n | n
  · rw [stp_0 n]
    rcases h.2.2.1 with f | f | f | f | f
    · rw [ch_0 f.1]; exact j.k h0 rfl (fun q => q) no4
    · by_cases q : cU W.1 (-1) ≠ 0 ∧ rU W.1 (cU W.1 (-1)) ≠ 0
      · rw [ch_1p f.1 q]; exact j.k h0 rfl (fun q => q) no4
      · by_cases z : W.1.2.1 (-1) 0 < 0
        · rw [ch_1l f.1 q z]; exact j.k h0 rfl (fun q => q) no4
        · by_cases y : rOf W.1 0 ≠ 0
          · rw [ch_1o f.1 q z y]; exact j.k h0 rfl (fun _ => by have := f.1; omega) no4
          · rw [ch_1d f.1 q z y]; exact j.k h0 rfl (fun _ => by have := f.1; omega) no4
    · rw [ch_5 f.1]; exact j.k h0 rfl (fun _ => by have := f.1; omega) no4
    · by_cases q : cU W.1 0 = 0
      · rw [ch_3j f.1 q]; exact j.k h0 rfl (fun q => q) no4
      · by_cases z : rU W.1 (cU W.1 0) = 0
        · rw [ch_3u f.1 q z]; exact j.k h0 rfl (fun q => q) (fun _ => by have := f.1; omega)
        · rw [ch_3p f.1 q z]; exact j.k h0 rfl (fun q => q) no4
    · by_cases q : rDn W.1 = 0
      · rw [ch_4j f q]; exact j.k h0 rfl (fun q => q) no4
      · by_cases z : cDn W.1 (rDn W.1) = 0
        · rw [ch_4l f q z]; exact j.k h0 rfl (fun q => q) no4
        · rw [ch_4p f q z]; exact j.k h0 rfl (fun q => q) no4
  · rw [stp_1 n.1]
    by_cases b : bgx (hwS W) W.1 (W.2.1 8) (W.2.1 9)
    · rw [show s_pv W = _ from cif_t b]
      exact j.k h0 rfl (fun q => q) (fun q => absurd (show (5 : Int) = 4 from q) (by decide))
    · rw [show s_pv W = _ from cif_f b]
      refine j.k h0 rfl (fun q => ?_) no4
      have q : (if W.2.1 3 = 0 then 1 else W.2.1 3) ≠ 4 := q
      by_cases z : W.2.1 3 = 0
      · omega
      · rw [if_neg z] at q; exact q
  · rw [stp_2 n.1]
    by_cases q : 0 < W.2.1 6 ∧ ¬ abv K W
    · rw [show s_ju K W = toL W 0 from cif_t q]; exact j.k h0 rfl (fun q => q) no4
    · by_cases z : bRk K.1 K.2.1 W.1 = 0
      · rw [show s_ju K W = _ from (cif_f q).trans (cif_t z)]; exact j.k h0 rfl (fun q => q) no4
      · rw [show s_ju K W = _ from (cif_f q).trans (cif_f z)]; exact j.k h0 rfl (fun q => q) no4
  · rw [stp_3 n.1]
    by_cases t : 30000 < (leT K.1 W.1 (W.2.1 2) W.2.2.1).length
    · rw [show s_le K W = _ from cif_t t]
      exact Jt.f (fun q => absurd (show (6 : Int) = 4 from q) (by decide)) (fun q => absurd (show (6 : Int) = 1 from q) (by decide))
    · rw [show s_le K W = _ from cif_f t]
      by_cases s : W.2.2.2.1.length = 0
      · rw [cif_t s]
        have e : (if 0 < W.2.1 6 then (2 : Int) else 3) ≠ 4 ∧ (if 0 < W.2.1 6 then (2 : Int) else 3) ≠ 1 := by split <;> decide
        exact Jt.f e.1 (fun q => absurd q e.2)
      · rw [cif_f s]
        have p4 := h.2.2.1.sk (fun e => s (by rw [e]; rfl))
        exact Jt.f (show W.2.1 0 ≠ 4 by omega) (fun _ => p4)
  · rcases n.1 with e | e
    · rw [stp_4 e]
      by_cases t : 30000 < (cuT K.1 W.1 (W.2.1 2) W.2.2.1).length ∨ 40 ≤ W.1.2.2.2.2.1 ∨ 1000 ≤ W.2.1 5
      · rw [show s_cu K W = _ from cif_t t]
        exact Jt.f (fun q => absurd (show (6 : Int) = 4 from q) (by decide)) (fun q => absurd (show (6 : Int) = 1 from q) (by decide))
      · rw [show s_cu K W = _ from cif_f t]
        exact Jt.f (show W.2.1 0 ≠ 4 by omega) (fun _ => rfl)
    · rw [stp_5 e]
      by_cases t : 30000 < (brT W.1 (W.2.1 2) W.2.2.1).length ∨ 40 ≤ W.1.2.2.2.2.1 ∨ 1000 ≤ W.2.1 5
      · rw [show s_br K W = _ from cif_t t]
        exact Jt.f (fun q => absurd (show (6 : Int) = 4 from q) (by decide)) (fun q => absurd (show (6 : Int) = 1 from q) (by decide))
      · rw [show s_br K W = _ from cif_f t]
        exact Jt.f (show W.2.1 0 ≠ 4 by omega) (fun _ => rfl)
  · rw [stp_6 n.1]
    by_cases t : 1000 ≤ W.2.1 5
    · rw [show s_se K W = _ from cif_t t]
      exact Jt.f (fun q => absurd (show (6 : Int) = 4 from q) (by decide)) (fun q => absurd (show (6 : Int) = 1 from q) (by decide))
    · rw [show s_se K W = _ from cif_f t]
      obtain ⟨d, cc, tr, sk, bb⟩ := W
      cases sk with
      | nil => exact absurd rfl n.2.1
      | cons q t' => exact Jt.f (show cc 0 ≠ 4 by have : cc 0 = 1 := h0; omega) (fun _ => rfl)
end SQ
