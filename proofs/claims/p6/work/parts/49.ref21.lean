def asn (z x : Int) : Int := if z = 0 then x else -x
def pk (z : Int) (f g : Int → Int) : Int → Int := if z = 1 then f else g
theorem pk_1 {z : Int} {f g : Int → Int} (h : z = 1) : pk z f g = f := if_pos h
theorem pk_0 {z : Int} {f g : Int → Int} (h : z = 0) : pk z f g = g := if_neg (by omega)
theorem nu_lf {f : Int → Int} {p k : Int} (hk : al f p ≤ k) : V (lf f p (al f p)) 0 k.toNat = nu f p := V_lfk (al_0 f p) hk
theorem cf_on1 {S : sS} {c : Nat} {r k v : Int} : cf ((uA S c (r + k) v).2.1 c) r (k - 1) = v := by
  show (uA S c (r + k) v).2.1 c (r + (k - 1 + 1)) = v
  rw [show k - 1 + 1 = k by omega]; exact uA_on
theorem cf_ne1 {S : sS} {c : Nat} {r k v j : Int} (h : j ≠ k - 1) : cf ((uA S c (r + k) v).2.1 c) r j = cf (S.2.1 c) r j := uA_ne (fun q => h (by have := q.2; omega))
theorem lf_at {f : Int → Int} {p n k : Int} (h : k ≤ n) : lf f p n (k - 1) = f (p + k) := by
  rw [lf_in (by omega), show k - 1 + 1 = k by omega]
theorem add_sg1 {a b na nb t g : Int} (ha : a = -1 ∨ a = 0 ∨ a = 1) (ht : t = -1 ∨ t = 0 ∨ t = 1) (za : a = 0 → na = 0) (zb : t = 0 → nb = 0) (hc : a = 0 ∨ t = 0 ∨ a = t) (hs : (a = 0 → g = t) ∧ (a ≠ 0 → g = a)) : g * (na + nb) = a * na + t * nb ∧ (g = 1 ∨ g = -1 ∨ (g = 0 ∧ na + nb = 0)) := by
  rcases ha with q | q | q
  · have e := hs.2 (by omega)
    rcases ht with z | z | z
    · subst q; subst z; subst e; exact ⟨by omega, .inr (.inl rfl)⟩
    · have := zb z; subst q; subst z; subst e; subst this; exact ⟨by omega, .inr (.inl rfl)⟩
    · omega
  · have e := hs.1 q
    have := za q
    subst e; subst q; subst this
    rcases ht with z | z | z
    · subst z; exact ⟨by omega, .inr (.inl rfl)⟩
    · have := zb z; subst z; subst this; exact ⟨by omega, .inr (.inr ⟨rfl, by omega⟩)⟩
    · subst z; exact ⟨by omega, .inl rfl⟩
  · have e := hs.2 (by omega)
    rcases ht with z | z | z
    · omega
    · have := zb z; subst q; subst z; subst e; subst this; exact ⟨by omega, .inl rfl⟩
    · subst q; subst z; subst e; exact ⟨by omega, .inl rfl⟩
theorem sg_3 (f : Int → Int) (p : Int) : sg f p = -1 ∨ sg f p = 0 ∨ sg f p = 1 := by unfold sg; split; exact .inl rfl; split; exact .inr (.inr rfl); exact .inr (.inl rfl)
theorem sg_z {f : Int → Int} {p : Int} (h : sg f p = 0) : nu f p = 0 := nu_z (by have := sg_e (f := f) (p := p); omega)
theorem asn_m {lz t g n : Int} (hlz : 0 ≤ lz ∧ lz ≤ 1) (h : (lz = 0 → t = g) ∧ (lz = 1 → t = -g)) : asn lz (g * n) = t * n := by
  unfold asn
  rcases (by omega : lz = 0 ∨ lz = 1) with z | z
  · rw [if_pos z, h.1 z]
  · rw [if_neg (by omega), h.2 z, Int.neg_mul]
theorem add_sg {f g : Int → Int} {p q L M lz sa tt sg1 : Int} (_hA : NO f p L) (_hB : NO g q M) (hlz : 0 ≤ lz ∧ lz ≤ 1) (hsa : sa = sg f p) (htt : (lz = 0 → tt = sg g q) ∧ (lz = 1 → tt = -sg g q)) (hc : sa = 0 ∨ tt = 0 ∨ sa = tt) (hs : (sa = 0 → sg1 = tt) ∧ (sa ≠ 0 → sg1 = sa)) : sg1 * (nu f p + nu g q) = nv f p + asn lz (nv g q) ∧ (sg1 = 1 ∨ sg1 = -1 ∨ (sg1 = 0 ∧ nu f p + nu g q = 0)) := by
  have r2 := sg_3 g q
  unfold nv
  rw [asn_m hlz htt, ← hsa]
  exact add_sg1 (b := 0) (by rw [hsa]; exact sg_3 f p) (by omega) (fun z => sg_z (by omega)) (fun z => sg_z (by omega)) hc hs
theorem sub_sg {f g : Int → Int} {p q L M lz sa tt fi sg2 W : Int} (hA : NO f p L) (hB : NO g q M) (hlz : 0 ≤ lz ∧ lz ≤ 1) (hsa : sa = sg f p) (htt : (lz = 0 → tt = sg g q) ∧ (lz = 1 → tt = -sg g q)) (hc : sa ≠ 0 ∧ tt ≠ 0 ∧ sa ≠ tt) (hfi : 0 ≤ fi ∧ fi ≤ 1) (hs : (fi = 1 → sg2 = sa ∧ W = nu f p - nu g q) ∧ (fi = 0 → sg2 = tt ∧ W = nu g q - nu f p)) : sg2 * W = nv f p + asn lz (nv g q) ∧ (sg2 = 1 ∨ sg2 = -1 ∨ (sg2 = 0 ∧ W = 0)) := by
  have ef := sg_e (f := f) (p := p)
  have eg := sg_e (f := g) (p := q)
  have rf : -1 ≤ sg f p ∧ sg f p ≤ 1 := by omega
  have rg : -1 ≤ sg g q ∧ sg g q ≤ 1 := by omega
  have k2 := sgm (h := nv f p) (s := sg f p) (k := nu f p) rfl rf
  have k3 := sgm (h := nv g q) (s := sg g q) (k := nu g q) rfl rg
  clear ef eg
  have k1 := sgm (h := sg2 * W) (s := sg2) (k := W) rfl (by omega)
  generalize sg2 * W = X at *
  unfold asn
  rcases (by omega : lz = 0 ∨ lz = 1) with z | z
  · rw [if_pos z]
    have e := htt.1 z
    rcases (by omega : fi = 0 ∨ fi = 1) with y | y
    · have h2 := hs.2 y; omega
    · have h2 := hs.1 y; omega
  · rw [if_neg (by omega)]
    have e := htt.2 z
    rcases (by omega : fi = 0 ∨ fi = 1) with y | y
    · have h2 := hs.2 y; omega
    · have h2 := hs.1 y; omega
theorem sub_end {Vc bw P X Y : Int} (h : Vc - bw * P = X - Y) (hb : 0 ≤ bw ∧ bw ≤ 1) (hV : Vc < P) (hXY : Y ≤ X) : Vc = X - Y := by
  rcases (by omega : bw = 0 ∨ bw = 1) with q | q
  · rw [q] at h; omega
  · rw [q] at h; omega
/-- a difference's value -/
theorem sub_V {c : Int → Int} {f g : Int → Int} {p q bg bw fi : Int} (hf : al f p ≤ bg) (hg : al g q ≤ bg) (h0 : 0 ≤ bg) (hfi : 0 ≤ fi ∧ fi ≤ 1) (hb : 0 ≤ bw ∧ bw ≤ 1) (hl : ∀ j, 0 ≤ j → j < bg → 0 ≤ c j ∧ c j ≤ 999999999) (hV : V c 0 bg.toNat - bw * pw bg.toNat = V (pk fi (lf f p (al f p)) (lf g q (al g q))) 0 bg.toNat - V (pk fi (lf g q (al g q)) (lf f p (al f p))) 0 bg.toNat) (hc : (fi = 1 → nu g q ≤ nu f p) ∧ (fi = 0 → nu f p ≤ nu g q)) : (fi = 1 → V c 0 bg.toNat = nu f p - nu g q) ∧ (fi = 0 → V c 0 bg.toNat = nu g q - nu f p) := by
  have lt : V c 0 bg.toNat < pw bg.toNat := V_lt (fun j j0 j1 => hl j j0 (by omega))
  refine ⟨fun z => ?_, fun z => ?_⟩
  · rw [pk_1 z, pk_1 z, nu_lf hf, nu_lf hg] at hV
    exact sub_end hV hb lt (hc.1 z)
  · rw [pk_0 z, pk_0 z, nu_lf hf, nu_lf hg] at hV
    exact sub_end hV hb lt (hc.2 z)
