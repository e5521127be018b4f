def asn (z x : Int) : Int := if z = 0 then x else -x
def pk (z : Int) (f g : Int → Int) : Int → Int := if z = 1 then f else g
theorem pk_1 {z : Int} {f g : Int → Int} (h : z = 1) : pk z f g = f := if_pos h
theorem pk_0 {z : Int} {f g : Int → Int} (h : z = 0) : pk z f g = g := if_neg (by omega)
theorem nu_lf {f : Int → Int} {p k : Int} (hk : al f p ≤ k) : V (lf f p (al f p)) 0 k.toNat = nu f p := V_lfk (al_0 f p) hk
theorem cf_on1 {S : sS} {c : Nat} {r k v : Int} : cf ((uA S c (r + k) v).2.1 c) r (k - 1) = v := by
  show (uA S c (r + k) v).2.1 c (r + (k - 1 + 1)) = v
  rw [show k - 1 + 1 = k by omega]; exact uA_on
theorem cf_ne1 {S : sS} {c : Nat} {r k v j : Int} (h : j ≠ k - 1) : cf ((uA S c (r + k) v).2.1 c) r j = cf (S.2.1 c) r j := uA_ne (fun q => h (by have := q.2; omega))
theorem lf_at {f : Int → Int} {p n k : Int} (h : k ≤ n) : lf f p n (k - 1) = f (p + k) := by
  rw [lf_in (by omega), show k - 1 + 1 = k by omega]
theorem add_sg1 {a b na nb t g : Int} (ha : a = -1 ∨ a = 0 ∨ a = 1) (ht : t = -1 ∨ t = 0 ∨ t = 1) (za : a = 0 → na = 0) (zb : t = 0 → nb = 0) (hc : a = 0 ∨ t = 0 ∨ a = t) (hs : (a = 0 → g = t) ∧ (a ≠ 0 → g = a)) : g * (na + nb) = a * na + t * nb ∧ (g = 1 ∨ g = -1 ∨ (g = 0 ∧ na + nb = 0)) := by
  rcases ha with q | q | q
  · have e := hs.2 (by omega)
    rcases ht with z | z | z
    · subst q; subst z; subst e; exact ⟨by omega, .inr (.inl rfl)⟩
    · have := zb z; subst q; subst z; subst e; subst this; exact ⟨by omega, .inr (.inl rfl)⟩
    · omega
  · have e := hs.1 q
    have := za q
    subst e; subst q; subst this
    rcases ht with z | z | z
    · subst z; exact ⟨by omega, .inr (.inl rfl)⟩
    · have := zb z; subst z; subst this; exact ⟨by omega, .inr (.inr ⟨rfl, by omega⟩)⟩
    · subst z; exact ⟨by omega, .inl rfl⟩
  · have e := hs.2 (by omega)
    rcases ht with z | z | z
    · omega
    · have := zb z; subst q; subst z; subst e; subst this; exact ⟨by omega, .inl rfl⟩
    · subst q; subst z; subst e; exact ⟨by omega, .inl rfl⟩
theorem sg_3 (f : Int → Int) (p : Int) : sg f p = -1 ∨ sg f p = 0 ∨ sg f p = 1 := by unfold sg; split; exact .inl rfl; split; exact .inr (.inr rfl); exact .inr (.inl rfl)
theorem sg_z {f : Int → Int} {p : Int} (h : sg f p = 0) : nu f p = 0 := nu_z (by have := sg_e (f := f) (p := p); omega)
theorem asn_m {lz t g n : Int} (hlz : 0 ≤ lz ∧ lz ≤ 1) (h : (lz = 0 → t = g) ∧ (lz = 1 → t = -g)) : asn lz (g * n) = t * n := by
  unfold asn
  rcases (by omega : lz = 0 ∨ lz = 1) with z | z
  · rw [if_pos z, h.1 z]
  · rw [if_neg (by omega), h.2 z, Int.neg_mul]
theorem add_sg {f g : Int → Int} {p q L M lz sa tt sg1 : Int} (_hA : NO f p L) (_hB : NO g q M) (hlz : 0 ≤ lz ∧ lz ≤ 1) (hsa : sa = sg f p) (htt : (lz = 0 → tt = sg g q) ∧ (lz = 1 → tt = -sg g q)) (hc : sa = 0 ∨ tt = 0 ∨ sa = tt) (hs : (sa = 0 → sg1 = tt) ∧ (sa ≠ 0 → sg1 = sa)) : sg1 * (nu f p + nu g q) = nv f p + asn lz (nv g q) ∧ (sg1 = 1 ∨ sg1 = -1 ∨ (sg1 = 0 ∧ nu f p + nu g q = 0)) := by
  have r2 := sg_3 g q
  unfold nv
  rw [asn_m hlz htt, ← hsa]
  exact add_sg1 (b := 0) (by rw [hsa]; exact sg_3 f p) (by omega) (fun z => sg_z (by omega)) (fun z => sg_z (by omega)) hc hs
theorem sub_sg {f g : Int → Int} {p q L M lz sa tt fi sg2 W : Int} (hA : NO f p L) (hB : NO g q M) (hlz : 0 ≤ lz ∧ lz ≤ 1) (hsa : sa = sg f p) (htt : (lz = 0 → tt = sg g q) ∧ (lz = 1 → tt = -sg g q)) (hc : sa ≠ 0 ∧ tt ≠ 0 ∧ sa ≠ tt) (hfi : 0 ≤ fi ∧ fi ≤ 1) (hs : (fi = 1 → sg2 = sa ∧ W = nu f p - nu g q) ∧ (fi = 0 → sg2 = tt ∧ W = nu g q - nu f p)) : sg2 * W = nv f p + asn lz (nv g q) ∧ (sg2 = 1 ∨ sg2 = -1 ∨ (sg2 = 0 ∧ W = 0)) := by
  have ef := sg_e (f := f) (p := p)
  have eg := sg_e (f := g) (p := q)
  have rf : -1 ≤ sg f p ∧ sg f p ≤ 1 := by omega
  have rg : -1 ≤ sg g q ∧ sg g q ≤ 1 := by omega
  have k2 := sgm (h := nv f p) (s := sg f p) (k := nu f p) rfl rf
  have k3 := sgm (h := nv g q) (s := sg g q) (k := nu g q) rfl rg
  clear ef eg
  have k1 := sgm (h := sg2 * W) (s := sg2) (k := W) rfl (by omega)
  generalize sg2 * W = X at *
  unfold asn
  rcases (by omega : lz = 0 ∨ lz = 1) with z | z
  · rw [if_pos z]
    have e := htt.1 z
    rcases (by omega : fi = 0 ∨ fi = 1) with y | y
    · have h2 := hs.2 y; omega
    · have h2 := hs.1 y; omega
  · rw [if_neg (by omega)]
    have e := htt.2 z
    rcases (by omega : fi = 0 ∨ fi = 1) with y | y
    · have h2 := hs.2 y; omega
    · have h2 := hs.1 y; omega
theorem sub_end {Vc bw P X Y : Int} (h : Vc - bw * P = X - Y) (hb : 0 ≤ bw ∧ bw ≤ 1) (hV : Vc < P) (hXY : Y ≤ X) : Vc = X - Y := by
  rcases (by omega : bw = 0 ∨ bw = 1) with q | q
  · rw [q] at h; omega
  · rw [q] at h; omega
/-- a difference's value -/
theorem sub_V {c : Int → Int} {f g : Int → Int} {p q bg bw fi : Int} (hf : al f p ≤ bg) (hg : al g q ≤ bg) (h0 : 0 ≤ bg) (hfi : 0 ≤ fi ∧ fi ≤ 1) (hb : 0 ≤ bw ∧ bw ≤ 1) (hl : ∀ j, 0 ≤ j → j < bg → 0 ≤ c j ∧ c j ≤ 999999999) (hV : V c 0 bg.toNat - bw * pw bg.toNat = V (pk fi (lf f p (al f p)) (lf g q (al g q))) 0 bg.toNat - V (pk fi (lf g q (al g q)) (lf f p (al f p))) 0 bg.toNat) (hc : (fi = 1 → nu g q ≤ nu f p) ∧ (fi = 0 → nu f p ≤ nu g q)) : (fi = 1 → V c 0 bg.toNat = nu f p - nu g q) ∧ (fi = 0 → V c 0 bg.toNat = nu g q - nu f p) := by
  have lt : V c 0 bg.toNat < pw bg.toNat := V_lt (fun j j0 j1 => hl j j0 (by omega))
  refine ⟨fun z => ?_, fun z => ?_⟩
  · rw [pk_1 z, pk_1 z, nu_lf hf, nu_lf hg] at hV
    exact sub_end hV hb lt (hc.1 z)
  · rw [pk_0 z, pk_0 z, nu_lf hf, nu_lf hg] at hV
    exact sub_end hV hb lt (hc.2 z)
set_option maxRecDepth 100000 in
set_option maxHeartbeats 4000000 in
theorem s_X12_add (l : Launch) (G : sG) (S : sS) {ka kb kc Nka Nkb Nkc : Nat} {po qo ro lz La Lb Lc : Int} (hI : dX G S) (hika : ia ka Nka) (hikb : ia kb Nkb) (hikc : ia kc Nkc) (nkckb : Hd (kc ≠ kb)) (hca : Hd (kc = ka → ro = po)) (hR : (0 ≤ po ∧ po + La < Nka) ∧ (0 ≤ qo ∧ qo + Lb < Nkb) ∧ (0 ≤ ro ∧ ro + Lc < Nkc) ∧ La + 1 ≤ Lc ∧ Lb + 1 ≤ Lc ∧ Lc ≤ 64) (hlz : 0 ≤ lz ∧ lz ≤ 1) (hA : NO (S.2.1 ka) po La) (hB : NO (S.2.1 kb) qo Lb) : Met l yX12_add (.code yX12_add cX12_add 16 none :: tb) (rmk 4 0 0) (sPc G 294 S [.ref (G.2.2.1 + ka), .int (iv po), .ref (G.2.2.1 + kb), .int (iv qo), .int (iv lz), .ref (G.2.2.1 + kc), .int (iv ro)]) (sQv G 294 (fun u => dX G u ∧ Fr S u (p1 kc) ∧ (NO (u.2.1 kc) ro Lc ∧ nv (u.2.1 kc) ro = nv (S.2.1 ka) po + asn lz (nv (S.2.1 kb) qo) ∧ ∀ j, j < ro ∨ ro + Lc < j → u.2.1 kc j = S.2.1 kc j))) 0 0 (sF G) := by
  refine sEnter (by decide) (Nat.le_of_ble_eq_true rfl) ?_
  intro p e s m args below meth c Cx hr hlk hnm hW ls hl
  have Cx : sC G p m c cX12_add 16 s args RX12 := Cx
  obtain ⟨hx, hb, hml, hown, hts⟩ := id Cx.1
  have hL : sL G [] := sL_nil
  have hl : lv_has ls 16 [(0, .ref (G.2.2.1 + ka)), (1, .int (iv po)), (2, .ref (G.2.2.1 + kb)), (3, .int (iv qo)), (4, .int (iv lz)), (5, .ref (G.2.2.1 + kc)), (6, .int (iv ro))] := hl
  have hW0 := hW
  have hN := hika.2.2.2.1
  have hNb := hikb.2.2.2.1
  have hNc := hikc.2.2.2.1
  have hA1 := hA.b
  have hB1 := hB.b
  have hA0 := hA.1
  have hB0 := hB.1
  have hAn := al_0 (S.2.1 ka) po
  have hBn := al_0 (S.2.1 kb) qo
  refine lv_aload_n hx hb dX12_add_0 rfl (lv_at hl 0 rfl) ?_
  refine lv_iload_n hx hb dX12_add_1 rfl (lv_at hl 1 rfl) ?_
  refine sBi (sSt (As := [.ref (G.2.2.1 + ka), .int (iv po)]) (rest := []) Cx (s_X12_sign l G S (ka := ka) (po := po) (Nka := Nka) hI hika (by omega)) (c_X12_225 Cx rfl rfl (rmk_ok (by omega) (by decide))) hW rfl hl.1 rfl (Nat.le_of_ble_eq_true rfl) dX12_add_2 ⟨Nat.le_of_ble_eq_true rfl, Nat.le_of_ble_eq_true rfl⟩) hL (fun sa u_1 H locs k_2 hW hL => ?_)
  obtain ⟨eu_1, xu_1⟩ := k_2
  rw [eu_1] at hW
  refine lv_istore (lv' := [(7, .int (iv sa)), (0, .ref (G.2.2.1 + ka)), (1, .int (iv po)), (2, .ref (G.2.2.1 + kb)), (3, .int (iv qo)), (4, .int (iv lz)), (5, .ref (G.2.2.1 + kc)), (6, .int (iv ro))]) hx hb dX12_add_5 hl (by decide) rfl (fun ls hl => ?_)
  have join_26 : ∀ (tt : Int) (H : Heap) (locs : List Loc) (ls : Array Slot), ((lz = 0 → tt = sg (S.2.1 kb) qo) ∧ (lz = 1 → tt = -sg (S.2.1 kb) qo)) → (-1 ≤ tt ∧ tt ≤ 1) → sW G 294 S H → sL G locs → lv_has ls 16 [(7, .int (iv sa)), (0, .ref (G.2.2.1 + ka)), (1, .int (iv po)), (2, .ref (G.2.2.1 + kb)), (3, .int (iv qo)), (4, .int (iv lz)), (5, .ref (G.2.2.1 + kc)), (6, .int (iv ro))] → W p l e (rmk 4 0 0) s m args below meth c H locs 0 0 (MQ below (sQv G 294 (fun u => dX G u ∧ Fr S u (p1 kc) ∧ (NO (u.2.1 kc) ro Lc ∧ nv (u.2.1 kc) ro = nv (S.2.1 ka) po + asn lz (nv (S.2.1 kb) qo) ∧ ∀ j, j < ro ∨ ro + Lc < j → u.2.1 kc j = S.2.1 kc j))) args s 0 0 (sF G)) (F0 m 26 ls [.int (iv tt)]) := by
    intro tt H locs ls htt htr hW hL hl
    refine lv_istore (lv' := [(8, .int (iv tt)), (7, .int (iv sa)), (0, .ref (G.2.2.1 + ka)), (1, .int (iv po)), (2, .ref (G.2.2.1 + kb)), (3, .int (iv qo)), (4, .int (iv lz)), (5, .ref (G.2.2.1 + kc)), (6, .int (iv ro))]) hx hb dX12_add_26 hl (by decide) rfl (fun ls hl => ?_)
    refine lv_aload_n hx hb dX12_add_28 rfl (lv_at hl 2 rfl) ?_
    refine lv_iload_n hx hb dX12_add_29 rfl (lv_at hl 3 rfl) ?_
    refine sBi (sSt (As := [.ref (G.2.2.1 + ka), .int (iv po)]) (rest := []) Cx (s_X12_limbs l G S (ka := ka) (po := po) (Nka := Nka) hI hika (by omega) (by omega)) (c_X12_221 Cx rfl rfl (rmk_ok (by omega) (by decide))) hW rfl hl.1 rfl (Nat.le_of_ble_eq_true rfl) dX12_add_30 ⟨Nat.le_of_ble_eq_true rfl, Nat.le_of_ble_eq_true rfl⟩) hL (fun n u_3 H locs k_4 hW hL => ?_)
    obtain ⟨eu_3, xu_3⟩ := k_4
    rw [eu_3] at hW
    refine lv_istore (lv' := [(9, .int (iv n)), (8, .int (iv tt)), (7, .int (iv sa)), (0, .ref (G.2.2.1 + ka)), (1, .int (iv po)), (2, .ref (G.2.2.1 + kb)), (3, .int (iv qo)), (4, .int (iv lz)), (5, .ref (G.2.2.1 + kc)), (6, .int (iv ro))]) hx hb dX12_add_33 hl (by decide) rfl (fun ls hl => ?_)
    refine lv_aload_n hx hb dX12_add_35 rfl (lv_at hl 5 rfl) ?_
    refine lv_iload_n hx hb dX12_add_36 rfl (lv_at hl 6 rfl) ?_
    refine sBi (sSt (As := [.ref (G.2.2.1 + kb), .int (iv qo)]) (rest := []) Cx (s_X12_limbs l G S (ka := kb) (po := qo) (Nka := Nkb) hI hikb (by omega) (by omega)) (c_X12_221 Cx rfl rfl (rmk_ok (by omega) (by decide))) hW rfl hl.1 rfl (Nat.le_of_ble_eq_true rfl) dX12_add_37 ⟨Nat.le_of_ble_eq_true rfl, Nat.le_of_ble_eq_true rfl⟩) hL (fun mm u_5 H locs k_6 hW hL => ?_)
    obtain ⟨eu_5, xu_5⟩ := k_6
    rw [eu_5] at hW
    refine lv_istore (lv' := [(10, .int (iv mm)), (9, .int (iv n)), (8, .int (iv tt)), (7, .int (iv sa)), (0, .ref (G.2.2.1 + ka)), (1, .int (iv po)), (2, .ref (G.2.2.1 + kb)), (3, .int (iv qo)), (4, .int (iv lz)), (5, .ref (G.2.2.1 + kc)), (6, .int (iv ro))]) hx hb dX12_add_40 hl (by decide) rfl (fun ls hl => ?_)
    have join_59 : ∀  (H : Heap) (locs : List Loc) (ls : Array Slot), (sa = 0 ∨ tt = 0 ∨ sa = tt) → sW G 294 S H → sL G locs → lv_has ls 16 [(10, .int (iv mm)), (9, .int (iv n)), (8, .int (iv tt)), (7, .int (iv sa)), (0, .ref (G.2.2.1 + ka)), (1, .int (iv po)), (2, .ref (G.2.2.1 + kb)), (3, .int (iv qo)), (4, .int (iv lz)), (5, .ref (G.2.2.1 + kc)), (6, .int (iv ro))] → W p l e (rmk 4 0 0) s m args below meth c H locs 0 0 (MQ below (sQv G 294 (fun u => dX G u ∧ Fr S u (p1 kc) ∧ (NO (u.2.1 kc) ro Lc ∧ nv (u.2.1 kc) ro = nv (S.2.1 ka) po + asn lz (nv (S.2.1 kb) qo) ∧ ∀ j, j < ro ∨ ro + Lc < j → u.2.1 kc j = S.2.1 kc j))) args s 0 0 (sF G)) (F0 m 59 ls []) := by
      intro  H locs ls hst hW hL hl
      refine lv_lconst (v := jv 0) hx hb dX12_add_59 (by decide) ?_
      refine lv_lstore (lv' := [(11, .long (jv 0)), (10, .int (iv mm)), (9, .int (iv n)), (8, .int (iv tt)), (7, .int (iv sa)), (0, .ref (G.2.2.1 + ka)), (1, .int (iv po)), (2, .ref (G.2.2.1 + kb)), (3, .int (iv qo)), (4, .int (iv lz)), (5, .ref (G.2.2.1 + kc)), (6, .int (iv ro))]) hx hb dX12_add_60 hl (by decide) rfl (fun ls hl => ?_)
      refine lv_iconst (v := iv 0) hx hb dX12_add_62 (by decide) ?_
      refine lv_istore (lv' := [(13, .int (iv 0)), (11, .long (jv 0)), (10, .int (iv mm)), (9, .int (iv n)), (8, .int (iv tt)), (7, .int (iv sa)), (0, .ref (G.2.2.1 + ka)), (1, .int (iv po)), (2, .ref (G.2.2.1 + kb)), (3, .int (iv qo)), (4, .int (iv lz)), (5, .ref (G.2.2.1 + kc)), (6, .int (iv ro))]) hx hb dX12_add_63 hl (by decide) rfl (fun ls hl => ?_)
      have loop_65 : ∀ (fuel : Nat) (S65 : sS) (k : Int) (cy : Int) (H : Heap) (locs : List Loc) (ls : Array Slot), (n + mm + 3 - k).toNat < fuel → (dX G S65) → (Fr S S65 (p1 kc)) → (Fr S S65 (p1 kc)) → (0 ≤ k ∧ (k ≤ n + 1 ∨ k ≤ mm + 1)) → (0 ≤ cy ∧ cy ≤ 1) → (n < k → mm < k → cy = 0) → (∀ j, 0 ≤ j → j < k → 0 ≤ cf (S65.2.1 kc) ro j ∧ cf (S65.2.1 kc) ro j ≤ 999999999) → (V (cf (S65.2.1 kc) ro) 0 k.toNat + cy * pw k.toNat = V (lf (S.2.1 ka) po (al (S.2.1 ka) po)) 0 k.toNat + V (lf (S.2.1 kb) qo (al (S.2.1 kb) qo)) 0 k.toNat) → (Hd (0 < k → n ≤ k → mm ≤ k → cy = 0 → cf (S65.2.1 kc) ro (k - 1) ≠ 0)) → (∀ j, k < j → S65.2.1 ka (po + j) = S.2.1 ka (po + j)) → (∀ j, j ≤ ro ∨ ro + k < j → S65.2.1 kc j = S.2.1 kc j) → sW G 294 S65 H → sL G locs → lv_has ls 16 [(13, .int (iv k)), (11, .long (jv cy)), (10, .int (iv mm)), (9, .int (iv n)), (8, .int (iv tt)), (7, .int (iv sa)), (0, .ref (G.2.2.1 + ka)), (1, .int (iv po)), (2, .ref (G.2.2.1 + kb)), (3, .int (iv qo)), (4, .int (iv lz)), (5, .ref (G.2.2.1 + kc)), (6, .int (iv ro))] → W p l e (rmk 4 0 0) s m args below meth c H locs 0 0 (MQ below (sQv G 294 (fun u => dX G u ∧ Fr S u (p1 kc) ∧ (NO (u.2.1 kc) ro Lc ∧ nv (u.2.1 kc) ro = nv (S.2.1 ka) po + asn lz (nv (S.2.1 kb) qo) ∧ ∀ j, j < ro ∨ ro + Lc < j → u.2.1 kc j = S.2.1 kc j))) args s 0 0 (sF G)) (F0 m 65 ls []) := by
        intro fuel
        induction fuel with
        | zero => intro S65 k cy H locs ls hmeas hI65 hFm65 hL65_ hk hcy hkc hl9 hV htop hra hro hW hL hl; exact absurd hmeas (Nat.not_lt_zero _)
        | succ fuel ih_65 =>
          intro S65 k cy H locs ls hmeas hI65 hFm65 hL65_ hk hcy hkc hl9 hV htop hra hro hW hL hl
          have join_86 : ∀  (H : Heap) (locs : List Loc) (ls : Array Slot), (k < n ∨ k < mm ∨ 0 < cy) → sW G 294 S65 H → sL G locs → lv_has ls 16 [(13, .int (iv k)), (11, .long (jv cy)), (10, .int (iv mm)), (9, .int (iv n)), (8, .int (iv tt)), (7, .int (iv sa)), (0, .ref (G.2.2.1 + ka)), (1, .int (iv po)), (2, .ref (G.2.2.1 + kb)), (3, .int (iv qo)), (4, .int (iv lz)), (5, .ref (G.2.2.1 + kc)), (6, .int (iv ro))] → W p l e (rmk 4 0 0) s m args below meth c H locs 0 0 (MQ below (sQv G 294 (fun u => dX G u ∧ Fr S u (p1 kc) ∧ (NO (u.2.1 kc) ro Lc ∧ nv (u.2.1 kc) ro = nv (S.2.1 ka) po + asn lz (nv (S.2.1 kb) qo) ∧ ∀ j, j < ro ∨ ro + Lc < j → u.2.1 kc j = S.2.1 kc j))) args s 0 0 (sF G)) (F0 m 86 ls []) := by
            intro  H locs ls hbd hW hL hl
            have hta : k + 1 = n → lf (S.2.1 ka) po (al (S.2.1 ka) po) k ≠ 0 := fun e => lf_t hA (by omega) (by omega)
            have htb : k + 1 = mm → lf (S.2.1 kb) qo (al (S.2.1 kb) qo) k ≠ 0 := fun e => lf_t hB (by omega) (by omega)
            refine lv_iinc (v := iv (k + 1)) (lv' := [(13, .int (iv (k + 1))), (11, .long (jv cy)), (10, .int (iv mm)), (9, .int (iv n)), (8, .int (iv tt)), (7, .int (iv sa)), (0, .ref (G.2.2.1 + ka)), (1, .int (iv po)), (2, .ref (G.2.2.1 + kb)), (3, .int (iv qo)), (4, .int (iv lz)), (5, .ref (G.2.2.1 + kc)), (6, .int (iv ro))]) hx hb dX12_add_86 hl (k := 0) rfl ((Int32.ofInt_add _ _).symm) (by decide) rfl (fun ls hl => ?_)
            refine lv_lload hx hb dX12_add_89 (lv_at hl 1 rfl) ?_
            have join_108 : ∀ (xa : Int) (H : Heap) (locs : List Loc) (ls : Array Slot), (xa = lf (S.2.1 ka) po (al (S.2.1 ka) po) k) → (0 ≤ xa ∧ xa ≤ 999999999) → (n ≤ k → xa = 0) → sW G 294 S65 H → sL G locs → lv_has ls 16 [(13, .int (iv (k + 1))), (11, .long (jv cy)), (10, .int (iv mm)), (9, .int (iv n)), (8, .int (iv tt)), (7, .int (iv sa)), (0, .ref (G.2.2.1 + ka)), (1, .int (iv po)), (2, .ref (G.2.2.1 + kb)), (3, .int (iv qo)), (4, .int (iv lz)), (5, .ref (G.2.2.1 + kc)), (6, .int (iv ro))] → W p l e (rmk 4 0 0) s m args below meth c H locs 0 0 (MQ below (sQv G 294 (fun u => dX G u ∧ Fr S u (p1 kc) ∧ (NO (u.2.1 kc) ro Lc ∧ nv (u.2.1 kc) ro = nv (S.2.1 ka) po + asn lz (nv (S.2.1 kb) qo) ∧ ∀ j, j < ro ∨ ro + Lc < j → u.2.1 kc j = S.2.1 kc j))) args s 0 0 (sF G)) (F0 m 108 ls [.int (iv xa), .long (jv cy)]) := by
              intro xa H locs ls hxa hxr hxo hW hL hl
              refine r_i2l hx hb ⟨(by omega), (by omega)⟩ dX12_add_108 ?_
              refine r_ladd hx hb dX12_add_109 ?_
              have join_127 : ∀ (xb : Int) (H : Heap) (locs : List Loc) (ls : Array Slot), (xb = lf (S.2.1 kb) qo (al (S.2.1 kb) qo) k) → (0 ≤ xb ∧ xb ≤ 999999999) → (mm ≤ k → xb = 0) → sW G 294 S65 H → sL G locs → lv_has ls 16 [(13, .int (iv (k + 1))), (11, .long (jv cy)), (10, .int (iv mm)), (9, .int (iv n)), (8, .int (iv tt)), (7, .int (iv sa)), (0, .ref (G.2.2.1 + ka)), (1, .int (iv po)), (2, .ref (G.2.2.1 + kb)), (3, .int (iv qo)), (4, .int (iv lz)), (5, .ref (G.2.2.1 + kc)), (6, .int (iv ro))] → W p l e (rmk 4 0 0) s m args below meth c H locs 0 0 (MQ below (sQv G 294 (fun u => dX G u ∧ Fr S u (p1 kc) ∧ (NO (u.2.1 kc) ro Lc ∧ nv (u.2.1 kc) ro = nv (S.2.1 ka) po + asn lz (nv (S.2.1 kb) qo) ∧ ∀ j, j < ro ∨ ro + Lc < j → u.2.1 kc j = S.2.1 kc j))) args s 0 0 (sF G)) (F0 m 127 ls [.int (iv xb), .long (jv (cy + xa))]) := by
                intro xb H locs ls hxb hyr hyo hW hL hl
                refine r_i2l hx hb ⟨(by omega), (by omega)⟩ dX12_add_127 ?_
                refine r_ladd hx hb dX12_add_128 ?_
                obtain ⟨xs, exs⟩ : ∃ z : Int, z = (cy + xa) + xb := ⟨_, rfl⟩
                refine r_j (b := xs) exs.symm ?_
                refine lv_lstore (lv' := [(14, .long (jv xs)), (13, .int (iv (k + 1))), (11, .long (jv cy)), (10, .int (iv mm)), (9, .int (iv n)), (8, .int (iv tt)), (7, .int (iv sa)), (0, .ref (G.2.2.1 + ka)), (1, .int (iv po)), (2, .ref (G.2.2.1 + kb)), (3, .int (iv qo)), (4, .int (iv lz)), (5, .ref (G.2.2.1 + kc)), (6, .int (iv ro))]) hx hb dX12_add_129 hl (by decide) rfl (fun ls hl => ?_)
                refine lv_aload hx hb dX12_add_131 (lv_at hl 12 rfl) ?_
                refine lv_iload hx hb dX12_add_133 (lv_at hl 13 rfl) ?_
                refine lv_iload hx hb dX12_add_135 (lv_at hl 1 rfl) ?_
                refine r_iadd hx hb dX12_add_137 ?_
                refine lv_lload hx hb dX12_add_138 (lv_at hl 0 rfl) ?_
                refine lv_ldc2 hx hb hown (hts _ w_2464) dX12_add_140 ?_
                refine r_lrem hx hb ⟨(by omega), (by omega)⟩ ⟨(by omega), (by omega)⟩ (by omega) dX12_add_143 ?_
                refine r_j (b := xs % 1000000000) (Int.tmod_eq_emod_of_nonneg (by omega)) ?_
                refine r_l2i hx hb dX12_add_144 ?_
                refine rIast Cx hW hL (k := kc) hikc.lt hikc.1 (by omega) (by omega) (by omega) dX12_add_145 (fun H locs hW hL => ?_)
                have F_7 : Fr S (uA S65 kc (ro + (k + 1)) (xs % 1000000000)) (p1 kc) := hFm65.A p1_0
                have F_8 : Fr S (uA S65 kc (ro + (k + 1)) (xs % 1000000000)) (p1 kc) := hL65_.A p1_0
                have i_9 : dX G (uA S65 kc (ro + (k + 1)) (xs % 1000000000)) := hI65.Aj hikc ⟨by omega, by omega⟩
                refine lv_lload hx hb dX12_add_146 (lv_at hl 0 rfl) ?_
                refine lv_ldc2 hx hb hown (hts _ w_2464) dX12_add_148 ?_
                refine r_ldiv hx hb ⟨(by omega), (by omega)⟩ ⟨(by omega), (by omega)⟩ (by omega) dX12_add_151 ?_
                refine r_j (b := xs / 1000000000) (Int.tdiv_eq_ediv_of_nonneg (by omega)) ?_
                refine lv_lstore (lv' := [(11, .long (jv (xs / 1000000000))), (14, .long (jv xs)), (13, .int (iv (k + 1))), (10, .int (iv mm)), (9, .int (iv n)), (8, .int (iv tt)), (7, .int (iv sa)), (0, .ref (G.2.2.1 + ka)), (1, .int (iv po)), (2, .ref (G.2.2.1 + kb)), (3, .int (iv qo)), (4, .int (iv lz)), (5, .ref (G.2.2.1 + kc)), (6, .int (iv ro))]) hx hb dX12_add_152 hl (by decide) rfl (fun ls hl => ?_)
                refine lv_goto (tgt := 65) hx hb dX12_add_154 (by decide) ?_
                exact ih_65 (uA S65 kc (ro + (k + 1)) (xs % 1000000000)) (k + 1) (xs / 1000000000) _ _ _ (by omega) i_9 F_7 F_8 (by omega) (by omega) (by omega) (fun j a b => if e : j = k then (by rw [e, cf_on]; omega) else (by rw [cf_ne e]; exact hl9 j a (by omega))) (addS hk.1 hV (fun j a b => cf_ne (by omega)) cf_on (by omega)) (fun _ q1 q2 q3 => by rw [show k + 1 - 1 = k by omega, cf_on]; omega) (fun j a => by rw [uA_ne (fun q => by have e := hca q.1.symm; have := q.2; omega)]; exact hra j (by omega)) (fun j a => by rw [uA_ne (fun q => by have := q.2; omega)]; exact hro j (by omega)) hW hL (lv_sub hl [2, 0, 3, 4, 5, 6, 7, 8, 9, 10, 11, 12, 13] rfl)
              refine lv_iload hx hb dX12_add_110 (lv_at hl 0 rfl) ?_
              refine lv_iload hx hb dX12_add_112 (lv_at hl 2 rfl) ?_
              refine r_icmp_gt (tgt := 126) hx hb ⟨(by omega), (by omega)⟩ ⟨(by omega), (by omega)⟩ dX12_add_114 (by decide) (fun c_10 => ?_) (fun c_10 => ?_)
              · refine lv_iconst (v := iv 0) hx hb dX12_add_126 (by decide) ?_
                exact join_127 0 _ _ _ (lf_out (by omega)).symm (by have e := lf_r hB k (by omega); first | omega | (rw [lf_in (by omega)] at e; omega)) (by omega) hW hL (lv_sub hl [0, 1, 2, 3, 4, 5, 6, 7, 8, 9, 10, 11, 12] rfl)
              · refine lv_aload_n hx hb dX12_add_117 rfl (lv_at hl 8 rfl) ?_
                refine lv_iload_n hx hb dX12_add_118 rfl (lv_at hl 9 rfl) ?_
                refine lv_iload hx hb dX12_add_119 (lv_at hl 0 rfl) ?_
                refine r_iadd hx hb dX12_add_121 ?_
                refine rIald Cx hW (k := kb) hikb.lt hikb.1 (by omega) (by omega) (by omega) dX12_add_122 ?_
                have q_11 : (-2147483648) ≤ S.2.1 kb (qo + (k + 1)) ∧ S.2.1 kb (qo + (k + 1)) ≤ 2147483647 := hI.aj hikb.ge (qo + (k + 1))
                refine r_i (b := S.2.1 kb (qo + (k + 1))) ((hL65_ kb (p1_no (neS nkckb))).2.1 (qo + (k + 1))) ?_
                refine lv_goto (tgt := 127) hx hb dX12_add_123 (by decide) ?_
                exact join_127 (S.2.1 kb (qo + (k + 1))) _ _ _ (by rw [lf_in (by omega)]) (by have e := lf_r hB k (by omega); first | omega | (rw [lf_in (by omega)] at e; omega)) (by omega) hW hL (lv_sub hl [0, 1, 2, 3, 4, 5, 6, 7, 8, 9, 10, 11, 12] rfl)
            refine lv_iload hx hb dX12_add_91 (lv_at hl 0 rfl) ?_
            refine lv_iload hx hb dX12_add_93 (lv_at hl 3 rfl) ?_
            refine r_icmp_gt (tgt := 107) hx hb ⟨(by omega), (by omega)⟩ ⟨(by omega), (by omega)⟩ dX12_add_95 (by decide) (fun c_12 => ?_) (fun c_12 => ?_)
            · refine lv_iconst (v := iv 0) hx hb dX12_add_107 (by decide) ?_
              exact join_108 0 _ _ _ (lf_out (by omega)).symm (by have e := lf_r hA k (by omega); first | omega | (have e2 := hra (k + 1) (by omega); rw [lf_in (by omega)] at e; omega)) (by omega) hW hL (lv_sub hl [0, 1, 2, 3, 4, 5, 6, 7, 8, 9, 10, 11, 12] rfl)
            · refine lv_aload_n hx hb dX12_add_98 rfl (lv_at hl 6 rfl) ?_
              refine lv_iload_n hx hb dX12_add_99 rfl (lv_at hl 7 rfl) ?_
              refine lv_iload hx hb dX12_add_100 (lv_at hl 0 rfl) ?_
              refine r_iadd hx hb dX12_add_102 ?_
              refine rIald Cx hW (k := ka) hika.lt hika.1 (by omega) (by omega) (by omega) dX12_add_103 ?_
              have q_13 : (-2147483648) ≤ S65.2.1 ka (po + (k + 1)) ∧ S65.2.1 ka (po + (k + 1)) ≤ 2147483647 := hI65.aj hika.ge (po + (k + 1))
              refine r_i (b := S65.2.1 ka (po + (k + 1))) rfl ?_
              refine lv_goto (tgt := 108) hx hb dX12_add_104 (by decide) ?_
              exact join_108 (S65.2.1 ka (po + (k + 1))) _ _ _ (by rw [lf_in (by omega)]; exact hra _ (by omega)) (by have e := lf_r hA k (by omega); first | omega | (have e2 := hra (k + 1) (by omega); rw [lf_in (by omega)] at e; omega)) (by omega) hW hL (lv_sub hl [0, 1, 2, 3, 4, 5, 6, 7, 8, 9, 10, 11, 12] rfl)
          refine lv_iload hx hb dX12_add_65 (lv_at hl 0 rfl) ?_
          refine lv_iload hx hb dX12_add_67 (lv_at hl 3 rfl) ?_
          refine r_icmp_lt (tgt := 86) hx hb ⟨(by omega), (by omega)⟩ ⟨(by omega), (by omega)⟩ dX12_add_69 (by decide) (fun c_14 => ?_) (fun c_14 => ?_)
          · exact join_86  _ _ _ (by omega) hW hL (lv_sub hl [0, 1, 2, 3, 4, 5, 6, 7, 8, 9, 10, 11, 12] rfl)
          · refine lv_iload hx hb dX12_add_72 (lv_at hl 0 rfl) ?_
            refine lv_iload hx hb dX12_add_74 (lv_at hl 2 rfl) ?_
            refine r_icmp_lt (tgt := 86) hx hb ⟨(by omega), (by omega)⟩ ⟨(by omega), (by omega)⟩ dX12_add_76 (by decide) (fun c_15 => ?_) (fun c_15 => ?_)
            · exact join_86  _ _ _ (by omega) hW hL (lv_sub hl [0, 1, 2, 3, 4, 5, 6, 7, 8, 9, 10, 11, 12] rfl)
            · refine lv_lload hx hb dX12_add_79 (lv_at hl 1 rfl) ?_
              refine lv_lconst (v := jv 0) hx hb dX12_add_81 (by decide) ?_
              refine r_lcmp hx hb ⟨(by omega), (by omega)⟩ ⟨(by omega), (by omega)⟩ dX12_add_82 (fun z_16 az_16 bz_16 cz_16 => ?_)
              refine r_if_le (tgt := 157) hx hb ⟨(by omega), (by omega)⟩ dX12_add_83 (by decide) (fun c_17 => ?_) (fun c_17 => ?_)
              · refine lv_aload hx hb dX12_add_157 (lv_at hl 11 rfl) ?_
                refine lv_iload hx hb dX12_add_159 (lv_at hl 12 rfl) ?_
                have join_173 : ∀ (sg1 : Int) (H : Heap) (locs : List Loc) (ls : Array Slot), ((sa = 0 → sg1 = tt) ∧ (sa ≠ 0 → sg1 = sa)) → sW G 294 S65 H → sL G locs → lv_has ls 16 [(13, .int (iv k)), (11, .long (jv cy)), (10, .int (iv mm)), (9, .int (iv n)), (8, .int (iv tt)), (7, .int (iv sa)), (0, .ref (G.2.2.1 + ka)), (1, .int (iv po)), (2, .ref (G.2.2.1 + kb)), (3, .int (iv qo)), (4, .int (iv lz)), (5, .ref (G.2.2.1 + kc)), (6, .int (iv ro))] → W p l e (rmk 4 0 0) s m args below meth c H locs 0 0 (MQ below (sQv G 294 (fun u => dX G u ∧ Fr S u (p1 kc) ∧ (NO (u.2.1 kc) ro Lc ∧ nv (u.2.1 kc) ro = nv (S.2.1 ka) po + asn lz (nv (S.2.1 kb) qo) ∧ ∀ j, j < ro ∨ ro + Lc < j → u.2.1 kc j = S.2.1 kc j))) args s 0 0 (sF G)) (F0 m 173 ls [.int (iv sg1), .int (iv ro), .ref (G.2.2.1 + kc)]) := by
                  intro sg1 H locs ls hsg1 hW hL hl
                  refine lv_iload hx hb dX12_add_173 (lv_at hl 0 rfl) ?_
                  refine r_imul hx hb dX12_add_175 ?_
                  obtain ⟨hd, ehd⟩ : ∃ z : Int, z = sg1 * k := ⟨_, rfl⟩
                  refine r_i (b := hd) ehd.symm ?_
                  have hdm := sgm ehd (by omega)
                  have hsx := add_sg (sg1 := sg1) (sa := sa) (tt := tt) hA hB hlz (by omega) htt hst hsg1
                  refine rIast Cx hW hL (k := kc) hikc.lt hikc.1 (by omega) (by omega) (by omega) dX12_add_176 (fun H locs hW hL => ?_)
                  have F_18 : Fr S (uA S65 kc ro hd) (p1 kc) := hFm65.A p1_0
                  have F_19 : Fr S (uA S65 kc ro hd) (p1 kc) := hL65_.A p1_0
                  have i_20 : dX G (uA S65 kc ro hd) := hI65.Aj hikc ⟨by omega, by omega⟩
                  exact sVret Cx hr hlk hW hL ⟨i_20, F_18, ⟨(put_fin (S := S65) (a := kc) (r := ro) (s := sg1) (n := k) (L := Lc) (W := nu (S.2.1 ka) po + nu (S.2.1 kb) qo) (hd := hd) ehd hsx.2 (by omega) hl9 (fun q => htop q (by omega) (by omega) (by omega)) (by have e := hV; rw [show cy = 0 by omega, nu_lf (by omega), nu_lf (by omega)] at e; omega)).1, (put_fin (S := S65) (a := kc) (r := ro) (s := sg1) (n := k) (L := Lc) (W := nu (S.2.1 ka) po + nu (S.2.1 kb) qo) (hd := hd) ehd hsx.2 (by omega) hl9 (fun q => htop q (by omega) (by omega) (by omega)) (by have e := hV; rw [show cy = 0 by omega, nu_lf (by omega), nu_lf (by omega)] at e; omega)).2.trans hsx.1, (fun j a => by rw [uA_ne (fun q => by have := q.2; omega)]; exact hro j (by omega))⟩⟩ dX12_add_177
                refine lv_iload hx hb dX12_add_161 (lv_at hl 5 rfl) ?_
                refine r_if_ne (tgt := 171) hx hb ⟨(by omega), (by omega)⟩ dX12_add_163 (by decide) (fun c_21 => ?_) (fun c_21 => ?_)
                · refine lv_iload hx hb dX12_add_171 (lv_at hl 5 rfl) ?_
                  exact join_173 sa _ _ _ (by omega) hW hL (lv_sub hl [0, 1, 2, 3, 4, 5, 6, 7, 8, 9, 10, 11, 12] rfl)
                · refine lv_iload hx hb dX12_add_166 (lv_at hl 4 rfl) ?_
                  refine lv_goto (tgt := 173) hx hb dX12_add_168 (by decide) ?_
                  exact join_173 tt _ _ _ (by omega) hW hL (lv_sub hl [0, 1, 2, 3, 4, 5, 6, 7, 8, 9, 10, 11, 12] rfl)
              · exact join_86  _ _ _ (by omega) hW hL (lv_sub hl [0, 1, 2, 3, 4, 5, 6, 7, 8, 9, 10, 11, 12] rfl)
      exact loop_65 (_ + 1) S 0 0 _ _ _ (Nat.lt_succ_self _) hI (Fr.rf : Fr S S (p1 kc)) Fr.rf (by omega) (by omega) (by omega) (fun j a b => absurd b (by omega)) (by show (0 : Int) + 0 * 1 = 0 + 0; omega) (fun q => absurd q (by omega)) (fun j _ => rfl) (fun j _ => rfl) hW hL (lv_sub hl [0, 1, 2, 3, 4, 5, 6, 7, 8, 9, 10, 11, 12] rfl)
    refine lv_iload hx hb dX12_add_42 (lv_at hl 3 rfl) ?_
    refine r_if_eq (tgt := 59) hx hb ⟨(by omega), (by omega)⟩ dX12_add_44 (by decide) (fun c_22 => ?_) (fun c_22 => ?_)
    · exact join_59  _ _ _ (by omega) hW hL (lv_sub hl [0, 1, 2, 3, 4, 5, 6, 7, 8, 9, 10] rfl)
    · refine lv_iload hx hb dX12_add_47 (lv_at hl 2 rfl) ?_
      refine r_if_eq (tgt := 59) hx hb ⟨(by omega), (by omega)⟩ dX12_add_49 (by decide) (fun c_23 => ?_) (fun c_23 => ?_)
      · exact join_59  _ _ _ (by omega) hW hL (lv_sub hl [0, 1, 2, 3, 4, 5, 6, 7, 8, 9, 10] rfl)
      · refine lv_iload hx hb dX12_add_52 (lv_at hl 3 rfl) ?_
        refine lv_iload hx hb dX12_add_54 (lv_at hl 2 rfl) ?_
        refine r_icmp_ne (tgt := 178) hx hb ⟨(by omega), (by omega)⟩ ⟨(by omega), (by omega)⟩ dX12_add_56 (by decide) (fun c_24 => ?_) (fun c_24 => ?_)
        · have join_193 : ∀ (fi : Int) (H : Heap) (locs : List Loc) (ls : Array Slot), (0 ≤ fi ∧ fi ≤ 1) → ((fi = 1 → mm ≤ n) ∧ (fi = 0 → n ≤ mm)) → (Hd ((fi = 1 → nu (S.2.1 kb) qo ≤ nu (S.2.1 ka) po) ∧ (fi = 0 → nu (S.2.1 ka) po ≤ nu (S.2.1 kb) qo))) → sW G 294 S H → sL G locs → lv_has ls 16 [(10, .int (iv mm)), (9, .int (iv n)), (8, .int (iv tt)), (7, .int (iv sa)), (0, .ref (G.2.2.1 + ka)), (1, .int (iv po)), (2, .ref (G.2.2.1 + kb)), (3, .int (iv qo)), (4, .int (iv lz)), (5, .ref (G.2.2.1 + kc)), (6, .int (iv ro))] → W p l e (rmk 4 0 0) s m args below meth c H locs 0 0 (MQ below (sQv G 294 (fun u => dX G u ∧ Fr S u (p1 kc) ∧ (NO (u.2.1 kc) ro Lc ∧ nv (u.2.1 kc) ro = nv (S.2.1 ka) po + asn lz (nv (S.2.1 kb) qo) ∧ ∀ j, j < ro ∨ ro + Lc < j → u.2.1 kc j = S.2.1 kc j))) args s 0 0 (sF G)) (F0 m 193 ls [.int (iv fi)]) := by
            intro fi H locs ls hfi hfl hfc hW hL hl
            refine lv_istore (lv' := [(11, .int (iv fi)), (10, .int (iv mm)), (9, .int (iv n)), (8, .int (iv tt)), (7, .int (iv sa)), (0, .ref (G.2.2.1 + ka)), (1, .int (iv po)), (2, .ref (G.2.2.1 + kb)), (3, .int (iv qo)), (4, .int (iv lz)), (5, .ref (G.2.2.1 + kc)), (6, .int (iv ro))]) hx hb dX12_add_193 hl (by decide) rfl (fun ls hl => ?_)
            have join_207 : ∀ (bg : Int) (H : Heap) (locs : List Loc) (ls : Array Slot), ((fi = 1 → bg = n) ∧ (fi = 0 → bg = mm)) → sW G 294 S H → sL G locs → lv_has ls 16 [(11, .int (iv fi)), (10, .int (iv mm)), (9, .int (iv n)), (8, .int (iv tt)), (7, .int (iv sa)), (0, .ref (G.2.2.1 + ka)), (1, .int (iv po)), (2, .ref (G.2.2.1 + kb)), (3, .int (iv qo)), (4, .int (iv lz)), (5, .ref (G.2.2.1 + kc)), (6, .int (iv ro))] → W p l e (rmk 4 0 0) s m args below meth c H locs 0 0 (MQ below (sQv G 294 (fun u => dX G u ∧ Fr S u (p1 kc) ∧ (NO (u.2.1 kc) ro Lc ∧ nv (u.2.1 kc) ro = nv (S.2.1 ka) po + asn lz (nv (S.2.1 kb) qo) ∧ ∀ j, j < ro ∨ ro + Lc < j → u.2.1 kc j = S.2.1 kc j))) args s 0 0 (sF G)) (F0 m 207 ls [.int (iv bg)]) := by
              intro bg H locs ls hbg hW hL hl
              refine lv_istore (lv' := [(12, .int (iv bg)), (11, .int (iv fi)), (10, .int (iv mm)), (9, .int (iv n)), (8, .int (iv tt)), (7, .int (iv sa)), (0, .ref (G.2.2.1 + ka)), (1, .int (iv po)), (2, .ref (G.2.2.1 + kb)), (3, .int (iv qo)), (4, .int (iv lz)), (5, .ref (G.2.2.1 + kc)), (6, .int (iv ro))]) hx hb dX12_add_207 hl (by decide) rfl (fun ls hl => ?_)
              refine lv_iconst (v := iv 0) hx hb dX12_add_209 (by decide) ?_
              refine lv_istore (lv' := [(13, .int (iv 0)), (12, .int (iv bg)), (11, .int (iv fi)), (10, .int (iv mm)), (9, .int (iv n)), (8, .int (iv tt)), (7, .int (iv sa)), (0, .ref (G.2.2.1 + ka)), (1, .int (iv po)), (2, .ref (G.2.2.1 + kb)), (3, .int (iv qo)), (4, .int (iv lz)), (5, .ref (G.2.2.1 + kc)), (6, .int (iv ro))]) hx hb dX12_add_210 hl (by decide) rfl (fun ls hl => ?_)
              refine lv_iconst (v := iv 1) hx hb dX12_add_212 (by decide) ?_
              refine lv_istore (lv' := [(14, .int (iv 1)), (13, .int (iv 0)), (12, .int (iv bg)), (11, .int (iv fi)), (10, .int (iv mm)), (9, .int (iv n)), (8, .int (iv tt)), (7, .int (iv sa)), (0, .ref (G.2.2.1 + ka)), (1, .int (iv po)), (2, .ref (G.2.2.1 + kb)), (3, .int (iv qo)), (4, .int (iv lz)), (5, .ref (G.2.2.1 + kc)), (6, .int (iv ro))]) hx hb dX12_add_213 hl (by decide) rfl (fun ls hl => ?_)
              have loop_215 : ∀ (fuel : Nat) (S215 : sS) (k : Int) (bw : Int) (H : Heap) (locs : List Loc) (ls : Array Slot), (bg + 1 - k).toNat < fuel → (dX G S215) → (Fr S S215 (p1 kc)) → (Fr S S215 (p1 kc)) → (1 ≤ k ∧ k ≤ bg + 1) → (0 ≤ bw ∧ bw ≤ 1) → (∀ j, 0 ≤ j → j < k - 1 → 0 ≤ cf (S215.2.1 kc) ro j ∧ cf (S215.2.1 kc) ro j ≤ 999999999) → (V (cf (S215.2.1 kc) ro) 0 (k - 1).toNat - bw * pw (k - 1).toNat = V (pk fi (lf (S.2.1 ka) po (al (S.2.1 ka) po)) (lf (S.2.1 kb) qo (al (S.2.1 kb) qo))) 0 (k - 1).toNat - V (pk fi (lf (S.2.1 kb) qo (al (S.2.1 kb) qo)) (lf (S.2.1 ka) po (al (S.2.1 ka) po))) 0 (k - 1).toNat) → (∀ j, k ≤ j → S215.2.1 ka (po + j) = S.2.1 ka (po + j)) → (∀ j, j ≤ ro ∨ ro + k ≤ j → S215.2.1 kc j = S.2.1 kc j) → sW G 294 S215 H → sL G locs → lv_has ls 16 [(14, .int (iv k)), (13, .int (iv bw)), (12, .int (iv bg)), (11, .int (iv fi)), (10, .int (iv mm)), (9, .int (iv n)), (8, .int (iv tt)), (7, .int (iv sa)), (0, .ref (G.2.2.1 + ka)), (1, .int (iv po)), (2, .ref (G.2.2.1 + kb)), (3, .int (iv qo)), (4, .int (iv lz)), (5, .ref (G.2.2.1 + kc)), (6, .int (iv ro))] → W p l e (rmk 4 0 0) s m args below meth c H locs 0 0 (MQ below (sQv G 294 (fun u => dX G u ∧ Fr S u (p1 kc) ∧ (NO (u.2.1 kc) ro Lc ∧ nv (u.2.1 kc) ro = nv (S.2.1 ka) po + asn lz (nv (S.2.1 kb) qo) ∧ ∀ j, j < ro ∨ ro + Lc < j → u.2.1 kc j = S.2.1 kc j))) args s 0 0 (sF G)) (F0 m 215 ls []) := by
                intro fuel
                induction fuel with
                | zero => intro S215 k bw H locs ls hmeas hI215 hFm215 hL215_ hk hbw hl9 hV hra hro hW hL hl; exact absurd hmeas (Nat.not_lt_zero _)
                | succ fuel ih_215 =>
                  intro S215 k bw H locs ls hmeas hI215 hFm215 hL215_ hk hbw hl9 hV hra hro hW hL hl
                  refine lv_iload hx hb dX12_add_215 (lv_at hl 0 rfl) ?_
                  refine lv_iload hx hb dX12_add_217 (lv_at hl 2 rfl) ?_
                  refine r_icmp_gt (tgt := 327) hx hb ⟨(by omega), (by omega)⟩ ⟨(by omega), (by omega)⟩ dX12_add_219 (by decide) (fun c_25 => ?_) (fun c_25 => ?_)
                  · have hVV := sub_V (c := cf (S215.2.1 kc) ro) (f := S.2.1 ka) (g := S.2.1 kb) (p := po) (q := qo) (bg := bg) (bw := bw) (fi := fi) (by omega) (by omega) (by omega) hfi hbw (fun j a b => hl9 j a (by omega)) (by have e := hV; rw [show k - 1 = bg by omega] at e; exact e) hfc
                    have loop_327 : ∀ (fuel : Nat) (b3 : Int) (H : Heap) (locs : List Loc) (ls : Array Slot), b3.toNat < fuel → (0 ≤ b3 ∧ b3 ≤ bg) → (V (cf (S215.2.1 kc) ro) 0 b3.toNat = V (cf (S215.2.1 kc) ro) 0 bg.toNat) → sW G 294 S215 H → sL G locs → lv_has ls 16 [(14, .int (iv k)), (13, .int (iv bw)), (12, .int (iv b3)), (11, .int (iv fi)), (10, .int (iv mm)), (9, .int (iv n)), (8, .int (iv tt)), (7, .int (iv sa)), (0, .ref (G.2.2.1 + ka)), (1, .int (iv po)), (2, .ref (G.2.2.1 + kb)), (3, .int (iv qo)), (4, .int (iv lz)), (5, .ref (G.2.2.1 + kc)), (6, .int (iv ro))] → W p l e (rmk 4 0 0) s m args below meth c H locs 0 0 (MQ below (sQv G 294 (fun u => dX G u ∧ Fr S u (p1 kc) ∧ (NO (u.2.1 kc) ro Lc ∧ nv (u.2.1 kc) ro = nv (S.2.1 ka) po + asn lz (nv (S.2.1 kb) qo) ∧ ∀ j, j < ro ∨ ro + Lc < j → u.2.1 kc j = S.2.1 kc j))) args s 0 0 (sF G)) (F0 m 327 ls []) := by
                      intro fuel
                      induction fuel with
                      | zero => intro b3 H locs ls hmeas hb3 hz hW hL hl; exact absurd hmeas (Nat.not_lt_zero _)
                      | succ fuel ih_327 =>
                        intro b3 H locs ls hmeas hb3 hz hW hL hl
                        refine lv_iload hx hb dX12_add_327 (lv_at hl 2 rfl) ?_
                        refine r_if_le (tgt := 349) hx hb ⟨(by omega), (by omega)⟩ dX12_add_329 (by decide) (fun c_26 => ?_) (fun c_26 => ?_)
                        · refine lv_aload hx hb dX12_add_349 (lv_at hl 13 rfl) ?_
                          refine lv_iload hx hb dX12_add_351 (lv_at hl 14 rfl) ?_
                          have join_365 : ∀ (sg2 : Int) (H : Heap) (locs : List Loc) (ls : Array Slot), ((fi = 1 → sg2 = sa) ∧ (fi = 0 → sg2 = tt)) → sW G 294 S215 H → sL G locs → lv_has ls 16 [(14, .int (iv k)), (13, .int (iv bw)), (12, .int (iv b3)), (11, .int (iv fi)), (10, .int (iv mm)), (9, .int (iv n)), (8, .int (iv tt)), (7, .int (iv sa)), (0, .ref (G.2.2.1 + ka)), (1, .int (iv po)), (2, .ref (G.2.2.1 + kb)), (3, .int (iv qo)), (4, .int (iv lz)), (5, .ref (G.2.2.1 + kc)), (6, .int (iv ro))] → W p l e (rmk 4 0 0) s m args below meth c H locs 0 0 (MQ below (sQv G 294 (fun u => dX G u ∧ Fr S u (p1 kc) ∧ (NO (u.2.1 kc) ro Lc ∧ nv (u.2.1 kc) ro = nv (S.2.1 ka) po + asn lz (nv (S.2.1 kb) qo) ∧ ∀ j, j < ro ∨ ro + Lc < j → u.2.1 kc j = S.2.1 kc j))) args s 0 0 (sF G)) (F0 m 365 ls [.int (iv sg2), .int (iv ro), .ref (G.2.2.1 + kc)]) := by
                            intro sg2 H locs ls hsg2 hW hL hl
                            refine lv_iload hx hb dX12_add_365 (lv_at hl 2 rfl) ?_
                            refine r_imul hx hb dX12_add_367 ?_
                            obtain ⟨hd2, ehd2⟩ : ∃ z : Int, z = sg2 * b3 := ⟨_, rfl⟩
                            refine r_i (b := hd2) ehd2.symm ?_
                            have hdm2 := sgm ehd2 (by omega)
                            have hsy := sub_sg (W := V (cf (S215.2.1 kc) ro) 0 bg.toNat) (sg2 := sg2) (sa := sa) (tt := tt) (fi := fi) hA hB hlz (by omega) htt ⟨by omega, by omega, by omega⟩ hfi ⟨fun z => ⟨by omega, hVV.1 z⟩, fun z => ⟨by omega, hVV.2 z⟩⟩
                            refine rIast Cx hW hL (k := kc) hikc.lt hikc.1 (by omega) (by omega) (by omega) dX12_add_368 (fun H locs hW hL => ?_)
                            have F_27 : Fr S (uA S215 kc ro hd2) (p1 kc) := hFm215.A p1_0
                            have F_28 : Fr S (uA S215 kc ro hd2) (p1 kc) := hL215_.A p1_0
                            have i_29 : dX G (uA S215 kc ro hd2) := hI215.Aj hikc ⟨by omega, by omega⟩
                            exact sVret Cx hr hlk hW hL ⟨i_29, F_27, ⟨(put_fin (S := S215) (a := kc) (r := ro) (s := sg2) (n := b3) (L := Lc) (W := V (cf (S215.2.1 kc) ro) 0 bg.toNat) (hd := hd2) ehd2 hsy.2 (by omega) (fun j a b => hl9 j a (by omega)) (fun q => by show S215.2.1 kc (ro + (b3 - 1 + 1)) ≠ 0; rw [show b3 - 1 + 1 = b3 by omega]; omega) hz).1, (put_fin (S := S215) (a := kc) (r := ro) (s := sg2) (n := b3) (L := Lc) (W := V (cf (S215.2.1 kc) ro) 0 bg.toNat) (hd := hd2) ehd2 hsy.2 (by omega) (fun j a b => hl9 j a (by omega)) (fun q => by show S215.2.1 kc (ro + (b3 - 1 + 1)) ≠ 0; rw [show b3 - 1 + 1 = b3 by omega]; omega) hz).2.trans hsy.1, (fun j a => by rw [uA_ne (fun q => by have := q.2; omega)]; exact hro j (by omega))⟩⟩ dX12_add_369
                          refine lv_iload hx hb dX12_add_353 (lv_at hl 3 rfl) ?_
                          refine r_if_eq (tgt := 363) hx hb ⟨(by omega), (by omega)⟩ dX12_add_355 (by decide) (fun c_30 => ?_) (fun c_30 => ?_)
                          · refine lv_iload hx hb dX12_add_363 (lv_at hl 6 rfl) ?_
                            exact join_365 tt _ _ _ (by omega) hW hL (lv_sub hl [0, 1, 2, 3, 4, 5, 6, 7, 8, 9, 10, 11, 12, 13, 14] rfl)
                          · refine lv_iload hx hb dX12_add_358 (lv_at hl 7 rfl) ?_
                            refine lv_goto (tgt := 365) hx hb dX12_add_360 (by decide) ?_
                            exact join_365 sa _ _ _ (by omega) hW hL (lv_sub hl [0, 1, 2, 3, 4, 5, 6, 7, 8, 9, 10, 11, 12, 13, 14] rfl)
                        · refine lv_aload hx hb dX12_add_332 (lv_at hl 13 rfl) ?_
                          refine lv_iload hx hb dX12_add_334 (lv_at hl 14 rfl) ?_
                          refine lv_iload hx hb dX12_add_336 (lv_at hl 2 rfl) ?_
                          refine r_iadd hx hb dX12_add_338 ?_
                          refine rIald Cx hW (k := kc) hikc.lt hikc.1 (by omega) (by omega) (by omega) dX12_add_339 ?_
                          have q_31 : (-2147483648) ≤ S215.2.1 kc (ro + b3) ∧ S215.2.1 kc (ro + b3) ≤ 2147483647 := hI215.aj hikc.ge (ro + b3)
                          refine r_i (b := S215.2.1 kc (ro + b3)) rfl ?_
                          refine r_if_ne (tgt := 349) hx hb ⟨(by omega), (by omega)⟩ dX12_add_340 (by decide) (fun c_32 => ?_) (fun c_32 => ?_)
                          · refine lv_aload hx hb dX12_add_349 (lv_at hl 13 rfl) ?_
                            refine lv_iload hx hb dX12_add_351 (lv_at hl 14 rfl) ?_
                            have join_365 : ∀ (sg2 : Int) (H : Heap) (locs : List Loc) (ls : Array Slot), ((fi = 1 → sg2 = sa) ∧ (fi = 0 → sg2 = tt)) → sW G 294 S215 H → sL G locs → lv_has ls 16 [(14, .int (iv k)), (13, .int (iv bw)), (12, .int (iv b3)), (11, .int (iv fi)), (10, .int (iv mm)), (9, .int (iv n)), (8, .int (iv tt)), (7, .int (iv sa)), (0, .ref (G.2.2.1 + ka)), (1, .int (iv po)), (2, .ref (G.2.2.1 + kb)), (3, .int (iv qo)), (4, .int (iv lz)), (5, .ref (G.2.2.1 + kc)), (6, .int (iv ro))] → W p l e (rmk 4 0 0) s m args below meth c H locs 0 0 (MQ below (sQv G 294 (fun u => dX G u ∧ Fr S u (p1 kc) ∧ (NO (u.2.1 kc) ro Lc ∧ nv (u.2.1 kc) ro = nv (S.2.1 ka) po + asn lz (nv (S.2.1 kb) qo) ∧ ∀ j, j < ro ∨ ro + Lc < j → u.2.1 kc j = S.2.1 kc j))) args s 0 0 (sF G)) (F0 m 365 ls [.int (iv sg2), .int (iv ro), .ref (G.2.2.1 + kc)]) := by
                              intro sg2 H locs ls hsg2 hW hL hl
                              refine lv_iload hx hb dX12_add_365 (lv_at hl 2 rfl) ?_
                              refine r_imul hx hb dX12_add_367 ?_
                              obtain ⟨hd2, ehd2⟩ : ∃ z : Int, z = sg2 * b3 := ⟨_, rfl⟩
                              refine r_i (b := hd2) ehd2.symm ?_
                              have hdm2 := sgm ehd2 (by omega)
                              have hsy := sub_sg (W := V (cf (S215.2.1 kc) ro) 0 bg.toNat) (sg2 := sg2) (sa := sa) (tt := tt) (fi := fi) hA hB hlz (by omega) htt ⟨by omega, by omega, by omega⟩ hfi ⟨fun z => ⟨by omega, hVV.1 z⟩, fun z => ⟨by omega, hVV.2 z⟩⟩
                              refine rIast Cx hW hL (k := kc) hikc.lt hikc.1 (by omega) (by omega) (by omega) dX12_add_368 (fun H locs hW hL => ?_)
                              have F_33 : Fr S (uA S215 kc ro hd2) (p1 kc) := hFm215.A p1_0
                              have F_34 : Fr S (uA S215 kc ro hd2) (p1 kc) := hL215_.A p1_0
                              have i_35 : dX G (uA S215 kc ro hd2) := hI215.Aj hikc ⟨by omega, by omega⟩
                              exact sVret Cx hr hlk hW hL ⟨i_35, F_33, ⟨(put_fin (S := S215) (a := kc) (r := ro) (s := sg2) (n := b3) (L := Lc) (W := V (cf (S215.2.1 kc) ro) 0 bg.toNat) (hd := hd2) ehd2 hsy.2 (by omega) (fun j a b => hl9 j a (by omega)) (fun q => by show S215.2.1 kc (ro + (b3 - 1 + 1)) ≠ 0; rw [show b3 - 1 + 1 = b3 by omega]; omega) hz).1, (put_fin (S := S215) (a := kc) (r := ro) (s := sg2) (n := b3) (L := Lc) (W := V (cf (S215.2.1 kc) ro) 0 bg.toNat) (hd := hd2) ehd2 hsy.2 (by omega) (fun j a b => hl9 j a (by omega)) (fun q => by show S215.2.1 kc (ro + (b3 - 1 + 1)) ≠ 0; rw [show b3 - 1 + 1 = b3 by omega]; omega) hz).2.trans hsy.1, (fun j a => by rw [uA_ne (fun q => by have := q.2; omega)]; exact hro j (by omega))⟩⟩ dX12_add_369
                            refine lv_iload hx hb dX12_add_353 (lv_at hl 3 rfl) ?_
                            refine r_if_eq (tgt := 363) hx hb ⟨(by omega), (by omega)⟩ dX12_add_355 (by decide) (fun c_36 => ?_) (fun c_36 => ?_)
                            · refine lv_iload hx hb dX12_add_363 (lv_at hl 6 rfl) ?_
                              exact join_365 tt _ _ _ (by omega) hW hL (lv_sub hl [0, 1, 2, 3, 4, 5, 6, 7, 8, 9, 10, 11, 12, 13, 14] rfl)
                            · refine lv_iload hx hb dX12_add_358 (lv_at hl 7 rfl) ?_
                              refine lv_goto (tgt := 365) hx hb dX12_add_360 (by decide) ?_
                              exact join_365 sa _ _ _ (by omega) hW hL (lv_sub hl [0, 1, 2, 3, 4, 5, 6, 7, 8, 9, 10, 11, 12, 13, 14] rfl)
                          · refine lv_iinc (v := iv (b3 + (-1))) (lv' := [(12, .int (iv (b3 + (-1)))), (14, .int (iv k)), (13, .int (iv bw)), (11, .int (iv fi)), (10, .int (iv mm)), (9, .int (iv n)), (8, .int (iv tt)), (7, .int (iv sa)), (0, .ref (G.2.2.1 + ka)), (1, .int (iv po)), (2, .ref (G.2.2.1 + kb)), (3, .int (iv qo)), (4, .int (iv lz)), (5, .ref (G.2.2.1 + kc)), (6, .int (iv ro))]) hx hb dX12_add_343 hl (k := 2) rfl ((Int32.ofInt_add _ _).symm) (by decide) rfl (fun ls hl => ?_)
                            refine lv_goto (tgt := 327) hx hb dX12_add_346 (by decide) ?_
                            exact ih_327 (b3 + (-1)) _ _ _ (by omega) (by omega) (by rw [show b3 + (-1) = b3 - 1 by omega]; exact (V_dn (by omega) (by show S215.2.1 kc (ro + (b3 - 1 + 1)) = 0; rw [show b3 - 1 + 1 = b3 by omega]; omega)).trans hz) hW hL (lv_sub hl [1, 2, 0, 3, 4, 5, 6, 7, 8, 9, 10, 11, 12, 13, 14] rfl)
                    exact loop_327 (_ + 1) bg _ _ _ (Nat.lt_succ_self _) (by omega) rfl hW hL (lv_sub hl [0, 1, 2, 3, 4, 5, 6, 7, 8, 9, 10, 11, 12, 13, 14] rfl)
                  · have join_284 : ∀ (xd : Int) (H : Heap) (locs : List Loc) (ls : Array Slot), (xd = pk fi (lf (S.2.1 ka) po (al (S.2.1 ka) po)) (lf (S.2.1 kb) qo (al (S.2.1 kb) qo)) (k - 1) - pk fi (lf (S.2.1 kb) qo (al (S.2.1 kb) qo)) (lf (S.2.1 ka) po (al (S.2.1 ka) po)) (k - 1) - bw) → (-1000000000 ≤ xd ∧ xd ≤ 999999999) → sW G 294 S215 H → sL G locs → lv_has ls 16 [(14, .int (iv k)), (13, .int (iv bw)), (12, .int (iv bg)), (11, .int (iv fi)), (10, .int (iv mm)), (9, .int (iv n)), (8, .int (iv tt)), (7, .int (iv sa)), (0, .ref (G.2.2.1 + ka)), (1, .int (iv po)), (2, .ref (G.2.2.1 + kb)), (3, .int (iv qo)), (4, .int (iv lz)), (5, .ref (G.2.2.1 + kc)), (6, .int (iv ro))] → W p l e (rmk 4 0 0) s m args below meth c H locs 0 0 (MQ below (sQv G 294 (fun u => dX G u ∧ Fr S u (p1 kc) ∧ (NO (u.2.1 kc) ro Lc ∧ nv (u.2.1 kc) ro = nv (S.2.1 ka) po + asn lz (nv (S.2.1 kb) qo) ∧ ∀ j, j < ro ∨ ro + Lc < j → u.2.1 kc j = S.2.1 kc j))) args s 0 0 (sF G)) (F0 m 284 ls [.int (iv xd)]) := by
                      intro xd H locs ls hxd hxz hW hL hl
                      refine lv_istore (lv' := [(15, .int (iv xd)), (14, .int (iv k)), (13, .int (iv bw)), (12, .int (iv bg)), (11, .int (iv fi)), (10, .int (iv mm)), (9, .int (iv n)), (8, .int (iv tt)), (7, .int (iv sa)), (0, .ref (G.2.2.1 + ka)), (1, .int (iv po)), (2, .ref (G.2.2.1 + kb)), (3, .int (iv qo)), (4, .int (iv lz)), (5, .ref (G.2.2.1 + kc)), (6, .int (iv ro))]) hx hb dX12_add_284 hl (by decide) rfl (fun ls hl => ?_)
                      have join_296 : ∀ (b2 : Int) (H : Heap) (locs : List Loc) (ls : Array Slot), ((xd < 0 → b2 = 1) ∧ (0 ≤ xd → b2 = 0)) → sW G 294 S215 H → sL G locs → lv_has ls 16 [(15, .int (iv xd)), (14, .int (iv k)), (13, .int (iv bw)), (12, .int (iv bg)), (11, .int (iv fi)), (10, .int (iv mm)), (9, .int (iv n)), (8, .int (iv tt)), (7, .int (iv sa)), (0, .ref (G.2.2.1 + ka)), (1, .int (iv po)), (2, .ref (G.2.2.1 + kb)), (3, .int (iv qo)), (4, .int (iv lz)), (5, .ref (G.2.2.1 + kc)), (6, .int (iv ro))] → W p l e (rmk 4 0 0) s m args below meth c H locs 0 0 (MQ below (sQv G 294 (fun u => dX G u ∧ Fr S u (p1 kc) ∧ (NO (u.2.1 kc) ro Lc ∧ nv (u.2.1 kc) ro = nv (S.2.1 ka) po + asn lz (nv (S.2.1 kb) qo) ∧ ∀ j, j < ro ∨ ro + Lc < j → u.2.1 kc j = S.2.1 kc j))) args s 0 0 (sF G)) (F0 m 296 ls [.int (iv b2)]) := by
                        intro b2 H locs ls hb2 hW hL hl
                        refine lv_istore (lv' := [(13, .int (iv b2)), (15, .int (iv xd)), (14, .int (iv k)), (12, .int (iv bg)), (11, .int (iv fi)), (10, .int (iv mm)), (9, .int (iv n)), (8, .int (iv tt)), (7, .int (iv sa)), (0, .ref (G.2.2.1 + ka)), (1, .int (iv po)), (2, .ref (G.2.2.1 + kb)), (3, .int (iv qo)), (4, .int (iv lz)), (5, .ref (G.2.2.1 + kc)), (6, .int (iv ro))]) hx hb dX12_add_296 hl (by decide) rfl (fun ls hl => ?_)
                        refine lv_aload hx hb dX12_add_298 (lv_at hl 14 rfl) ?_
                        refine lv_iload hx hb dX12_add_300 (lv_at hl 15 rfl) ?_
                        refine lv_iload hx hb dX12_add_302 (lv_at hl 2 rfl) ?_
                        refine r_iadd hx hb dX12_add_304 ?_
                        have join_320 : ∀ (dg : Int) (H : Heap) (locs : List Loc) (ls : Array Slot), ((xd < 0 → dg = xd + 1000000000) ∧ (0 ≤ xd → dg = xd)) → sW G 294 S215 H → sL G locs → lv_has ls 16 [(13, .int (iv b2)), (15, .int (iv xd)), (14, .int (iv k)), (12, .int (iv bg)), (11, .int (iv fi)), (10, .int (iv mm)), (9, .int (iv n)), (8, .int (iv tt)), (7, .int (iv sa)), (0, .ref (G.2.2.1 + ka)), (1, .int (iv po)), (2, .ref (G.2.2.1 + kb)), (3, .int (iv qo)), (4, .int (iv lz)), (5, .ref (G.2.2.1 + kc)), (6, .int (iv ro))] → W p l e (rmk 4 0 0) s m args below meth c H locs 0 0 (MQ below (sQv G 294 (fun u => dX G u ∧ Fr S u (p1 kc) ∧ (NO (u.2.1 kc) ro Lc ∧ nv (u.2.1 kc) ro = nv (S.2.1 ka) po + asn lz (nv (S.2.1 kb) qo) ∧ ∀ j, j < ro ∨ ro + Lc < j → u.2.1 kc j = S.2.1 kc j))) args s 0 0 (sF G)) (F0 m 320 ls [.int (iv dg), .int (iv (ro + k)), .ref (G.2.2.1 + kc)]) := by
                          intro dg H locs ls hdg hW hL hl
                          refine rIast Cx hW hL (k := kc) hikc.lt hikc.1 (by omega) (by omega) (by omega) dX12_add_320 (fun H locs hW hL => ?_)
                          have F_37 : Fr S (uA S215 kc (ro + k) dg) (p1 kc) := hFm215.A p1_0
                          have F_38 : Fr S (uA S215 kc (ro + k) dg) (p1 kc) := hL215_.A p1_0
                          have i_39 : dX G (uA S215 kc (ro + k) dg) := hI215.Aj hikc ⟨by omega, by omega⟩
                          refine lv_iinc (v := iv (k + 1)) (lv' := [(14, .int (iv (k + 1))), (13, .int (iv b2)), (15, .int (iv xd)), (12, .int (iv bg)), (11, .int (iv fi)), (10, .int (iv mm)), (9, .int (iv n)), (8, .int (iv tt)), (7, .int (iv sa)), (0, .ref (G.2.2.1 + ka)), (1, .int (iv po)), (2, .ref (G.2.2.1 + kb)), (3, .int (iv qo)), (4, .int (iv lz)), (5, .ref (G.2.2.1 + kc)), (6, .int (iv ro))]) hx hb dX12_add_321 hl (k := 2) rfl ((Int32.ofInt_add _ _).symm) (by decide) rfl (fun ls hl => ?_)
                          refine lv_goto (tgt := 215) hx hb dX12_add_324 (by decide) ?_
                          exact ih_215 (uA S215 kc (ro + k) dg) (k + 1) b2 _ _ _ (by omega) i_39 F_37 F_38 (by omega) (by omega) (fun j a b => if e : j = k - 1 then (by rw [e, cf_on1]; omega) else (by rw [cf_ne1 e]; exact hl9 j a (by omega))) (by have e := subS (by omega) hV (fun j a b => cf_ne1 (by omega)) cf_on1 (x := b2) (by omega : dg - b2 * 1000000000 = _ - _ - bw); rw [show k - 1 + 1 = k + 1 - 1 by omega] at e; exact e) (fun j a => by rw [uA_ne (fun q => by have e := hca q.1.symm; have := q.2; omega)]; exact hra j (by omega)) (fun j a => by rw [uA_ne (fun q => by have := q.2; omega)]; exact hro j (by omega)) hW hL (lv_sub hl [0, 1, 3, 4, 5, 6, 7, 8, 9, 10, 11, 12, 13, 14, 15] rfl)
                        refine lv_iload hx hb dX12_add_305 (lv_at hl 1 rfl) ?_
                        refine r_if_ge (tgt := 318) hx hb ⟨(by omega), (by omega)⟩ dX12_add_307 (by decide) (fun c_40 => ?_) (fun c_40 => ?_)
                        · refine lv_iload hx hb dX12_add_318 (lv_at hl 1 rfl) ?_
                          exact join_320 xd _ _ _ (by omega) hW hL (lv_sub hl [0, 1, 2, 3, 4, 5, 6, 7, 8, 9, 10, 11, 12, 13, 14, 15] rfl)
                        · refine lv_iload hx hb dX12_add_310 (lv_at hl 1 rfl) ?_
                          refine lv_ldc hx hb hown (hts _ w_2600) dX12_add_312 ?_
                          refine r_iadd hx hb dX12_add_314 ?_
                          refine lv_goto (tgt := 320) hx hb dX12_add_315 (by decide) ?_
                          exact join_320 (xd + 1000000000) _ _ _ (by omega) hW hL (lv_sub hl [0, 1, 2, 3, 4, 5, 6, 7, 8, 9, 10, 11, 12, 13, 14, 15] rfl)
                      refine lv_iload hx hb dX12_add_286 (lv_at hl 0 rfl) ?_
                      refine r_if_ge (tgt := 295) hx hb ⟨(by omega), (by omega)⟩ dX12_add_288 (by decide) (fun c_41 => ?_) (fun c_41 => ?_)
                      · refine lv_iconst (v := iv 0) hx hb dX12_add_295 (by decide) ?_
                        exact join_296 0 _ _ _ (by omega) hW hL (lv_sub hl [0, 1, 2, 3, 4, 5, 6, 7, 8, 9, 10, 11, 12, 13, 14, 15] rfl)
                      · refine lv_iconst (v := iv 1) hx hb dX12_add_291 (by decide) ?_
                        refine lv_goto (tgt := 296) hx hb dX12_add_292 (by decide) ?_
                        exact join_296 1 _ _ _ (by omega) hW hL (lv_sub hl [0, 1, 2, 3, 4, 5, 6, 7, 8, 9, 10, 11, 12, 13, 14, 15] rfl)
                    refine lv_iload hx hb dX12_add_222 (lv_at hl 3 rfl) ?_
                    refine r_if_eq (tgt := 257) hx hb ⟨(by omega), (by omega)⟩ dX12_add_224 (by decide) (fun c_42 => ?_) (fun c_42 => ?_)
                    · refine lv_aload_n hx hb dX12_add_257 rfl (lv_at hl 10 rfl) ?_
                      refine lv_iload_n hx hb dX12_add_258 rfl (lv_at hl 11 rfl) ?_
                      refine lv_iload hx hb dX12_add_259 (lv_at hl 0 rfl) ?_
                      refine r_iadd hx hb dX12_add_261 ?_
                      refine rIald Cx hW (k := kb) hikb.lt hikb.1 (by omega) (by omega) (by omega) dX12_add_262 ?_
                      have q_43 : (-2147483648) ≤ S.2.1 kb (qo + k) ∧ S.2.1 kb (qo + k) ≤ 2147483647 := hI.aj hikb.ge (qo + k)
                      refine r_i (b := S.2.1 kb (qo + k)) ((hL215_ kb (p1_no (neS nkckb))).2.1 (qo + k)) ?_
                      have join_280 : ∀ (ya : Int) (H : Heap) (locs : List Loc) (ls : Array Slot), (ya = lf (S.2.1 ka) po (al (S.2.1 ka) po) (k - 1)) → (0 ≤ ya ∧ ya ≤ 999999999) → sW G 294 S215 H → sL G locs → lv_has ls 16 [(14, .int (iv k)), (13, .int (iv bw)), (12, .int (iv bg)), (11, .int (iv fi)), (10, .int (iv mm)), (9, .int (iv n)), (8, .int (iv tt)), (7, .int (iv sa)), (0, .ref (G.2.2.1 + ka)), (1, .int (iv po)), (2, .ref (G.2.2.1 + kb)), (3, .int (iv qo)), (4, .int (iv lz)), (5, .ref (G.2.2.1 + kc)), (6, .int (iv ro))] → W p l e (rmk 4 0 0) s m args below meth c H locs 0 0 (MQ below (sQv G 294 (fun u => dX G u ∧ Fr S u (p1 kc) ∧ (NO (u.2.1 kc) ro Lc ∧ nv (u.2.1 kc) ro = nv (S.2.1 ka) po + asn lz (nv (S.2.1 kb) qo) ∧ ∀ j, j < ro ∨ ro + Lc < j → u.2.1 kc j = S.2.1 kc j))) args s 0 0 (sF G)) (F0 m 280 ls [.int (iv ya), .int (iv (S.2.1 kb (qo + k)))]) := by
                        intro ya H locs ls hya hyp hW hL hl
                        refine r_isub hx hb dX12_add_280 ?_
                        refine lv_iload hx hb dX12_add_281 (lv_at hl 1 rfl) ?_
                        refine r_isub hx hb dX12_add_283 ?_
                        exact join_284 (((S.2.1 kb (qo + k)) - ya) - bw) _ _ _ (by rw [pk_0 (by omega), pk_0 (by omega), lf_at (f := S.2.1 kb) (by omega)]; omega) (by have e := lf_r hB (k - 1) (by omega); rw [lf_at (by omega)] at e; omega) hW hL (lv_sub hl [0, 1, 2, 3, 4, 5, 6, 7, 8, 9, 10, 11, 12, 13, 14] rfl)
                      refine lv_iload hx hb dX12_add_263 (lv_at hl 0 rfl) ?_
                      refine lv_iload hx hb dX12_add_265 (lv_at hl 5 rfl) ?_
                      refine r_icmp_gt (tgt := 279) hx hb ⟨(by omega), (by omega)⟩ ⟨(by omega), (by omega)⟩ dX12_add_267 (by decide) (fun c_44 => ?_) (fun c_44 => ?_)
                      · refine lv_iconst (v := iv 0) hx hb dX12_add_279 (by decide) ?_
                        exact join_280 0 _ _ _ (lf_out (by omega)).symm (by have e := lf_r hA (k - 1) (by omega); first | omega | (have e2 := hra k (by omega); rw [lf_at (by omega)] at e; omega)) hW hL (lv_sub hl [0, 1, 2, 3, 4, 5, 6, 7, 8, 9, 10, 11, 12, 13, 14] rfl)
                      · refine lv_aload_n hx hb dX12_add_270 rfl (lv_at hl 8 rfl) ?_
                        refine lv_iload_n hx hb dX12_add_271 rfl (lv_at hl 9 rfl) ?_
                        refine lv_iload hx hb dX12_add_272 (lv_at hl 0 rfl) ?_
                        refine r_iadd hx hb dX12_add_274 ?_
                        refine rIald Cx hW (k := ka) hika.lt hika.1 (by omega) (by omega) (by omega) dX12_add_275 ?_
                        have q_45 : (-2147483648) ≤ S215.2.1 ka (po + k) ∧ S215.2.1 ka (po + k) ≤ 2147483647 := hI215.aj hika.ge (po + k)
                        refine r_i (b := S215.2.1 ka (po + k)) rfl ?_
                        refine lv_goto (tgt := 280) hx hb dX12_add_276 (by decide) ?_
                        exact join_280 (S215.2.1 ka (po + k)) _ _ _ (by rw [lf_at (by omega)]; exact hra k (by omega)) (by have e := lf_r hA (k - 1) (by omega); first | omega | (have e2 := hra k (by omega); rw [lf_at (by omega)] at e; omega)) hW hL (lv_sub hl [0, 1, 2, 3, 4, 5, 6, 7, 8, 9, 10, 11, 12, 13, 14] rfl)
                    · refine lv_aload_n hx hb dX12_add_227 rfl (lv_at hl 8 rfl) ?_
                      refine lv_iload_n hx hb dX12_add_228 rfl (lv_at hl 9 rfl) ?_
                      refine lv_iload hx hb dX12_add_229 (lv_at hl 0 rfl) ?_
                      refine r_iadd hx hb dX12_add_231 ?_
                      refine rIald Cx hW (k := ka) hika.lt hika.1 (by omega) (by omega) (by omega) dX12_add_232 ?_
                      have q_46 : (-2147483648) ≤ S215.2.1 ka (po + k) ∧ S215.2.1 ka (po + k) ≤ 2147483647 := hI215.aj hika.ge (po + k)
                      refine r_i (b := S215.2.1 ka (po + k)) rfl ?_
                      have join_250 : ∀ (yb : Int) (H : Heap) (locs : List Loc) (ls : Array Slot), (yb = lf (S.2.1 kb) qo (al (S.2.1 kb) qo) (k - 1)) → (0 ≤ yb ∧ yb ≤ 999999999) → sW G 294 S215 H → sL G locs → lv_has ls 16 [(14, .int (iv k)), (13, .int (iv bw)), (12, .int (iv bg)), (11, .int (iv fi)), (10, .int (iv mm)), (9, .int (iv n)), (8, .int (iv tt)), (7, .int (iv sa)), (0, .ref (G.2.2.1 + ka)), (1, .int (iv po)), (2, .ref (G.2.2.1 + kb)), (3, .int (iv qo)), (4, .int (iv lz)), (5, .ref (G.2.2.1 + kc)), (6, .int (iv ro))] → W p l e (rmk 4 0 0) s m args below meth c H locs 0 0 (MQ below (sQv G 294 (fun u => dX G u ∧ Fr S u (p1 kc) ∧ (NO (u.2.1 kc) ro Lc ∧ nv (u.2.1 kc) ro = nv (S.2.1 ka) po + asn lz (nv (S.2.1 kb) qo) ∧ ∀ j, j < ro ∨ ro + Lc < j → u.2.1 kc j = S.2.1 kc j))) args s 0 0 (sF G)) (F0 m 250 ls [.int (iv yb), .int (iv (S215.2.1 ka (po + k)))]) := by
                        intro yb H locs ls hyb hyq hW hL hl
                        refine r_isub hx hb dX12_add_250 ?_
                        refine lv_iload hx hb dX12_add_251 (lv_at hl 1 rfl) ?_
                        refine r_isub hx hb dX12_add_253 ?_
                        refine lv_goto (tgt := 284) hx hb dX12_add_254 (by decide) ?_
                        exact join_284 (((S215.2.1 ka (po + k)) - yb) - bw) _ _ _ (by rw [pk_1 (by omega), pk_1 (by omega), lf_at (f := S.2.1 ka) (by omega), ← hra k (by omega)]; omega) (by have e := lf_r hA (k - 1) (by omega); rw [lf_at (by omega), ← hra k (by omega)] at e; omega) hW hL (lv_sub hl [0, 1, 2, 3, 4, 5, 6, 7, 8, 9, 10, 11, 12, 13, 14] rfl)
                      refine lv_iload hx hb dX12_add_233 (lv_at hl 0 rfl) ?_
                      refine lv_iload hx hb dX12_add_235 (lv_at hl 4 rfl) ?_
                      refine r_icmp_gt (tgt := 249) hx hb ⟨(by omega), (by omega)⟩ ⟨(by omega), (by omega)⟩ dX12_add_237 (by decide) (fun c_47 => ?_) (fun c_47 => ?_)
                      · refine lv_iconst (v := iv 0) hx hb dX12_add_249 (by decide) ?_
                        exact join_250 0 _ _ _ (lf_out (by omega)).symm (by have e := lf_r hB (k - 1) (by omega); first | omega | (rw [lf_at (by omega)] at e; omega)) hW hL (lv_sub hl [0, 1, 2, 3, 4, 5, 6, 7, 8, 9, 10, 11, 12, 13, 14] rfl)
                      · refine lv_aload_n hx hb dX12_add_240 rfl (lv_at hl 10 rfl) ?_
                        refine lv_iload_n hx hb dX12_add_241 rfl (lv_at hl 11 rfl) ?_
                        refine lv_iload hx hb dX12_add_242 (lv_at hl 0 rfl) ?_
                        refine r_iadd hx hb dX12_add_244 ?_
                        refine rIald Cx hW (k := kb) hikb.lt hikb.1 (by omega) (by omega) (by omega) dX12_add_245 ?_
                        have q_48 : (-2147483648) ≤ S.2.1 kb (qo + k) ∧ S.2.1 kb (qo + k) ≤ 2147483647 := hI.aj hikb.ge (qo + k)
                        refine r_i (b := S.2.1 kb (qo + k)) ((hL215_ kb (p1_no (neS nkckb))).2.1 (qo + k)) ?_
                        refine lv_goto (tgt := 250) hx hb dX12_add_246 (by decide) ?_
                        exact join_250 (S.2.1 kb (qo + k)) _ _ _ (lf_at (by omega)).symm (by have e := lf_r hB (k - 1) (by omega); first | omega | (rw [lf_at (by omega)] at e; omega)) hW hL (lv_sub hl [0, 1, 2, 3, 4, 5, 6, 7, 8, 9, 10, 11, 12, 13, 14] rfl)
              exact loop_215 (_ + 1) S 1 0 _ _ _ (Nat.lt_succ_self _) hI (Fr.rf : Fr S S (p1 kc)) Fr.rf (by omega) (by omega) (fun j a b => absurd b (by omega)) (by show (0 : Int) - 0 * 1 = 0 - 0; omega) (fun j _ => rfl) (fun j _ => rfl) hW hL (lv_sub hl [0, 1, 2, 3, 4, 5, 6, 7, 8, 9, 10, 11, 12, 13, 14] rfl)
            refine lv_iload hx hb dX12_add_195 (lv_at hl 0 rfl) ?_
            refine r_if_eq (tgt := 205) hx hb ⟨(by omega), (by omega)⟩ dX12_add_197 (by decide) (fun c_49 => ?_) (fun c_49 => ?_)
            · refine lv_iload hx hb dX12_add_205 (lv_at hl 1 rfl) ?_
              exact join_207 mm _ _ _ (by omega) hW hL (lv_sub hl [0, 1, 2, 3, 4, 5, 6, 7, 8, 9, 10, 11] rfl)
            · refine lv_iload hx hb dX12_add_200 (lv_at hl 2 rfl) ?_
              refine lv_goto (tgt := 207) hx hb dX12_add_202 (by decide) ?_
              exact join_207 n _ _ _ (by omega) hW hL (lv_sub hl [0, 1, 2, 3, 4, 5, 6, 7, 8, 9, 10, 11] rfl)
          refine lv_aload_n hx hb dX12_add_178 rfl (lv_at hl 4 rfl) ?_
          refine lv_iload_n hx hb dX12_add_179 rfl (lv_at hl 5 rfl) ?_
          refine lv_aload_n hx hb dX12_add_180 rfl (lv_at hl 6 rfl) ?_
          refine lv_iload_n hx hb dX12_add_181 rfl (lv_at hl 7 rfl) ?_
          refine sBi (sSt (As := [.ref (G.2.2.1 + ka), .int (iv po), .ref (G.2.2.1 + kb), .int (iv qo)]) (rest := []) Cx (s_X12_against l G S (ka := ka) (po := po) (kb := kb) (qo := qo) (Nka := Nka) (Nkb := Nkb) (La := La) (Lb := Lb) hI hika hikb (by omega) hA hB) (c_X12_228 Cx rfl rfl (rmk_ok (by omega) (by decide))) hW rfl hl.1 rfl (Nat.le_of_ble_eq_true rfl) dX12_add_182 ⟨Nat.le_of_ble_eq_true rfl, Nat.le_of_ble_eq_true rfl⟩) hL (fun r_52 u_50 H locs k_51 hW hL => ?_)
          obtain ⟨eu_50, xu_50⟩ := k_51
          rw [eu_50] at hW
          have yu_50 := xu_50.2
          unfold Hd at yu_50
          refine r_if_lt (tgt := 192) hx hb ⟨(by omega), (by omega)⟩ dX12_add_185 (by decide) (fun c_53 => ?_) (fun c_53 => ?_)
          · refine lv_iconst (v := iv 0) hx hb dX12_add_192 (by decide) ?_
            exact join_193 0 _ _ _ (by omega) (by omega) (by unfold Hd; omega) hW hL (lv_sub hl [0, 1, 2, 3, 4, 5, 6, 7, 8, 9, 10] rfl)
          · refine lv_iconst (v := iv 1) hx hb dX12_add_188 (by decide) ?_
            refine lv_goto (tgt := 193) hx hb dX12_add_189 (by decide) ?_
            exact join_193 1 _ _ _ (by omega) (by omega) (by unfold Hd; omega) hW hL (lv_sub hl [0, 1, 2, 3, 4, 5, 6, 7, 8, 9, 10] rfl)
        · exact join_59  _ _ _ (by omega) hW hL (lv_sub hl [0, 1, 2, 3, 4, 5, 6, 7, 8, 9, 10] rfl)
  refine lv_iload hx hb dX12_add_7 (lv_at hl 5 rfl) ?_
  refine r_if_eq (tgt := 21) hx hb ⟨(by omega), (by omega)⟩ dX12_add_9 (by decide) (fun c_54 => ?_) (fun c_54 => ?_)
  · refine lv_aload_n hx hb dX12_add_21 rfl (lv_at hl 3 rfl) ?_
    refine lv_iload_n hx hb dX12_add_22 rfl (lv_at hl 4 rfl) ?_
    refine sBi (sSt (As := [.ref (G.2.2.1 + kb), .int (iv qo)]) (rest := []) Cx (s_X12_sign l G S (ka := kb) (po := qo) (Nka := Nkb) hI hikb (by omega)) (c_X12_225 Cx rfl rfl (rmk_ok (by omega) (by decide))) hW rfl hl.1 rfl (Nat.le_of_ble_eq_true rfl) dX12_add_23 ⟨Nat.le_of_ble_eq_true rfl, Nat.le_of_ble_eq_true rfl⟩) hL (fun sb u_55 H locs k_56 hW hL => ?_)
    obtain ⟨eu_55, xu_55⟩ := k_56
    rw [eu_55] at hW
    exact join_26 sb _ _ _ (by omega) (by omega) hW hL (lv_sub hl [0, 1, 2, 3, 4, 5, 6, 7] rfl)
  · refine lv_aload_n hx hb dX12_add_12 rfl (lv_at hl 3 rfl) ?_
    refine lv_iload_n hx hb dX12_add_13 rfl (lv_at hl 4 rfl) ?_
    refine sBi (sSt (As := [.ref (G.2.2.1 + kb), .int (iv qo)]) (rest := []) Cx (s_X12_sign l G S (ka := kb) (po := qo) (Nka := Nkb) hI hikb (by omega)) (c_X12_225 Cx rfl rfl (rmk_ok (by omega) (by decide))) hW rfl hl.1 rfl (Nat.le_of_ble_eq_true rfl) dX12_add_14 ⟨Nat.le_of_ble_eq_true rfl, Nat.le_of_ble_eq_true rfl⟩) hL (fun sb u_57 H locs k_58 hW hL => ?_)
    obtain ⟨eu_57, xu_57⟩ := k_58
    rw [eu_57] at hW
    refine r_ineg hx hb dX12_add_17 ?_
    refine lv_goto (tgt := 26) hx hb dX12_add_18 (by decide) ?_
    exact join_26 (-sb) _ _ _ (by omega) (by omega) hW hL (lv_sub hl [0, 1, 2, 3, 4, 5, 6, 7] rfl)
