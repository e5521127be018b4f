theorem scS {c c' A : Int → Int} {k cy l x F : Int} (hk : 0 ≤ k) (hV : V c 0 k.toNat + cy * pw k.toNat = F * V A 0 k.toNat) (hc : ∀ j, 0 ≤ j → j < k → c' j = c j) (hl : c' k = l) (h2 : l + x * 1000000000 = F * A k + cy) : V c' 0 (k + 1).toNat + x * pw (k + 1).toNat = F * V A 0 (k + 1).toNat := by
  rw [V_stp hk, V_stp hk, pw_stp hk, show (0 : Int) + k = k by omega, hl, show V c' 0 k.toNat = V c 0 k.toNat from V_cg (fun j j0 j1 => by rw [show (0 : Int) + j = j by omega]; exact hc j j0 (by omega))]
  exact mmul hV h2
theorem sbS {c c' c0 Gt : Int → Int} {s j tk l t g : Int} (hj : 0 ≤ j) (hV : V c s j.toNat - tk * pw j.toNat = V c0 s j.toNat - g * V Gt 0 j.toNat) (hc : ∀ t, s ≤ t → t < s + j → c' t = c t) (hl : c' (s + j) = l) (h2 : l - t * 1000000000 = c0 (s + j) - (g * Gt j + tk)) : V c' s (j + 1).toNat - t * pw (j + 1).toNat = V c0 s (j + 1).toNat - g * V Gt 0 (j + 1).toNat := by
  rw [V_stp hj, V_stp hj, V_stp hj, pw_stp hj, show (0 : Int) + j = j by omega, hl, show V c' s j.toNat = V c s j.toNat from V_cg (fun t t0 t1 => hc _ (by omega) (by omega))]
  exact msub hV h2
theorem abS {c c' c0 Gt : Int → Int} {s j ov l t : Int} (hj : 0 ≤ j) (hV : V c s j.toNat + ov * pw j.toNat = V c0 s j.toNat + V Gt 0 j.toNat) (hc : ∀ t, s ≤ t → t < s + j → c' t = c t) (hl : c' (s + j) = l) (h2 : l + t * 1000000000 = c0 (s + j) + Gt j + ov) : V c' s (j + 1).toNat + t * pw (j + 1).toNat = V c0 s (j + 1).toNat + V Gt 0 (j + 1).toNat := by
  rw [V_stp hj, V_stp hj, V_stp hj, pw_stp hj, show (0 : Int) + j = j by omega, hl, show V c' s j.toNat = V c s j.toNat from V_cg (fun t t0 t1 => hc _ (by omega) (by omega))]
  exact madd hV h2
theorem ldW {L : Int → Int} {k m : Int} (hk : 1 ≤ k) (hm : 0 ≤ m) : V L 0 (k + m).toNat = V L 0 (k - 1).toNat + pw (k - 1).toNat * V L (k - 1) (m + 1).toNat := by
  have e := V_app (f := L) (s := 0) (m := (k - 1).toNat) (n := (m + 1).toNat)
  rw [show (k - 1).toNat + (m + 1).toNat = (k + m).toNat by omega, show (0 : Int) + ((k - 1).toNat : Int) = k - 1 by omega] at e
  exact e
theorem ldX {L : Int → Int} {k m : Int} (hk : 1 ≤ k) (hm : 0 ≤ m) : V L 0 (k - 1 + m).toNat = V L 0 (k - 1).toNat + pw (k - 1).toNat * V L (k - 1) m.toNat := by
  have e := V_app (f := L) (s := 0) (m := (k - 1).toNat) (n := m.toNat)
  rw [show (k - 1).toNat + m.toNat = (k - 1 + m).toNat by omega, show (0 : Int) + ((k - 1).toNat : Int) = k - 1 by omega] at e
  exact e
theorem ldU {L : Int → Int} {k m D : Int} (hk : 1 ≤ k) (hm : 0 ≤ m) (h0 : ∀ j, 0 ≤ j → j < k - 1 → 0 ≤ L j) (hlt : V L 0 (k + m).toNat < pw k.toNat * D) : V L (k - 1) (m + 1).toNat < 1000000000 * D := by
  rw [ldW hk hm, show pw k.toNat = 1000000000 * pw (k - 1).toNat by rw [← pw_stp (by omega)]; congr 2; omega] at hlt
  have a : 0 ≤ V L 0 (k - 1).toNat := V_0 (fun i i0 i1 => h0 i i0 (by omega))
  have b : pw (k - 1).toNat * V L (k - 1) (m + 1).toNat < pw (k - 1).toNat * (1000000000 * D) := by
    have : 1000000000 * pw (k - 1).toNat * D = pw (k - 1).toNat * (1000000000 * D) := by grind
    omega
  exact Int.lt_of_mul_lt_mul_left b (Int.le_of_lt (pw_pos _))
theorem ldStep {L L' c c' : Int → Int} {k m q D FA N : Int} (hk : 1 ≤ k ∧ k ≤ N) (hm : 0 ≤ m) (hE : FA = V c k (N - k).toNat * (pw k.toNat * D) + V L 0 (k + m).toNat) (hU : V L (k - 1) (m + 1).toNat = q * D + V L' (k - 1) m.toNat) (hlow : ∀ t, 0 ≤ t → t < k - 1 → L' t = L t) (hr : ∀ t, 0 ≤ t → t < k - 1 → 0 ≤ L t ∧ L t ≤ 999999999) (hlt : V L' (k - 1) m.toNat < D) (hc : ∀ t, k ≤ t → c' t = c t) (hck : c' (k - 1) = q) : FA = V c' (k - 1) (N - (k - 1)).toNat * (pw (k - 1).toNat * D) + V L' 0 (k - 1 + m).toNat ∧ V L' 0 (k - 1 + m).toNat < pw (k - 1).toNat * D := by
  have e1 : V L' 0 (k - 1).toNat = V L 0 (k - 1).toNat := V_cg (fun t t0 t1 => by rw [show (0 : Int) + t = t by omega]; exact hlow t t0 (by omega))
  have lt1 : V L 0 (k - 1).toNat < pw (k - 1).toNat := V_lt (fun t t0 t1 => hr t t0 (by omega))
  rw [ldX hk.1 hm, e1]
  have e2 : V c' (k - 1) (N - (k - 1)).toNat = q + 1000000000 * V c k (N - k).toNat := by
    rw [show (N - (k - 1)).toNat = (N - k).toNat + 1 by omega, V_front, hck, show k - 1 + 1 = k by omega, show V c' k (N - k).toNat = V c k (N - k).toNat from V_cg (fun t t0 t1 => hc _ (by omega))]
  have e3 : pw k.toNat = 1000000000 * pw (k - 1).toNat := by rw [← pw_stp (by omega)]; congr 2; omega
  refine ⟨?_, ?_⟩
  · rw [hE, ldW hk.1 hm, hU, e2, e3]; grind
  · have : (V L' (k - 1) m.toNat + 1) * pw (k - 1).toNat ≤ D * pw (k - 1).toNat := Int.mul_le_mul_of_nonneg_right (by omega) (Int.le_of_lt (pw_pos _))
    have e4 : (V L' (k - 1) m.toNat + 1) * pw (k - 1).toNat = pw (k - 1).toNat * V L' (k - 1) m.toNat + pw (k - 1).toNat := by grind
    have e5 : D * pw (k - 1).toNat = pw (k - 1).toNat * D := Int.mul_comm _ _
    omega
/-- a divisor, scaled, has no more limbs -/
theorem ldG {g : Int → Int} {q M F m : Int} (h : NO g q M) (hm : m = al g q) (h1 : 1 ≤ m) (hF : F * (g (q + m) + 1) ≤ 1000000000) (hF0 : 0 ≤ F) : F * nu g q < pw m.toNat := by
  have e := V_topr (f := g) (s := q + 1) (w := al g q) (by omega)
  have lt : V g (q + 1) (al g q - 1).toNat < pw (al g q - 1).toNat := V_lt (fun i i0 i1 => h.2.1 i (by omega) (by omega))
  rw [show q + 1 + al g q - 1 = q + al g q by omega] at e
  have e3 : pw m.toNat = 1000000000 * pw (m - 1).toNat := by rw [← pw_stp (by omega)]; congr 2; omega
  unfold nu
  rw [e, e3, ← hm]
  rw [← hm] at lt
  have p0 := pw_pos (m - 1).toNat
  have a : F * (g (q + m) + 1) * pw (m - 1).toNat ≤ 1000000000 * pw (m - 1).toNat := Int.mul_le_mul_of_nonneg_right hF (by omega)
  have b : F * (V g (q + 1) (m - 1).toNat) ≤ F * (pw (m - 1).toNat - 1) := Int.mul_le_mul_of_nonneg_left (by omega) hF0
  have c : F * (g (q + m) * pw (m - 1).toNat + V g (q + 1) (m - 1).toNat) = F * g (q + m) * pw (m - 1).toNat + F * V g (q + 1) (m - 1).toNat := by grind
  have d : F * (g (q + m) + 1) * pw (m - 1).toNat = F * g (q + m) * pw (m - 1).toNat + F * pw (m - 1).toNat := by grind
  have e' : F * (pw (m - 1).toNat - 1) = F * pw (m - 1).toNat - F := by grind
  rcases (by omega : F = 0 ∨ 1 ≤ F) with z | z
  · rw [z]; omega
  · omega
theorem sc_end {c P X cy : Int} (hP : 0 < P) (h : c + cy * P = X) (h0 : 0 ≤ c) (hc : 0 ≤ cy) (hX : X < P) : cy = 0 ∧ c = X := by
  rcases (by omega : cy = 0 ∨ 1 ≤ cy) with z | z
  · rw [z] at h; omega
  · exfalso
    have : 1 * P ≤ cy * P := Int.mul_le_mul_of_nonneg_right z (by omega)
    omega
theorem g_ge {c : Int → Int} {m : Nat} {t f B : Int} (hc : V c 0 (m + 1) = f * B) (hcr : V c 0 m < pw m) (hB : t * pw m ≤ B) (hf : 0 ≤ f) : t * f ≤ c m := by
  rw [V_s, show (0 : Int) + (m : Int) = m by omega] at hc
  have a : f * (t * pw m) ≤ f * B := Int.mul_le_mul_of_nonneg_left hB hf
  have p := pw_pos m
  have e : f * (t * pw m) = t * f * pw m := by grind
  have d : t * f * pw m < (c m + 1) * pw m := by
    have : (c m + 1) * pw m = c m * pw m + pw m := by grind
    omega
  have := Int.lt_of_mul_lt_mul_right d (Int.le_of_lt p)
  omega
theorem divF {a b : Int} (hb : 0 < b) (h0 : 0 ≤ a := by decide) : 0 ≤ a.tdiv b ∧ a.tdiv b * b ≤ a ∧ a < a.tdiv b * b + b := divQ h0 hb
set_option maxRecDepth 100000 in
set_option maxHeartbeats 4000000 in
theorem s_X12_longDivide (l : Launch) (G : sG) (S : sS) {ka kb kc Nka Nkb Nkc : Nat} {po qo ro n mm La Lb : Int} (hI : dX G S) (hika : ia ka Nka) (hikb : ia kb Nkb) (hikc : ia kc Nkc) (nka233 : Hd (ka ≠ 233)) (nkb233 : Hd (kb ≠ 233)) (nkb234 : Hd (kb ≠ 234)) (nkc233 : Hd (kc ≠ 233)) (nkc234 : Hd (kc ≠ 234)) (hR : (0 ≤ po ∧ po + La < Nka) ∧ (0 ≤ qo ∧ qo + Lb < Nkb) ∧ (0 ≤ ro ∧ ro + La < Nkc) ∧ La ≤ 64 ∧ Lb ≤ 64) (hnq : n = al (S.2.1 ka) po ∧ mm = al (S.2.1 kb) qo ∧ 2 ≤ mm ∧ mm ≤ n) (hA : NO (S.2.1 ka) po La) (hB : NO (S.2.1 kb) qo Lb) : Met l yX12_longDivide (.code yX12_longDivide cX12_longDivide 26 none :: tb) (rmk 2 0 0) (sPc G 294 S [.ref (G.2.2.1 + 231), .ref (G.2.2.1 + ka), .int (iv po), .ref (G.2.2.1 + kb), .int (iv qo), .int (iv n), .int (iv mm), .ref (G.2.2.1 + kc), .int (iv ro)]) (sQv G 294 (fun u => dX G u ∧ Fr S u (pl [233, 234, kc]) ∧ ((V (cf (u.2.1 kc) ro) 0 (n - mm + 1).toNat * ((1000000000 / (S.2.1 kb (qo + mm) + 1)) * nu (S.2.1 kb) qo) + V (cf (u.2.1 233) 0) 0 mm.toNat = (1000000000 / (S.2.1 kb (qo + mm) + 1)) * nu (S.2.1 ka) po) ∧ (V (cf (u.2.1 233) 0) 0 mm.toNat < (1000000000 / (S.2.1 kb (qo + mm) + 1)) * nu (S.2.1 kb) qo) ∧ (∀ t, 0 ≤ t → t < n - mm + 1 → 0 ≤ cf (u.2.1 kc) ro t ∧ cf (u.2.1 kc) ro t ≤ 999999999) ∧ (∀ t, 0 ≤ t → t < mm → 0 ≤ cf (u.2.1 233) 0 t ∧ cf (u.2.1 233) 0 t ≤ 999999999) ∧ ∀ j, j ≤ ro ∨ ro + (n - mm + 1) < j → u.2.1 kc j = S.2.1 kc j))) 0 0 (sF G) := by
  refine sEnter (by decide) (Nat.le_of_ble_eq_true rfl) ?_
  intro p e s m args below meth c Cx hr hlk hnm hW ls hl
  have Cx : sC G p m c cX12_longDivide 26 s args RX12 := Cx
  obtain ⟨hx, hb, hml, hown, hts⟩ := id Cx.1
  have hL : sL G [] := sL_nil
  have hl : lv_has ls 26 [(0, .ref (G.2.2.1 + 231)), (1, .ref (G.2.2.1 + ka)), (2, .int (iv po)), (3, .ref (G.2.2.1 + kb)), (4, .int (iv qo)), (5, .int (iv n)), (6, .int (iv mm)), (7, .ref (G.2.2.1 + kc)), (8, .int (iv ro))] := hl
  have hW0 := hW
  have hN := hika.2.2.2.1
  have hNb := hikb.2.2.2.1
  have hNc := hikc.2.2.2.1
  have hA0 := hA.1
  have hB0 := hB.1
  have htp : 1 ≤ S.2.1 kb (qo + mm) ∧ S.2.1 kb (qo + mm) ≤ 999999999 := by have e := hB.2.1 (qo + mm) (by omega) (by omega); have e2 := hB.2.2 (by omega); rw [← hnq.2.1] at e2; omega
  refine lv_ldc hx hb hown (hts _ w_2600) dX12_longDivide_0 ?_
  refine lv_aload_n hx hb dX12_longDivide_2 rfl (lv_at hl 3 rfl) ?_
  refine lv_iload hx hb dX12_longDivide_3 (lv_at hl 4 rfl) ?_
  refine lv_iload hx hb dX12_longDivide_5 (lv_at hl 6 rfl) ?_
  refine r_iadd hx hb dX12_longDivide_7 ?_
  refine rIald Cx hW (k := kb) hikb.lt hikb.1 (by omega) (by omega) (by omega) dX12_longDivide_8 ?_
  have q_1 : (-2147483648) ≤ S.2.1 kb (qo + mm) ∧ S.2.1 kb (qo + mm) ≤ 2147483647 := hI.aj hikb.ge (qo + mm)
  refine r_i (b := S.2.1 kb (qo + mm)) rfl ?_
  refine lv_iconst (v := iv 1) hx hb dX12_longDivide_9 (by decide) ?_
  refine r_iadd hx hb dX12_longDivide_10 ?_
  refine r_idiv hx hb ⟨(by omega), (by omega)⟩ ⟨(by omega), (by omega)⟩ (by omega) dX12_longDivide_11 ?_
  obtain ⟨ff, eff⟩ : ∃ z : Int, z = (1000000000 : Int).tdiv ((S.2.1 kb (qo + mm)) + 1) := ⟨_, rfl⟩
  have hff := divF (a := 1000000000) (b := (S.2.1 kb (qo + mm)) + 1) (by omega)
  rw [← eff] at hff
  refine r_i (b := ff) eff.symm ?_
  have hff : ff = 1000000000 / (S.2.1 kb (qo + mm) + 1) := by rw [eff]; exact Int.tdiv_eq_ediv_of_nonneg (by decide)
  have hkf := kn_f (t := S.2.1 kb (qo + mm)) (f := ff) (by omega) (by omega) (by omega) (by omega)
  clear eff
  refine lv_istore (lv' := [(9, .int (iv ff)), (0, .ref (G.2.2.1 + 231)), (1, .ref (G.2.2.1 + ka)), (2, .int (iv po)), (3, .ref (G.2.2.1 + kb)), (4, .int (iv qo)), (5, .int (iv n)), (6, .int (iv mm)), (7, .ref (G.2.2.1 + kc)), (8, .int (iv ro))]) hx hb dX12_longDivide_12 hl (by decide) rfl (fun ls hl => ?_)
  refine lv_lconst (v := jv 0) hx hb dX12_longDivide_14 (by decide) ?_
  refine lv_lstore (lv' := [(10, .long (jv 0)), (9, .int (iv ff)), (0, .ref (G.2.2.1 + 231)), (1, .ref (G.2.2.1 + ka)), (2, .int (iv po)), (3, .ref (G.2.2.1 + kb)), (4, .int (iv qo)), (5, .int (iv n)), (6, .int (iv mm)), (7, .ref (G.2.2.1 + kc)), (8, .int (iv ro))]) hx hb dX12_longDivide_15 hl (by decide) rfl (fun ls hl => ?_)
  refine lv_iconst (v := iv 1) hx hb dX12_longDivide_17 (by decide) ?_
  refine lv_istore (lv' := [(12, .int (iv 1)), (10, .long (jv 0)), (9, .int (iv ff)), (0, .ref (G.2.2.1 + 231)), (1, .ref (G.2.2.1 + ka)), (2, .int (iv po)), (3, .ref (G.2.2.1 + kb)), (4, .int (iv qo)), (5, .int (iv n)), (6, .int (iv mm)), (7, .ref (G.2.2.1 + kc)), (8, .int (iv ro))]) hx hb dX12_longDivide_18 hl (by decide) rfl (fun ls hl => ?_)
  have loop_20 : ∀ (fuel : Nat) (S20 : sS) (k : Int) (cy : Int) (H : Heap) (locs : List Loc) (ls : Array Slot), (n + 1 - k).toNat < fuel → (dX G S20) → (Fr S S20 (pl [233, 234, kc])) → (Fr S S20 (p1 233)) → (1 ≤ k ∧ k ≤ n + 1) → (0 ≤ cy ∧ cy ≤ 999999999) → (V (cf (S20.2.1 233) 0) 0 (k - 1).toNat + cy * pw (k - 1).toNat = ff * V (lf (S.2.1 ka) po (al (S.2.1 ka) po)) 0 (k - 1).toNat) → (∀ t, 0 ≤ t → t < k - 1 → 0 ≤ cf (S20.2.1 233) 0 t ∧ cf (S20.2.1 233) 0 t ≤ 999999999) → sW G 294 S20 H → sL G locs → lv_has ls 26 [(12, .int (iv k)), (10, .long (jv cy)), (9, .int (iv ff)), (0, .ref (G.2.2.1 + 231)), (1, .ref (G.2.2.1 + ka)), (2, .int (iv po)), (3, .ref (G.2.2.1 + kb)), (4, .int (iv qo)), (5, .int (iv n)), (6, .int (iv mm)), (7, .ref (G.2.2.1 + kc)), (8, .int (iv ro))] → W p l e (rmk 2 0 0) s m args below meth c H locs 0 0 (MQ below (sQv G 294 (fun u => dX G u ∧ Fr S u (pl [233, 234, kc]) ∧ ((V (cf (u.2.1 kc) ro) 0 (n - mm + 1).toNat * ((1000000000 / (S.2.1 kb (qo + mm) + 1)) * nu (S.2.1 kb) qo) + V (cf (u.2.1 233) 0) 0 mm.toNat = (1000000000 / (S.2.1 kb (qo + mm) + 1)) * nu (S.2.1 ka) po) ∧ (V (cf (u.2.1 233) 0) 0 mm.toNat < (1000000000 / (S.2.1 kb (qo + mm) + 1)) * nu (S.2.1 kb) qo) ∧ (∀ t, 0 ≤ t → t < n - mm + 1 → 0 ≤ cf (u.2.1 kc) ro t ∧ cf (u.2.1 kc) ro t ≤ 999999999) ∧ (∀ t, 0 ≤ t → t < mm → 0 ≤ cf (u.2.1 233) 0 t ∧ cf (u.2.1 233) 0 t ≤ 999999999) ∧ ∀ j, j ≤ ro ∨ ro + (n - mm + 1) < j → u.2.1 kc j = S.2.1 kc j))) args s 0 0 (sF G)) (F0 m 20 ls []) := by
    intro fuel
    induction fuel with
    | zero => intro S20 k cy H locs ls hmeas hI20 hFm20 hL20_ hk hcy hV hrr hW hL hl; exact absurd hmeas (Nat.not_lt_zero _)
    | succ fuel ih_20 =>
      intro S20 k cy H locs ls hmeas hI20 hFm20 hL20_ hk hcy hV hrr hW hL hl
      refine lv_iload hx hb dX12_longDivide_20 (lv_at hl 0 rfl) ?_
      refine lv_iload hx hb dX12_longDivide_22 (lv_at hl 8 rfl) ?_
      refine r_icmp_gt (tgt := 71) hx hb ⟨(by omega), (by omega)⟩ ⟨(by omega), (by omega)⟩ dX12_longDivide_24 (by decide) (fun c_2 => ?_) (fun c_2 => ?_)
      · have hVA : V (cf (S20.2.1 233) 0) 0 n.toNat + cy * pw n.toNat = ff * nu (S.2.1 ka) po := by have e := hV; rw [show k - 1 = n by omega, show n = al (S.2.1 ka) po by omega, nu_lf (by omega)] at e; rw [show n = al (S.2.1 ka) po by omega]; exact e
        refine lv_aload_n hx hb dX12_longDivide_71 rfl (lv_at hl 3 rfl) ?_
        refine g_X12_13 Cx hW (k := 231) (by decide) rfl (v := .ref (G.2.2.1 + 233)) (rd_2 hI20) dX12_longDivide_72 ?_
        refine lv_iload hx hb dX12_longDivide_75 (lv_at hl 8 rfl) ?_
        refine lv_iconst (v := iv 1) hx hb dX12_longDivide_77 (by decide) ?_
        refine r_iadd hx hb dX12_longDivide_78 ?_
        refine lv_lload hx hb dX12_longDivide_79 (lv_at hl 1 rfl) ?_
        refine r_l2i hx hb dX12_longDivide_81 ?_
        refine rIast Cx hW hL (k := 233) (by decide) rfl (by decide) (by omega) (by omega) dX12_longDivide_82 (fun H locs hW hL => ?_)
        have F_3 : Fr S (uA S20 233 (n + 1) cy) (pl [233, 234, kc]) := hFm20.A pl_h
        have F_4 : Fr S (uA S20 233 (n + 1) cy) (p1 233) := hL20_.A rfl
        have i_5 : dX G (uA S20 233 (n + 1) cy) := hI20.A (k := 233) (show (-2147483648) ≤ cy ∧ cy ≤ 2147483647 from ⟨by omega, by omega⟩)
        refine lv_lconst (v := jv 0) hx hb dX12_longDivide_83 (by decide) ?_
        refine lv_lstore (lv' := [(10, .long (jv 0)), (12, .int (iv k)), (9, .int (iv ff)), (0, .ref (G.2.2.1 + 231)), (1, .ref (G.2.2.1 + ka)), (2, .int (iv po)), (3, .ref (G.2.2.1 + kb)), (4, .int (iv qo)), (5, .int (iv n)), (6, .int (iv mm)), (7, .ref (G.2.2.1 + kc)), (8, .int (iv ro))]) hx hb dX12_longDivide_84 hl (by decide) rfl (fun ls hl => ?_)
        refine lv_iconst (v := iv 1) hx hb dX12_longDivide_86 (by decide) ?_
        refine lv_istore (lv' := [(12, .int (iv 1)), (10, .long (jv 0)), (9, .int (iv ff)), (0, .ref (G.2.2.1 + 231)), (1, .ref (G.2.2.1 + ka)), (2, .int (iv po)), (3, .ref (G.2.2.1 + kb)), (4, .int (iv qo)), (5, .int (iv n)), (6, .int (iv mm)), (7, .ref (G.2.2.1 + kc)), (8, .int (iv ro))]) hx hb dX12_longDivide_87 hl (by decide) rfl (fun ls hl => ?_)
        have loop_89 : ∀ (fuel : Nat) (S89 : sS) (k2 : Int) (cz : Int) (H : Heap) (locs : List Loc) (ls : Array Slot), (mm + 1 - k2).toNat < fuel → (dX G S89) → (Fr S S89 (pl [233, 234, kc])) → (Fr ((uA S20 233 (n + 1) cy)) S89 (p1 234)) → (1 ≤ k2 ∧ k2 ≤ mm + 1) → (0 ≤ cz ∧ cz ≤ 999999999) → (V (cf (S89.2.1 234) 0) 0 (k2 - 1).toNat + cz * pw (k2 - 1).toNat = ff * V (lf (S.2.1 kb) qo (al (S.2.1 kb) qo)) 0 (k2 - 1).toNat) → (∀ t, 0 ≤ t → t < k2 - 1 → 0 ≤ cf (S89.2.1 234) 0 t ∧ cf (S89.2.1 234) 0 t ≤ 999999999) → sW G 294 S89 H → sL G locs → lv_has ls 26 [(12, .int (iv k2)), (10, .long (jv cz)), (9, .int (iv ff)), (0, .ref (G.2.2.1 + 231)), (1, .ref (G.2.2.1 + ka)), (2, .int (iv po)), (3, .ref (G.2.2.1 + kb)), (4, .int (iv qo)), (5, .int (iv n)), (6, .int (iv mm)), (7, .ref (G.2.2.1 + kc)), (8, .int (iv ro))] → W p l e (rmk 2 0 0) s m args below meth c H locs 0 0 (MQ below (sQv G 294 (fun u => dX G u ∧ Fr S u (pl [233, 234, kc]) ∧ ((V (cf (u.2.1 kc) ro) 0 (n - mm + 1).toNat * ((1000000000 / (S.2.1 kb (qo + mm) + 1)) * nu (S.2.1 kb) qo) + V (cf (u.2.1 233) 0) 0 mm.toNat = (1000000000 / (S.2.1 kb (qo + mm) + 1)) * nu (S.2.1 ka) po) ∧ (V (cf (u.2.1 233) 0) 0 mm.toNat < (1000000000 / (S.2.1 kb (qo + mm) + 1)) * nu (S.2.1 kb) qo) ∧ (∀ t, 0 ≤ t → t < n - mm + 1 → 0 ≤ cf (u.2.1 kc) ro t ∧ cf (u.2.1 kc) ro t ≤ 999999999) ∧ (∀ t, 0 ≤ t → t < mm → 0 ≤ cf (u.2.1 233) 0 t ∧ cf (u.2.1 233) 0 t ≤ 999999999) ∧ ∀ j, j ≤ ro ∨ ro + (n - mm + 1) < j → u.2.1 kc j = S.2.1 kc j))) args s 0 0 (sF G)) (F0 m 89 ls []) := by
          intro fuel
          induction fuel with
          | zero => intro S89 k2 cz H locs ls hmeas hI89 hFm89 hL89_ hk2 hcz hW2 hr2 hW hL hl; exact absurd hmeas (Nat.not_lt_zero _)
          | succ fuel ih_89 =>
            intro S89 k2 cz H locs ls hmeas hI89 hFm89 hL89_ hk2 hcz hW2 hr2 hW hL hl
            refine lv_iload hx hb dX12_longDivide_89 (lv_at hl 0 rfl) ?_
            refine lv_iload hx hb dX12_longDivide_91 (lv_at hl 9 rfl) ?_
            refine r_icmp_gt (tgt := 141) hx hb ⟨(by omega), (by omega)⟩ ⟨(by omega), (by omega)⟩ dX12_longDivide_93 (by decide) (fun c_6 => ?_) (fun c_6 => ?_)
            · have hgr : ∀ t, 0 ≤ t → t < mm → 0 ≤ cf (S89.2.1 234) 0 t ∧ cf (S89.2.1 234) 0 t ≤ 999999999 := fun t a b => hr2 t a (by omega)
              have hDf : ff * nu (S.2.1 kb) qo < pw mm.toNat := ldG hB (by omega) (by omega) (by omega) (by omega)
              have hDe : V (cf (S89.2.1 234) 0) 0 mm.toNat = ff * nu (S.2.1 kb) qo := by have e := hW2; rw [show k2 - 1 = mm by omega, show mm = al (S.2.1 kb) qo by omega, nu_lf (by omega)] at e; rw [show mm = al (S.2.1 kb) qo by omega]; exact (sc_end (pw_pos _) e (V_0 (fun i i0 i1 => (hgr i i0 (by omega)).1)) (by omega) (by rw [← hnq.2.1]; exact hDf)).2
              have hD2 := V_top2 (f := cf (S89.2.1 234) 0) (s := 0) (w := mm) (by omega)
              have ev1 : cf (S89.2.1 234) 0 (0 + mm - 1) = S89.2.1 234 mm := congrArg (S89.2.1 234) (by omega)
              have ev2 : cf (S89.2.1 234) 0 (0 + mm - 2) = S89.2.1 234 (mm - 1) := congrArg (S89.2.1 234) (by omega)
              rw [ev1, ev2] at hD2
              have hv1 : 0 ≤ S89.2.1 234 mm ∧ S89.2.1 234 mm ≤ 999999999 := by have e := hgr (mm - 1) (by omega) (by omega); have e2 : cf (S89.2.1 234) 0 (mm - 1) = S89.2.1 234 mm := congrArg (S89.2.1 234) (by omega); rw [e2] at e; exact e
              have hv2 : 0 ≤ S89.2.1 234 (mm - 1) ∧ S89.2.1 234 (mm - 1) ≤ 999999999 := by have e := hgr (mm - 2) (by omega) (by omega); have e2 : cf (S89.2.1 234) 0 (mm - 2) = S89.2.1 234 (mm - 1) := congrArg (S89.2.1 234) (by omega); rw [e2] at e; exact e
              have hvl : 0 ≤ V (cf (S89.2.1 234) 0) 0 (mm - 2).toNat ∧ V (cf (S89.2.1 234) 0) 0 (mm - 2).toNat < pw (mm - 2).toNat := ⟨V_0 (fun i i0 i1 => (hgr i (by omega) (by omega)).1), V_lt (fun i i0 i1 => hgr i (by omega) (by omega))⟩
              have hnt : S.2.1 kb (qo + mm) * pw (mm - 1).toNat ≤ nu (S.2.1 kb) qo := by have e := V_topr (f := S.2.1 kb) (s := qo + 1) (w := al (S.2.1 kb) qo) (by omega); unfold nu; rw [e, show qo + 1 + al (S.2.1 kb) qo - 1 = qo + mm by omega, ← hnq.2.1]; have : 0 ≤ V (S.2.1 kb) (qo + 1) (mm - 1).toNat := V_0 (fun i i0 i1 => (hB.2.1 i (by omega) (by omega)).1); omega
              have hld : 500000000 ≤ S89.2.1 234 mm := by have e := g_ge (c := cf (S89.2.1 234) 0) (m := (mm - 1).toNat) (t := S.2.1 kb (qo + mm)) (f := ff) (B := nu (S.2.1 kb) qo) (by rw [show (mm - 1).toNat + 1 = mm.toNat by omega]; exact hDe) (V_lt (fun i i0 i1 => hgr i i0 (by omega))) hnt (by omega); have e2 : cf (S89.2.1 234) 0 ((mm - 1).toNat : Int) = S89.2.1 234 mm := congrArg (S89.2.1 234) (by omega); rw [e2] at e; omega
              have hPm := pw_pos (mm - 2).toNat
              refine lv_iload hx hb dX12_longDivide_141 (lv_at hl 8 rfl) ?_
              refine lv_iload hx hb dX12_longDivide_143 (lv_at hl 9 rfl) ?_
              refine r_isub hx hb dX12_longDivide_145 ?_
              refine lv_iconst (v := iv 1) hx hb dX12_longDivide_146 (by decide) ?_
              refine r_iadd hx hb dX12_longDivide_147 ?_
              refine lv_istore (lv' := [(12, .int (iv ((n - mm) + 1))), (10, .long (jv cz)), (9, .int (iv ff)), (0, .ref (G.2.2.1 + 231)), (1, .ref (G.2.2.1 + ka)), (2, .int (iv po)), (3, .ref (G.2.2.1 + kb)), (4, .int (iv qo)), (5, .int (iv n)), (6, .int (iv mm)), (7, .ref (G.2.2.1 + kc)), (8, .int (iv ro))]) hx hb dX12_longDivide_148 hl (by decide) rfl (fun ls hl => ?_)
              have eL : ∀ t, S89.2.1 233 t = (uA S20 233 (n + 1) cy).2.1 233 t := fun t => (hL89_ 233 rfl).2.1 t
              have eC : ∀ t, S89.2.1 kc t = S.2.1 kc t := fun t => ((hL89_ kc (p1_no (neD nkc234))).2.1 t).trans ((uA_ne (fun h => absurd h.1 (neD nkc233))).trans ((hL20_ kc (p1_no (neD nkc233))).2.1 t))
              have hLe : V (cf (S89.2.1 233) 0) 0 (n + 1).toNat = ff * nu (S.2.1 ka) po := by rw [show V (cf (S89.2.1 233) 0) 0 (n + 1).toNat = V (cf ((uA S20 233 (n + 1) cy).2.1 233) 0) 0 (n + 1).toNat from V_cg (fun t _ _ => eL _), V_stp (by omega), cf_u (by omega), show V (cf ((uA S20 233 (n + 1) cy).2.1 233) 0) 0 n.toNat = V (cf (S20.2.1 233) 0) 0 n.toNat from V_cg (fun t t0 t1 => cf_v (by omega))]; exact hVA
              have hAlt : nu (S.2.1 ka) po < pw n.toNat := by rw [hnq.1]; exact hA.nul
              have hBge : pw (mm - 1).toNat ≤ nu (S.2.1 kb) qo := by rw [hnq.2.1]; exact hB.nug (by omega)
              have loop_150 : ∀ (fuel : Nat) (S150 : sS) (k : Int) (H : Heap) (locs : List Loc) (ls : Array Slot), k.toNat < fuel → (dX G S150) → (Fr S S150 (pl [233, 234, kc])) → (Fr S89 S150 (pl [233, kc])) → (0 ≤ k ∧ k ≤ n - mm + 1) → (ff * nu (S.2.1 ka) po = V (cf (S150.2.1 kc) ro) k (n - mm + 1 - k).toNat * (pw k.toNat * (ff * nu (S.2.1 kb) qo)) + V (cf (S150.2.1 233) 0) 0 (k + mm).toNat) → (V (cf (S150.2.1 233) 0) 0 (k + mm).toNat < pw k.toNat * (ff * nu (S.2.1 kb) qo)) → (∀ t, 0 ≤ t → t < n + 1 → 0 ≤ cf (S150.2.1 233) 0 t ∧ cf (S150.2.1 233) 0 t ≤ 999999999) → (∀ t, k ≤ t → t < n - mm + 1 → 0 ≤ cf (S150.2.1 kc) ro t ∧ cf (S150.2.1 kc) ro t ≤ 999999999) → (∀ j, j ≤ ro ∨ ro + (n - mm + 1) < j → S150.2.1 kc j = S.2.1 kc j) → sW G 294 S150 H → sL G locs → lv_has ls 26 [(12, .int (iv k)), (9, .int (iv ff)), (0, .ref (G.2.2.1 + 231)), (1, .ref (G.2.2.1 + ka)), (2, .int (iv po)), (3, .ref (G.2.2.1 + kb)), (4, .int (iv qo)), (5, .int (iv n)), (6, .int (iv mm)), (7, .ref (G.2.2.1 + kc)), (8, .int (iv ro))] → W p l e (rmk 2 0 0) s m args below meth c H locs 0 0 (MQ below (sQv G 294 (fun u => dX G u ∧ Fr S u (pl [233, 234, kc]) ∧ ((V (cf (u.2.1 kc) ro) 0 (n - mm + 1).toNat * ((1000000000 / (S.2.1 kb (qo + mm) + 1)) * nu (S.2.1 kb) qo) + V (cf (u.2.1 233) 0) 0 mm.toNat = (1000000000 / (S.2.1 kb (qo + mm) + 1)) * nu (S.2.1 ka) po) ∧ (V (cf (u.2.1 233) 0) 0 mm.toNat < (1000000000 / (S.2.1 kb (qo + mm) + 1)) * nu (S.2.1 kb) qo) ∧ (∀ t, 0 ≤ t → t < n - mm + 1 → 0 ≤ cf (u.2.1 kc) ro t ∧ cf (u.2.1 kc) ro t ≤ 999999999) ∧ (∀ t, 0 ≤ t → t < mm → 0 ≤ cf (u.2.1 233) 0 t ∧ cf (u.2.1 233) 0 t ≤ 999999999) ∧ ∀ j, j ≤ ro ∨ ro + (n - mm + 1) < j → u.2.1 kc j = S.2.1 kc j))) args s 0 0 (sF G)) (F0 m 150 ls []) := by
                intro fuel
                induction fuel with
                | zero => intro S150 k H locs ls hmeas hI150 hFm150 hL150_ hkk hE hlt hLr hQr hro hW hL hl; exact absurd hmeas (Nat.not_lt_zero _)
                | succ fuel ih_150 =>
                  intro S150 k H locs ls hmeas hI150 hFm150 hL150_ hkk hE hlt hLr hQr hro hW hL hl
                  refine lv_iload hx hb dX12_longDivide_150 (lv_at hl 0 rfl) ?_
                  refine r_if_le (tgt := 564) hx hb ⟨(by omega), (by omega)⟩ dX12_longDivide_152 (by decide) (fun c_7 => ?_) (fun c_7 => ?_)
                  · exact sVret Cx hr hlk hW hL ⟨hI150, hFm150, ⟨(by have e := hE; rw [show k = 0 by omega, hff] at e; rw [show n - mm + 1 - 0 = n - mm + 1 by omega, show (0 : Int) + mm = mm by omega] at e; rw [e]; show _ = _ * (1 * _) + _; rw [Int.one_mul]), (by have e := hlt; rw [show k = 0 by omega, show (0 : Int) + mm = mm by omega, hff] at e; have e2 : V (cf (S150.2.1 233) 0) 0 mm.toNat < 1 * (_ * _) := e; rw [Int.one_mul] at e2; exact e2), (fun t a b => hQr t (by omega) b), (fun t a b => hLr t a (by omega)), hro⟩⟩ dX12_longDivide_564
                  · have hL0 : 0 ≤ S150.2.1 233 (k + mm) ∧ S150.2.1 233 (k + mm) ≤ 999999999 := by have e := hLr (k + mm - 1) (by omega) (by omega); show 0 ≤ S150.2.1 233 (k + mm) ∧ _; have e2 : cf (S150.2.1 233) 0 (k + mm - 1) = S150.2.1 233 (k + mm) := congrArg (S150.2.1 233) (by omega); rw [e2] at e; exact e
                    have hL1 : 0 ≤ S150.2.1 233 (k + mm - 1) ∧ S150.2.1 233 (k + mm - 1) ≤ 999999999 := by have e := hLr (k + mm - 2) (by omega) (by omega); have e2 : cf (S150.2.1 233) 0 (k + mm - 2) = S150.2.1 233 (k + mm - 1) := congrArg (S150.2.1 233) (by omega); rw [e2] at e; exact e
                    have hL2 : 0 ≤ S150.2.1 233 (k + mm - 2) ∧ S150.2.1 233 (k + mm - 2) ≤ 999999999 := by have e := hLr (k + mm - 3) (by omega) (by omega); have e2 : cf (S150.2.1 233) 0 (k + mm - 3) = S150.2.1 233 (k + mm - 2) := congrArg (S150.2.1 233) (by omega); rw [e2] at e; exact e
                    have hU3 := V_top3 (f := cf (S150.2.1 233) 0) (s := k - 1) (w := mm) (by omega)
                    have eu0 : cf (S150.2.1 233) 0 (k - 1 + mm) = S150.2.1 233 (k + mm) := congrArg (S150.2.1 233) (by omega)
                    have eu1 : cf (S150.2.1 233) 0 (k - 1 + mm - 1) = S150.2.1 233 (k + mm - 1) := congrArg (S150.2.1 233) (by omega)
                    have eu2 : cf (S150.2.1 233) 0 (k - 1 + mm - 2) = S150.2.1 233 (k + mm - 2) := congrArg (S150.2.1 233) (by omega)
                    rw [eu0, eu1, eu2] at hU3
                    have hul : 0 ≤ V (cf (S150.2.1 233) 0) (k - 1) (mm - 2).toNat ∧ V (cf (S150.2.1 233) 0) (k - 1) (mm - 2).toNat < pw (mm - 2).toNat := ⟨V_0 (fun i i0 i1 => (hLr i (by omega) (by omega)).1), V_lt (fun i i0 i1 => hLr i (by omega) (by omega))⟩
                    have hUB : Hd (V (cf (S150.2.1 233) 0) (k - 1) (mm + 1).toNat < 1000000000 * V (cf (S89.2.1 234) 0) 0 mm.toNat) := ldU (by omega) (by omega) (fun j a b => (hLr j a (by omega)).1) (by rw [hDe]; exact hlt)
                    have hU0 : Hd (0 ≤ V (cf (S150.2.1 233) 0) (k - 1) (mm + 1).toNat) := V_0 (fun i i0 i1 => (hLr i (by omega) (by omega)).1)
                    refine lv_aload_n hx hb dX12_longDivide_155 rfl (lv_at hl 2 rfl) ?_
                    refine g_X12_13 Cx hW (k := 231) (by decide) rfl (v := .ref (G.2.2.1 + 233)) (rd_2 hI150) dX12_longDivide_156 ?_
                    refine lv_iload hx hb dX12_longDivide_159 (lv_at hl 0 rfl) ?_
                    refine lv_iload hx hb dX12_longDivide_161 (lv_at hl 8 rfl) ?_
                    refine r_iadd hx hb dX12_longDivide_163 ?_
                    refine rIald Cx hW (k := 233) (by decide) rfl (by decide) (by omega) (by omega) dX12_longDivide_164 ?_
                    have q_8 : (-2147483648) ≤ S150.2.1 233 (k + mm) ∧ S150.2.1 233 (k + mm) ≤ 2147483647 := hI150.ai 233 (k + mm)
                    refine r_i (b := S150.2.1 233 (k + mm)) rfl ?_
                    refine r_i2l hx hb ⟨(by omega), (by omega)⟩ dX12_longDivide_165 ?_
                    refine lv_ldc2 hx hb hown (hts _ w_2464) dX12_longDivide_166 ?_
                    refine r_lmul hx hb dX12_longDivide_169 ?_
                    refine lv_aload_n hx hb dX12_longDivide_170 rfl (lv_at hl 2 rfl) ?_
                    refine g_X12_13 Cx hW (k := 231) (by decide) rfl (v := .ref (G.2.2.1 + 233)) (rd_2 hI150) dX12_longDivide_171 ?_
                    refine lv_iload hx hb dX12_longDivide_174 (lv_at hl 0 rfl) ?_
                    refine lv_iload hx hb dX12_longDivide_176 (lv_at hl 8 rfl) ?_
                    refine r_iadd hx hb dX12_longDivide_178 ?_
                    refine lv_iconst (v := iv 1) hx hb dX12_longDivide_179 (by decide) ?_
                    refine r_isub hx hb dX12_longDivide_180 ?_
                    refine rIald Cx hW (k := 233) (by decide) rfl (by decide) (by omega) (by omega) dX12_longDivide_181 ?_
                    have q_9 : (-2147483648) ≤ S150.2.1 233 ((k + mm) - 1) ∧ S150.2.1 233 ((k + mm) - 1) ≤ 2147483647 := hI150.ai 233 ((k + mm) - 1)
                    refine r_i (b := S150.2.1 233 ((k + mm) - 1)) rfl ?_
                    refine r_i2l hx hb ⟨(by omega), (by omega)⟩ dX12_longDivide_182 ?_
                    refine r_ladd hx hb dX12_longDivide_183 ?_
                    obtain ⟨top, etop⟩ : ∃ z : Int, z = ((S150.2.1 233 (k + mm)) * 1000000000) + (S150.2.1 233 ((k + mm) - 1)) := ⟨_, rfl⟩
                    refine r_j (b := top) etop.symm ?_
                    refine lv_lstore (lv' := [(13, .long (jv top)), (12, .int (iv k)), (9, .int (iv ff)), (0, .ref (G.2.2.1 + 231)), (1, .ref (G.2.2.1 + ka)), (2, .int (iv po)), (3, .ref (G.2.2.1 + kb)), (4, .int (iv qo)), (5, .int (iv n)), (6, .int (iv mm)), (7, .ref (G.2.2.1 + kc)), (8, .int (iv ro))]) hx hb dX12_longDivide_184 hl (by decide) rfl (fun ls hl => ?_)
                    refine lv_lload hx hb dX12_longDivide_186 (lv_at hl 0 rfl) ?_
                    refine lv_aload_n hx hb dX12_longDivide_188 rfl (lv_at hl 3 rfl) ?_
                    refine g_X12_17 Cx hW (k := 231) (by decide) rfl (v := .ref (G.2.2.1 + 234)) (rd_3 hI150) dX12_longDivide_189 ?_
                    refine lv_iload hx hb dX12_longDivide_192 (lv_at hl 9 rfl) ?_
                    refine rIald Cx hW (k := 234) (by decide) rfl (by decide) (by omega) (by omega) dX12_longDivide_194 ?_
                    have q_10 : (-2147483648) ≤ S89.2.1 234 mm ∧ S89.2.1 234 mm ≤ 2147483647 := hI89.ai 234 mm
                    refine r_i (b := S89.2.1 234 mm) ((hL150_ 234 (pl_c (by decide) (pl_c (neS nkc234) rfl))).2.1 mm) ?_
                    refine r_i2l hx hb ⟨(by omega), (by omega)⟩ dX12_longDivide_195 ?_
                    refine r_ldiv hx hb ⟨(by omega), (by omega)⟩ ⟨(by omega), (by omega)⟩ (by omega) dX12_longDivide_196 ?_
                    obtain ⟨g0, eg0⟩ : ∃ z : Int, z = top.tdiv (S89.2.1 234 mm) := ⟨_, rfl⟩
                    have hg0 := divQ (a := top) (b := S89.2.1 234 mm) (by omega) (by omega)
                    rw [← eg0] at hg0
                    refine r_j (b := g0) eg0.symm ?_
                    clear eg0
                    have hg0b : g0 ≤ top := by have e : g0 * 1 ≤ g0 * S89.2.1 234 mm := Int.mul_le_mul_of_nonneg_left (by omega) hg0.1; omega
                    refine lv_ldc2 hx hb hown (hts _ w_2601) dX12_longDivide_197 ?_
                    refine r_minl hx hb (hml.trans hl.1.symm) hown (hts _ w_2602) (hts _ w_2603) (hts _ w_206) (hts _ w_2604) (rmk_f (by omega)) (rmk_l (by omega) (Nat.le_of_ble_eq_true rfl)) (Nat.le_of_ble_eq_true rfl) (Nat.le_of_ble_eq_true rfl) ⟨(by omega), (by omega)⟩ ⟨(by omega), (by omega)⟩ dX12_longDivide_200 (fun g1 hg1 => ?_)
                    refine lv_lstore (lv' := [(15, .long (jv g1)), (13, .long (jv top)), (12, .int (iv k)), (9, .int (iv ff)), (0, .ref (G.2.2.1 + 231)), (1, .ref (G.2.2.1 + ka)), (2, .int (iv po)), (3, .ref (G.2.2.1 + kb)), (4, .int (iv qo)), (5, .int (iv n)), (6, .int (iv mm)), (7, .ref (G.2.2.1 + kc)), (8, .int (iv ro))]) hx hb dX12_longDivide_203 hl (by decide) rfl (fun ls hl => ?_)
                    have join_303 : ∀ (gg : Int) (H : Heap) (locs : List Loc) (ls : Array Slot), (0 ≤ gg ∧ gg ≤ 999999999) → (Hd (V (cf (S150.2.1 233) 0) (k - 1) (mm + 1).toNat < (gg + 1) * V (cf (S89.2.1 234) 0) 0 mm.toNat)) → (Hd ((gg - 1) * V (cf (S89.2.1 234) 0) 0 mm.toNat ≤ V (cf (S150.2.1 233) 0) (k - 1) (mm + 1).toNat)) → sW G 294 S150 H → sL G locs → lv_has ls 26 [(15, .long (jv gg)), (13, .long (jv top)), (12, .int (iv k)), (9, .int (iv ff)), (0, .ref (G.2.2.1 + 231)), (1, .ref (G.2.2.1 + ka)), (2, .int (iv po)), (3, .ref (G.2.2.1 + kb)), (4, .int (iv qo)), (5, .int (iv n)), (6, .int (iv mm)), (7, .ref (G.2.2.1 + kc)), (8, .int (iv ro))] → W p l e (rmk 2 0 0) s m args below meth c H locs 0 0 (MQ below (sQv G 294 (fun u => dX G u ∧ Fr S u (pl [233, 234, kc]) ∧ ((V (cf (u.2.1 kc) ro) 0 (n - mm + 1).toNat * ((1000000000 / (S.2.1 kb (qo + mm) + 1)) * nu (S.2.1 kb) qo) + V (cf (u.2.1 233) 0) 0 mm.toNat = (1000000000 / (S.2.1 kb (qo + mm) + 1)) * nu (S.2.1 ka) po) ∧ (V (cf (u.2.1 233) 0) 0 mm.toNat < (1000000000 / (S.2.1 kb (qo + mm) + 1)) * nu (S.2.1 kb) qo) ∧ (∀ t, 0 ≤ t → t < n - mm + 1 → 0 ≤ cf (u.2.1 kc) ro t ∧ cf (u.2.1 kc) ro t ≤ 999999999) ∧ (∀ t, 0 ≤ t → t < mm → 0 ≤ cf (u.2.1 233) 0 t ∧ cf (u.2.1 233) 0 t ≤ 999999999) ∧ ∀ j, j ≤ ro ∨ ro + (n - mm + 1) < j → u.2.1 kc j = S.2.1 kc j))) args s 0 0 (sF G)) (F0 m 303 ls []) := by
                      intro gg H locs ls hgg hlo2 hup hW hL hl
                      refine lv_lconst (v := jv 0) hx hb dX12_longDivide_303 (by decide) ?_
                      refine lv_lstore (lv' := [(19, .long (jv 0)), (15, .long (jv gg)), (13, .long (jv top)), (12, .int (iv k)), (9, .int (iv ff)), (0, .ref (G.2.2.1 + 231)), (1, .ref (G.2.2.1 + ka)), (2, .int (iv po)), (3, .ref (G.2.2.1 + kb)), (4, .int (iv qo)), (5, .int (iv n)), (6, .int (iv mm)), (7, .ref (G.2.2.1 + kc)), (8, .int (iv ro))]) hx hb dX12_longDivide_304 hl (by decide) rfl (fun ls hl => ?_)
                      refine lv_iconst (v := iv 1) hx hb dX12_longDivide_306 (by decide) ?_
                      refine lv_istore (lv' := [(21, .int (iv 1)), (19, .long (jv 0)), (15, .long (jv gg)), (13, .long (jv top)), (12, .int (iv k)), (9, .int (iv ff)), (0, .ref (G.2.2.1 + 231)), (1, .ref (G.2.2.1 + ka)), (2, .int (iv po)), (3, .ref (G.2.2.1 + kb)), (4, .int (iv qo)), (5, .int (iv n)), (6, .int (iv mm)), (7, .ref (G.2.2.1 + kc)), (8, .int (iv ro))]) hx hb dX12_longDivide_307 hl (by decide) rfl (fun ls hl => ?_)
                      have loop_309 : ∀ (fuel : Nat) (S309 : sS) (j : Int) (tk : Int) (H : Heap) (locs : List Loc) (ls : Array Slot), (mm + 1 - j).toNat < fuel → (dX G S309) → (Fr S S309 (pl [233, 234, kc])) → (Fr S89 S309 (pl [233, kc])) → (Fr S150 S309 (p1 233)) → (1 ≤ j ∧ j ≤ mm + 1) → (0 ≤ tk ∧ tk ≤ 1000000000) → (V (cf (S309.2.1 233) 0) (k - 1) (j - 1).toNat - tk * pw (j - 1).toNat = V (cf (S150.2.1 233) 0) (k - 1) (j - 1).toNat - gg * V (cf (S89.2.1 234) 0) 0 (j - 1).toNat) → (∀ t, t < k - 1 ∨ k - 1 + (j - 1) ≤ t → cf (S309.2.1 233) 0 t = cf (S150.2.1 233) 0 t) → (∀ t, 0 ≤ t → t < n + 1 → 0 ≤ cf (S309.2.1 233) 0 t ∧ cf (S309.2.1 233) 0 t ≤ 999999999) → sW G 294 S309 H → sL G locs → lv_has ls 26 [(21, .int (iv j)), (19, .long (jv tk)), (15, .long (jv gg)), (13, .long (jv top)), (12, .int (iv k)), (9, .int (iv ff)), (0, .ref (G.2.2.1 + 231)), (1, .ref (G.2.2.1 + ka)), (2, .int (iv po)), (3, .ref (G.2.2.1 + kb)), (4, .int (iv qo)), (5, .int (iv n)), (6, .int (iv mm)), (7, .ref (G.2.2.1 + kc)), (8, .int (iv ro))] → W p l e (rmk 2 0 0) s m args below meth c H locs 0 0 (MQ below (sQv G 294 (fun u => dX G u ∧ Fr S u (pl [233, 234, kc]) ∧ ((V (cf (u.2.1 kc) ro) 0 (n - mm + 1).toNat * ((1000000000 / (S.2.1 kb (qo + mm) + 1)) * nu (S.2.1 kb) qo) + V (cf (u.2.1 233) 0) 0 mm.toNat = (1000000000 / (S.2.1 kb (qo + mm) + 1)) * nu (S.2.1 ka) po) ∧ (V (cf (u.2.1 233) 0) 0 mm.toNat < (1000000000 / (S.2.1 kb (qo + mm) + 1)) * nu (S.2.1 kb) qo) ∧ (∀ t, 0 ≤ t → t < n - mm + 1 → 0 ≤ cf (u.2.1 kc) ro t ∧ cf (u.2.1 kc) ro t ≤ 999999999) ∧ (∀ t, 0 ≤ t → t < mm → 0 ≤ cf (u.2.1 233) 0 t ∧ cf (u.2.1 233) 0 t ≤ 999999999) ∧ ∀ j, j ≤ ro ∨ ro + (n - mm + 1) < j → u.2.1 kc j = S.2.1 kc j))) args s 0 0 (sF G)) (F0 m 309 ls []) := by
                        intro fuel
                        induction fuel with
                        | zero => intro S309 j tk H locs ls hmeas hI309 hFm309 hFL150309 hL309_ hj htk hS hun hLr2 hW hL hl; exact absurd hmeas (Nat.not_lt_zero _)
                        | succ fuel ih_309 =>
                          intro S309 j tk H locs ls hmeas hI309 hFm309 hFL150309 hL309_ hj htk hS hun hLr2 hW hL hl
                          refine lv_iload hx hb dX12_longDivide_309 (lv_at hl 0 rfl) ?_
                          refine lv_iload hx hb dX12_longDivide_311 (lv_at hl 12 rfl) ?_
                          refine r_icmp_gt (tgt := 403) hx hb ⟨(by omega), (by omega)⟩ ⟨(by omega), (by omega)⟩ dX12_longDivide_313 (by decide) (fun c_11 => ?_) (fun c_11 => ?_)
                          · have eut : S309.2.1 233 (k + mm) = S150.2.1 233 (k + mm) := by have e := hun (k - 1 + mm) (by omega); have e2 : cf (S309.2.1 233) 0 (k - 1 + mm) = S309.2.1 233 (k + mm) := congrArg (S309.2.1 233) (by omega); rw [e2, eu0] at e; exact e
                            have heq : V (cf (S150.2.1 233) 0) (k - 1) (mm + 1).toNat - gg * V (cf (S89.2.1 234) 0) 0 mm.toNat = V (cf (S309.2.1 233) 0) (k - 1) mm.toNat + (S309.2.1 233 (k + mm) - tk) * pw mm.toNat := by have e := hS; rw [show j - 1 = mm by omega] at e; have e2 := V_stp (f := cf (S150.2.1 233) 0) (s := k - 1) (i := mm) (by omega); rw [eu0] at e2; rw [e2, eut]; have e3 : (S150.2.1 233 (k + mm) - tk) * pw mm.toNat = S150.2.1 233 (k + mm) * pw mm.toNat - tk * pw mm.toNat := (by grind); omega
                            have hR0 : 0 ≤ V (cf (S309.2.1 233) 0) (k - 1) mm.toNat ∧ V (cf (S309.2.1 233) 0) (k - 1) mm.toNat < pw mm.toNat := ⟨V_0 (fun i i0 i1 => (hLr2 i (by omega) (by omega)).1), V_lt (fun i i0 i1 => hLr2 i (by omega) (by omega))⟩
                            have hDP : V (cf (S89.2.1 234) 0) 0 mm.toNat < pw mm.toNat := V_lt (fun i i0 i1 => hgr i (by omega) (by omega))
                            have hke := kn_end (U := V (cf (S150.2.1 233) 0) (k - 1) (mm + 1).toNat) (V := V (cf (S89.2.1 234) 0) 0 mm.toNat) (P := pw mm.toNat) (g := gg) (R := V (cf (S309.2.1 233) 0) (k - 1) mm.toNat) (top := S309.2.1 233 (k + mm) - tk) (pw_pos _) hR0.1 hR0.2 (by omega) heq hlo2 hup
                            have hke1 := hke.1
                            have hke2 := hke.2
                            have heq2 : Hd (V (cf (S150.2.1 233) 0) (k - 1) (mm + 1).toNat - gg * V (cf (S89.2.1 234) 0) 0 mm.toNat = V (cf (S309.2.1 233) 0) (k - 1) mm.toNat + (S309.2.1 233 (k + mm) - tk) * pw mm.toNat) := heq
                            clear hke heq
                            refine lv_aload_n hx hb dX12_longDivide_403 rfl (lv_at hl 6 rfl) ?_
                            refine g_X12_13 Cx hW (k := 231) (by decide) rfl (v := .ref (G.2.2.1 + 233)) (rd_2 hI309) dX12_longDivide_404 ?_
                            refine lv_iload hx hb dX12_longDivide_407 (lv_at hl 4 rfl) ?_
                            refine lv_iload hx hb dX12_longDivide_409 (lv_at hl 12 rfl) ?_
                            refine r_iadd hx hb dX12_longDivide_411 ?_
                            refine rIald Cx hW (k := 233) (by decide) rfl (by decide) (by omega) (by omega) dX12_longDivide_412 ?_
                            have q_12 : (-2147483648) ≤ S309.2.1 233 (k + mm) ∧ S309.2.1 233 (k + mm) ≤ 2147483647 := hI309.ai 233 (k + mm)
                            refine r_i (b := S309.2.1 233 (k + mm)) rfl ?_
                            refine r_i2l hx hb ⟨(by omega), (by omega)⟩ dX12_longDivide_413 ?_
                            refine lv_lload hx hb dX12_longDivide_414 (lv_at hl 1 rfl) ?_
                            refine r_lsub hx hb dX12_longDivide_416 ?_
                            refine lv_lstore (lv' := [(21, .long (jv ((S309.2.1 233 (k + mm)) - tk))), (19, .long (jv tk)), (15, .long (jv gg)), (13, .long (jv top)), (12, .int (iv k)), (9, .int (iv ff)), (0, .ref (G.2.2.1 + 231)), (1, .ref (G.2.2.1 + ka)), (2, .int (iv po)), (3, .ref (G.2.2.1 + kb)), (4, .int (iv qo)), (5, .int (iv n)), (6, .int (iv mm)), (7, .ref (G.2.2.1 + kc)), (8, .int (iv ro))]) hx hb dX12_longDivide_417 hl (by decide) rfl (fun ls hl => ?_)
                            refine lv_aload_n hx hb dX12_longDivide_419 rfl (lv_at hl 6 rfl) ?_
                            refine g_X12_13 Cx hW (k := 231) (by decide) rfl (v := .ref (G.2.2.1 + 233)) (rd_2 hI309) dX12_longDivide_420 ?_
                            refine lv_iload hx hb dX12_longDivide_423 (lv_at hl 4 rfl) ?_
                            refine lv_iload hx hb dX12_longDivide_425 (lv_at hl 12 rfl) ?_
                            refine r_iadd hx hb dX12_longDivide_427 ?_
                            refine lv_lload hx hb dX12_longDivide_428 (lv_at hl 0 rfl) ?_
                            refine r_l2i hx hb dX12_longDivide_430 ?_
                            refine rIast Cx hW hL (k := 233) (by decide) rfl (by decide) (by omega) (by omega) dX12_longDivide_431 (fun H locs hW hL => ?_)
                            have F_13 : Fr S (uA S309 233 (k + mm) ((S309.2.1 233 (k + mm)) - tk)) (pl [233, 234, kc]) := hFm309.A pl_h
                            have F_14 : Fr S89 (uA S309 233 (k + mm) ((S309.2.1 233 (k + mm)) - tk)) (pl [233, kc]) := hFL150309.A pl_h
                            have F_15 : Fr S150 (uA S309 233 (k + mm) ((S309.2.1 233 (k + mm)) - tk)) (p1 233) := hL309_.A rfl
                            have i_16 : dX G (uA S309 233 (k + mm) ((S309.2.1 233 (k + mm)) - tk)) := hI309.A (k := 233) (show (-2147483648) ≤ (S309.2.1 233 (k + mm)) - tk ∧ (S309.2.1 233 (k + mm)) - tk ≤ 2147483647 from ⟨by omega, by omega⟩)
                            have join_547 : ∀ (S547 : sS) (qd : Int) (H : Heap) (locs : List Loc) (ls : Array Slot), (dX G S547) → (Fr S S547 (pl [233, 234, kc])) → (Fr S89 S547 (pl [233, kc])) → (Fr S150 S547 (p1 233)) → (Fr ((uA S309 233 (k + mm) ((S309.2.1 233 (k + mm)) - tk))) S547 (p1 233)) → (0 ≤ qd ∧ qd ≤ 999999999) → (Hd (V (cf (S150.2.1 233) 0) (k - 1) (mm + 1).toNat = qd * V (cf (S89.2.1 234) 0) 0 mm.toNat + V (cf (S547.2.1 233) 0) (k - 1) mm.toNat)) → (Hd (V (cf (S547.2.1 233) 0) (k - 1) mm.toNat < V (cf (S89.2.1 234) 0) 0 mm.toNat)) → (∀ t, 0 ≤ t → t < n + 1 → 0 ≤ cf (S547.2.1 233) 0 t ∧ cf (S547.2.1 233) 0 t ≤ 999999999) → (∀ t, t < k - 1 → cf (S547.2.1 233) 0 t = cf (S150.2.1 233) 0 t) → (∀ t, S547.2.1 kc t = S150.2.1 kc t) → sW G 294 S547 H → sL G locs → lv_has ls 26 [(15, .long (jv qd)), (12, .int (iv k)), (9, .int (iv ff)), (0, .ref (G.2.2.1 + 231)), (1, .ref (G.2.2.1 + ka)), (2, .int (iv po)), (3, .ref (G.2.2.1 + kb)), (4, .int (iv qo)), (5, .int (iv n)), (6, .int (iv mm)), (7, .ref (G.2.2.1 + kc)), (8, .int (iv ro))] → W p l e (rmk 2 0 0) s m args below meth c H locs 0 0 (MQ below (sQv G 294 (fun u => dX G u ∧ Fr S u (pl [233, 234, kc]) ∧ ((V (cf (u.2.1 kc) ro) 0 (n - mm + 1).toNat * ((1000000000 / (S.2.1 kb (qo + mm) + 1)) * nu (S.2.1 kb) qo) + V (cf (u.2.1 233) 0) 0 mm.toNat = (1000000000 / (S.2.1 kb (qo + mm) + 1)) * nu (S.2.1 ka) po) ∧ (V (cf (u.2.1 233) 0) 0 mm.toNat < (1000000000 / (S.2.1 kb (qo + mm) + 1)) * nu (S.2.1 kb) qo) ∧ (∀ t, 0 ≤ t → t < n - mm + 1 → 0 ≤ cf (u.2.1 kc) ro t ∧ cf (u.2.1 kc) ro t ≤ 999999999) ∧ (∀ t, 0 ≤ t → t < mm → 0 ≤ cf (u.2.1 233) 0 t ∧ cf (u.2.1 233) 0 t ≤ 999999999) ∧ ∀ j, j ≤ ro ∨ ro + (n - mm + 1) < j → u.2.1 kc j = S.2.1 kc j))) args s 0 0 (sF G)) (F0 m 547 ls []) := by
                              intro S547 qd H locs ls hI547 hFm547 hFL150547 hFL309547 hL547_ hqd hF1 hF2 hLr3 hun3 eKc hW hL hl
                              refine lv_aload hx hb dX12_longDivide_547 (lv_at hl 10 rfl) ?_
                              refine lv_iload hx hb dX12_longDivide_549 (lv_at hl 11 rfl) ?_
                              refine lv_iload hx hb dX12_longDivide_551 (lv_at hl 1 rfl) ?_
                              refine r_iadd hx hb dX12_longDivide_553 ?_
                              refine lv_lload hx hb dX12_longDivide_554 (lv_at hl 0 rfl) ?_
                              refine r_l2i hx hb dX12_longDivide_556 ?_
                              refine rIast Cx hW hL (k := kc) hikc.lt hikc.1 (by omega) (by omega) (by omega) dX12_longDivide_557 (fun H locs hW hL => ?_)
                              have F_17 : Fr S (uA S547 kc (ro + k) qd) (pl [233, 234, kc]) := hFm547.A (pl_t (pl_t pl_h))
                              have F_18 : Fr S89 (uA S547 kc (ro + k) qd) (pl [233, kc]) := hFL150547.A (pl_t pl_h)
                              have i_19 : dX G (uA S547 kc (ro + k) qd) := hI547.Aj hikc ⟨by omega, by omega⟩
                              have hst2 := ldStep (L := cf (S150.2.1 233) 0) (L' := cf ((uA S547 kc (ro + k) qd).2.1 233) 0) (c := cf (S150.2.1 kc) ro) (c' := cf ((uA S547 kc (ro + k) qd).2.1 kc) ro) (k := k) (m := mm) (q := qd) (D := ff * nu (S.2.1 kb) qo) (FA := ff * nu (S.2.1 ka) po) (N := n - mm + 1) (by omega) (by omega) hE (by rw [← hDe, show V (cf ((uA S547 kc (ro + k) qd).2.1 233) 0) (k - 1) mm.toNat = V (cf (S547.2.1 233) 0) (k - 1) mm.toNat from V_cg (fun t _ _ => uA_ne (fun q => absurd q.1 (neS nkc233)))]; exact hF1) (fun t a b => (uA_ne (fun q => absurd q.1 (neS nkc233))).trans (hun3 t b)) (fun t a b => hLr t a (by omega)) (by rw [← hDe, show V (cf ((uA S547 kc (ro + k) qd).2.1 233) 0) (k - 1) mm.toNat = V (cf (S547.2.1 233) 0) (k - 1) mm.toNat from V_cg (fun t _ _ => uA_ne (fun q => absurd q.1 (neS nkc233)))]; exact hF2) (fun t a => (cf_v (by omega)).trans (eKc _)) (cf_u (by omega))
                              refine lv_iinc (v := iv (k + (-1))) (lv' := [(12, .int (iv (k + (-1)))), (15, .long (jv qd)), (9, .int (iv ff)), (0, .ref (G.2.2.1 + 231)), (1, .ref (G.2.2.1 + ka)), (2, .int (iv po)), (3, .ref (G.2.2.1 + kb)), (4, .int (iv qo)), (5, .int (iv n)), (6, .int (iv mm)), (7, .ref (G.2.2.1 + kc)), (8, .int (iv ro))]) hx hb dX12_longDivide_558 hl (k := 1) rfl ((Int32.ofInt_add _ _).symm) (by decide) rfl (fun ls hl => ?_)
                              refine lv_goto (tgt := 150) hx hb dX12_longDivide_561 (by decide) ?_
                              exact ih_150 (uA S547 kc (ro + k) qd) (k + (-1)) _ _ _ (by omega) i_19 F_17 F_18 (by omega) (hst2.1) (hst2.2) (fun t a b => by rw [show cf (((uA S547 kc (ro + k) qd)).2.1 233) 0 t = cf (S547.2.1 233) 0 t from uA_ne (fun q => absurd q.1 (neS nkc233))]; exact hLr3 t a b) (fun t a b => if e : t = k - 1 then (by rw [cf_u (by omega)]; omega) else (by rw [cf_v (by omega)]; have e2 := hQr t (by omega) b; rw [show cf (S547.2.1 kc) ro t = cf (S150.2.1 kc) ro t from eKc _]; exact e2)) (fun j a => by rw [uA_ne (fun q => by have := q.2; omega), eKc]; exact hro j (by omega)) hW hL (lv_sub hl [0, 2, 3, 4, 5, 6, 7, 8, 9, 10, 11] rfl)
                            refine lv_lload hx hb dX12_longDivide_432 (lv_at hl 0 rfl) ?_
                            refine lv_lconst (v := jv 0) hx hb dX12_longDivide_434 (by decide) ?_
                            refine r_lcmp hx hb ⟨(by omega), (by omega)⟩ ⟨(by omega), (by omega)⟩ dX12_longDivide_435 (fun z_20 az_20 bz_20 cz_20 => ?_)
                            refine r_if_ge (tgt := 547) hx hb ⟨(by omega), (by omega)⟩ dX12_longDivide_436 (by decide) (fun c_21 => ?_) (fun c_21 => ?_)
                            · exact join_547 (uA S309 233 (k + mm) ((S309.2.1 233 (k + mm)) - tk)) gg _ _ _ i_16 F_13 F_14 F_15 (Fr.rf : Fr (uA S309 233 (k + mm) ((S309.2.1 233 (k + mm)) - tk)) (uA S309 233 (k + mm) ((S309.2.1 233 (k + mm)) - tk)) (p1 233)) (by omega) (by unfold Hd; have e : V (cf ((uA S309 233 (k + mm) ((S309.2.1 233 (k + mm)) - tk)).2.1 233) 0) (k - 1) mm.toNat = V (cf (S309.2.1 233) 0) (k - 1) mm.toNat := V_cg (fun t t0 t1 => cf_v (by omega)); rw [e]; have e3 := hke1 (by omega); have e4 := heq2; unfold Hd at e4; rw [e3.1] at e4; omega) (by unfold Hd; have e : V (cf ((uA S309 233 (k + mm) ((S309.2.1 233 (k + mm)) - tk)).2.1 233) 0) (k - 1) mm.toNat = V (cf (S309.2.1 233) 0) (k - 1) mm.toNat := V_cg (fun t t0 t1 => cf_v (by omega)); rw [e]; have e3 := hke1 (by omega); omega) (fun t a b => if e : t = k - 1 + mm then (by rw [cf_u (by omega)]; have e3 := hke1 (by omega); omega) else (by rw [cf_v (by omega)]; exact hLr2 t a b)) (fun t a => by rw [cf_v (by omega)]; exact hun t (by omega)) (fun t => (uA_ne (fun h => absurd h.1 (neD nkc233))).trans ((hL309_ kc (p1_no (neD nkc233))).2.1 t)) hW hL (lv_sub hl [2, 4, 5, 6, 7, 8, 9, 10, 11, 12, 13, 14] rfl)
                            · have hgg1 : 1 ≤ gg := by by_cases z : gg = 0; (exfalso; have e := (hke2 (by omega)).2.2.2; rw [z] at e; have e2 : 0 ≤ V (cf (S150.2.1 233) 0) (k - 1) (mm + 1).toNat := hU0; omega); omega
                              refine lv_lload hx hb dX12_longDivide_439 (lv_at hl 2 rfl) ?_
                              refine lv_lconst (v := jv 1) hx hb dX12_longDivide_441 (by decide) ?_
                              refine r_lsub hx hb dX12_longDivide_442 ?_
                              refine lv_lstore (lv' := [(15, .long (jv (gg - 1))), (21, .long (jv ((S309.2.1 233 (k + mm)) - tk))), (19, .long (jv tk)), (13, .long (jv top)), (12, .int (iv k)), (9, .int (iv ff)), (0, .ref (G.2.2.1 + 231)), (1, .ref (G.2.2.1 + ka)), (2, .int (iv po)), (3, .ref (G.2.2.1 + kb)), (4, .int (iv qo)), (5, .int (iv n)), (6, .int (iv mm)), (7, .ref (G.2.2.1 + kc)), (8, .int (iv ro))]) hx hb dX12_longDivide_443 hl (by decide) rfl (fun ls hl => ?_)
                              refine lv_iconst (v := iv 0) hx hb dX12_longDivide_445 (by decide) ?_
                              refine lv_istore (lv' := [(23, .int (iv 0)), (15, .long (jv (gg - 1))), (21, .long (jv ((S309.2.1 233 (k + mm)) - tk))), (19, .long (jv tk)), (13, .long (jv top)), (12, .int (iv k)), (9, .int (iv ff)), (0, .ref (G.2.2.1 + 231)), (1, .ref (G.2.2.1 + ka)), (2, .int (iv po)), (3, .ref (G.2.2.1 + kb)), (4, .int (iv qo)), (5, .int (iv n)), (6, .int (iv mm)), (7, .ref (G.2.2.1 + kc)), (8, .int (iv ro))]) hx hb dX12_longDivide_446 hl (by decide) rfl (fun ls hl => ?_)
                              refine lv_iconst (v := iv 1) hx hb dX12_longDivide_448 (by decide) ?_
                              refine lv_istore (lv' := [(24, .int (iv 1)), (23, .int (iv 0)), (15, .long (jv (gg - 1))), (21, .long (jv ((S309.2.1 233 (k + mm)) - tk))), (19, .long (jv tk)), (13, .long (jv top)), (12, .int (iv k)), (9, .int (iv ff)), (0, .ref (G.2.2.1 + 231)), (1, .ref (G.2.2.1 + ka)), (2, .int (iv po)), (3, .ref (G.2.2.1 + kb)), (4, .int (iv qo)), (5, .int (iv n)), (6, .int (iv mm)), (7, .ref (G.2.2.1 + kc)), (8, .int (iv ro))]) hx hb dX12_longDivide_449 hl (by decide) rfl (fun ls hl => ?_)
                              have loop_451 : ∀ (fuel : Nat) (S451 : sS) (j2 : Int) (ov : Int) (H : Heap) (locs : List Loc) (ls : Array Slot), (mm + 1 - j2).toNat < fuel → (dX G S451) → (Fr S S451 (pl [233, 234, kc])) → (Fr S89 S451 (pl [233, kc])) → (Fr S150 S451 (p1 233)) → (Fr ((uA S309 233 (k + mm) ((S309.2.1 233 (k + mm)) - tk))) S451 (p1 233)) → (Fr ((uA S309 233 (k + mm) ((S309.2.1 233 (k + mm)) - tk))) S451 (p1 233)) → (1 ≤ j2 ∧ j2 ≤ mm + 1) → (0 ≤ ov ∧ ov ≤ 1) → (V (cf (S451.2.1 233) 0) (k - 1) (j2 - 1).toNat + ov * pw (j2 - 1).toNat = V (cf (S309.2.1 233) 0) (k - 1) (j2 - 1).toNat + V (cf (S89.2.1 234) 0) 0 (j2 - 1).toNat) → (∀ t, k - 1 + (j2 - 1) ≤ t → t < k - 1 + mm → cf (S451.2.1 233) 0 t = cf (S309.2.1 233) 0 t) → (∀ t, t < k - 1 → cf (S451.2.1 233) 0 t = cf (S150.2.1 233) 0 t) → (S451.2.1 233 (k + mm) = -1) → (∀ t, 0 ≤ t → t < n + 1 → t ≠ k - 1 + mm → 0 ≤ cf (S451.2.1 233) 0 t ∧ cf (S451.2.1 233) 0 t ≤ 999999999) → sW G 294 S451 H → sL G locs → lv_has ls 26 [(24, .int (iv j2)), (23, .int (iv ov)), (15, .long (jv (gg - 1))), (21, .long (jv ((S309.2.1 233 (k + mm)) - tk))), (19, .long (jv tk)), (13, .long (jv top)), (12, .int (iv k)), (9, .int (iv ff)), (0, .ref (G.2.2.1 + 231)), (1, .ref (G.2.2.1 + ka)), (2, .int (iv po)), (3, .ref (G.2.2.1 + kb)), (4, .int (iv qo)), (5, .int (iv n)), (6, .int (iv mm)), (7, .ref (G.2.2.1 + kc)), (8, .int (iv ro))] → W p l e (rmk 2 0 0) s m args below meth c H locs 0 0 (MQ below (sQv G 294 (fun u => dX G u ∧ Fr S u (pl [233, 234, kc]) ∧ ((V (cf (u.2.1 kc) ro) 0 (n - mm + 1).toNat * ((1000000000 / (S.2.1 kb (qo + mm) + 1)) * nu (S.2.1 kb) qo) + V (cf (u.2.1 233) 0) 0 mm.toNat = (1000000000 / (S.2.1 kb (qo + mm) + 1)) * nu (S.2.1 ka) po) ∧ (V (cf (u.2.1 233) 0) 0 mm.toNat < (1000000000 / (S.2.1 kb (qo + mm) + 1)) * nu (S.2.1 kb) qo) ∧ (∀ t, 0 ≤ t → t < n - mm + 1 → 0 ≤ cf (u.2.1 kc) ro t ∧ cf (u.2.1 kc) ro t ≤ 999999999) ∧ (∀ t, 0 ≤ t → t < mm → 0 ≤ cf (u.2.1 233) 0 t ∧ cf (u.2.1 233) 0 t ≤ 999999999) ∧ ∀ j, j ≤ ro ∨ ro + (n - mm + 1) < j → u.2.1 kc j = S.2.1 kc j))) args s 0 0 (sF G)) (F0 m 451 ls []) := by
                                intro fuel
                                induction fuel with
                                | zero => intro S451 j2 ov H locs ls hmeas hI451 hFm451 hFL150451 hFL309451 hFL547451 hL451_ hj2 hov hAb hun4 hun5 htopv hLr4 hW hL hl; exact absurd hmeas (Nat.not_lt_zero _)
                                | succ fuel ih_451 =>
                                  intro S451 j2 ov H locs ls hmeas hI451 hFm451 hFL150451 hFL309451 hFL547451 hL451_ hj2 hov hAb hun4 hun5 htopv hLr4 hW hL hl
                                  refine lv_iload hx hb dX12_longDivide_451 (lv_at hl 0 rfl) ?_
                                  refine lv_iload hx hb dX12_longDivide_453 (lv_at hl 14 rfl) ?_
                                  refine r_icmp_gt (tgt := 532) hx hb ⟨(by omega), (by omega)⟩ ⟨(by omega), (by omega)⟩ dX12_longDivide_455 (by decide) (fun c_22 => ?_) (fun c_22 => ?_)
                                  · have hov1 : ov = 1 := by have e2 := hAb; rw [show j2 - 1 = mm by omega] at e2; have e3 := hke2 (by omega); have lt : V (cf (S451.2.1 233) 0) (k - 1) mm.toNat < pw mm.toNat := V_lt (fun i i0 i1 => hLr4 i (by omega) (by omega) (by omega)); rcases (by omega : ov = 0 ∨ ov = 1) with z | z; (rw [z] at e2; omega); exact z
                                    refine lv_aload_n hx hb dX12_longDivide_532 rfl (lv_at hl 8 rfl) ?_
                                    refine g_X12_13 Cx hW (k := 231) (by decide) rfl (v := .ref (G.2.2.1 + 233)) (rd_2 hI451) dX12_longDivide_533 ?_
                                    refine lv_iload hx hb dX12_longDivide_536 (lv_at hl 6 rfl) ?_
                                    refine lv_iload hx hb dX12_longDivide_538 (lv_at hl 14 rfl) ?_
                                    refine r_iadd hx hb dX12_longDivide_540 ?_
                                    refine lv_dup2_11 hx hb dX12_longDivide_541 rfl rfl ?_
                                    refine rIald Cx hW (k := 233) (by decide) rfl (by decide) (by omega) (by omega) dX12_longDivide_542 ?_
                                    have q_23 : (-2147483648) ≤ S451.2.1 233 (k + mm) ∧ S451.2.1 233 (k + mm) ≤ 2147483647 := hI451.ai 233 (k + mm)
                                    refine r_i (b := S451.2.1 233 (k + mm)) rfl ?_
                                    refine lv_iload hx hb dX12_longDivide_543 (lv_at hl 1 rfl) ?_
                                    refine r_iadd hx hb dX12_longDivide_545 ?_
                                    refine rIast Cx hW hL (k := 233) (by decide) rfl (by decide) (by omega) (by omega) dX12_longDivide_546 (fun H locs hW hL => ?_)
                                    have F_24 : Fr S (uA S451 233 (k + mm) ((S451.2.1 233 (k + mm)) + ov)) (pl [233, 234, kc]) := hFm451.A pl_h
                                    have F_25 : Fr S89 (uA S451 233 (k + mm) ((S451.2.1 233 (k + mm)) + ov)) (pl [233, kc]) := hFL150451.A pl_h
                                    have F_26 : Fr S150 (uA S451 233 (k + mm) ((S451.2.1 233 (k + mm)) + ov)) (p1 233) := hFL309451.A rfl
                                    have F_27 : Fr ((uA S309 233 (k + mm) ((S309.2.1 233 (k + mm)) - tk))) (uA S451 233 (k + mm) ((S451.2.1 233 (k + mm)) + ov)) (p1 233) := hFL547451.A rfl
                                    have F_28 : Fr ((uA S309 233 (k + mm) ((S309.2.1 233 (k + mm)) - tk))) (uA S451 233 (k + mm) ((S451.2.1 233 (k + mm)) + ov)) (p1 233) := hL451_.A rfl
                                    have i_29 : dX G (uA S451 233 (k + mm) ((S451.2.1 233 (k + mm)) + ov)) := hI451.A (k := 233) (show (-2147483648) ≤ (S451.2.1 233 (k + mm)) + ov ∧ (S451.2.1 233 (k + mm)) + ov ≤ 2147483647 from ⟨by omega, by omega⟩)
                                    exact join_547 (uA S451 233 (k + mm) ((S451.2.1 233 (k + mm)) + ov)) (gg - 1) _ _ _ i_29 F_24 F_25 F_26 F_27 (by omega) (by unfold Hd; have e : V (cf ((uA S451 233 (k + mm) ((S451.2.1 233 (k + mm)) + ov)).2.1 233) 0) (k - 1) mm.toNat = V (cf (S451.2.1 233) 0) (k - 1) mm.toNat := V_cg (fun t t0 t1 => cf_v (by omega)); rw [e]; have e2 := hAb; rw [show j2 - 1 = mm by omega] at e2; have e3 := hke2 (by omega); have lt : V (cf (S451.2.1 233) 0) (k - 1) mm.toNat < pw mm.toNat := V_lt (fun i i0 i1 => hLr4 i (by omega) (by omega) (by omega)); have lt0 : 0 ≤ V (cf (S451.2.1 233) 0) (k - 1) mm.toNat := V_0 (fun i i0 i1 => (hLr4 i (by omega) (by omega) (by omega)).1); have e7 : ov = 1 := (by rcases (by omega : ov = 0 ∨ ov = 1) with z | z; (rw [z] at e2; omega); exact z); rw [e7] at e2; have e4 := heq2; unfold Hd at e4; rw [e3.1] at e4; have e6 : (gg - 1) * V (cf (S89.2.1 234) 0) 0 mm.toNat = gg * V (cf (S89.2.1 234) 0) 0 mm.toNat - V (cf (S89.2.1 234) 0) 0 mm.toNat := (by grind); omega) (by unfold Hd; have e : V (cf ((uA S451 233 (k + mm) ((S451.2.1 233 (k + mm)) + ov)).2.1 233) 0) (k - 1) mm.toNat = V (cf (S451.2.1 233) 0) (k - 1) mm.toNat := V_cg (fun t t0 t1 => cf_v (by omega)); rw [e]; have e2 := hAb; rw [show j2 - 1 = mm by omega] at e2; have e3 := hke2 (by omega); have lt : V (cf (S451.2.1 233) 0) (k - 1) mm.toNat < pw mm.toNat := V_lt (fun i i0 i1 => hLr4 i (by omega) (by omega) (by omega)); have lt0 : 0 ≤ V (cf (S451.2.1 233) 0) (k - 1) mm.toNat := V_0 (fun i i0 i1 => (hLr4 i (by omega) (by omega) (by omega)).1); have e7 : ov = 1 := (by rcases (by omega : ov = 0 ∨ ov = 1) with z | z; (rw [z] at e2; omega); exact z); rw [e7] at e2; omega) (fun t a b => if e : t = k - 1 + mm then (by rw [cf_u (by omega)]; have e7 := hov1; omega) else (by rw [cf_v (by omega)]; exact hLr4 t a b e)) (fun t a => by rw [cf_v (by omega)]; exact hun5 t a) (fun t => (uA_ne (fun h => absurd h.1 (neD nkc233))).trans (((hL451_ kc (p1_no (neD nkc233))).2.1 t).trans ((uA_ne (fun h => absurd h.1 (neD nkc233))).trans ((hL309_ kc (p1_no (neD nkc233))).2.1 t)))) hW hL (lv_sub hl [2, 6, 7, 8, 9, 10, 11, 12, 13, 14, 15, 16] rfl)
                                  · have hcl2 : 0 ≤ S451.2.1 233 (k + j2 - 1) ∧ S451.2.1 233 (k + j2 - 1) ≤ 999999999 := by have e := hLr4 (k - 1 + (j2 - 1)) (by omega) (by omega) (by omega); have e2 : cf (S451.2.1 233) 0 (k - 1 + (j2 - 1)) = S451.2.1 233 (k + j2 - 1) := congrArg (S451.2.1 233) (by omega); rw [e2] at e; exact e
                                    have hcg2 : 0 ≤ S89.2.1 234 j2 ∧ S89.2.1 234 j2 ≤ 999999999 := by have e := hgr (j2 - 1) (by omega) (by omega); have e2 : cf (S89.2.1 234) 0 (j2 - 1) = S89.2.1 234 j2 := congrArg (S89.2.1 234) (by omega); rw [e2] at e; exact e
                                    refine lv_aload_n hx hb dX12_longDivide_458 rfl (lv_at hl 8 rfl) ?_
                                    refine g_X12_13 Cx hW (k := 231) (by decide) rfl (v := .ref (G.2.2.1 + 233)) (rd_2 hI451) dX12_longDivide_459 ?_
                                    refine lv_iload hx hb dX12_longDivide_462 (lv_at hl 6 rfl) ?_
                                    refine lv_iload hx hb dX12_longDivide_464 (lv_at hl 0 rfl) ?_
                                    refine r_iadd hx hb dX12_longDivide_466 ?_
                                    refine lv_iconst (v := iv 1) hx hb dX12_longDivide_467 (by decide) ?_
                                    refine r_isub hx hb dX12_longDivide_468 ?_
                                    refine rIald Cx hW (k := 233) (by decide) rfl (by decide) (by omega) (by omega) dX12_longDivide_469 ?_
                                    have q_30 : (-2147483648) ≤ S451.2.1 233 ((k + j2) - 1) ∧ S451.2.1 233 ((k + j2) - 1) ≤ 2147483647 := hI451.ai 233 ((k + j2) - 1)
                                    refine r_i (b := S451.2.1 233 ((k + j2) - 1)) rfl ?_
                                    refine lv_aload_n hx hb dX12_longDivide_470 rfl (lv_at hl 8 rfl) ?_
                                    refine g_X12_17 Cx hW (k := 231) (by decide) rfl (v := .ref (G.2.2.1 + 234)) (rd_3 hI451) dX12_longDivide_471 ?_
                                    refine lv_iload hx hb dX12_longDivide_474 (lv_at hl 0 rfl) ?_
                                    refine rIald Cx hW (k := 234) (by decide) rfl (by decide) (by omega) (by omega) dX12_longDivide_476 ?_
                                    have q_31 : (-2147483648) ≤ S89.2.1 234 j2 ∧ S89.2.1 234 j2 ≤ 2147483647 := hI89.ai 234 j2
                                    refine r_i (b := S89.2.1 234 j2) (((hL451_ 234 rfl).2.1 j2).trans ((uA_ne (fun h => absurd h.1 (by decide))).trans (((hL309_ 234 rfl).2.1 j2).trans ((hL150_ 234 (pl_c (by decide) (pl_c (neS nkc234) rfl))).2.1 j2)))) ?_
                                    refine r_iadd hx hb dX12_longDivide_477 ?_
                                    refine lv_iload hx hb dX12_longDivide_478 (lv_at hl 1 rfl) ?_
                                    refine r_iadd hx hb dX12_longDivide_480 ?_
                                    obtain ⟨yv, eyv⟩ : ∃ z : Int, z = ((S451.2.1 233 ((k + j2) - 1)) + (S89.2.1 234 j2)) + ov := ⟨_, rfl⟩
                                    refine r_i (b := yv) eyv.symm ?_
                                    refine lv_istore (lv' := [(25, .int (iv yv)), (24, .int (iv j2)), (23, .int (iv ov)), (15, .long (jv (gg - 1))), (21, .long (jv ((S309.2.1 233 (k + mm)) - tk))), (19, .long (jv tk)), (13, .long (jv top)), (12, .int (iv k)), (9, .int (iv ff)), (0, .ref (G.2.2.1 + 231)), (1, .ref (G.2.2.1 + ka)), (2, .int (iv po)), (3, .ref (G.2.2.1 + kb)), (4, .int (iv qo)), (5, .int (iv n)), (6, .int (iv mm)), (7, .ref (G.2.2.1 + kc)), (8, .int (iv ro))]) hx hb dX12_longDivide_481 hl (by decide) rfl (fun ls hl => ?_)
                                    have join_495 : ∀ (o3 : Int) (H : Heap) (locs : List Loc) (ls : Array Slot), ((1000000000 ≤ yv → o3 = 1) ∧ (yv < 1000000000 → o3 = 0)) → sW G 294 S451 H → sL G locs → lv_has ls 26 [(25, .int (iv yv)), (24, .int (iv j2)), (23, .int (iv ov)), (15, .long (jv (gg - 1))), (21, .long (jv ((S309.2.1 233 (k + mm)) - tk))), (19, .long (jv tk)), (13, .long (jv top)), (12, .int (iv k)), (9, .int (iv ff)), (0, .ref (G.2.2.1 + 231)), (1, .ref (G.2.2.1 + ka)), (2, .int (iv po)), (3, .ref (G.2.2.1 + kb)), (4, .int (iv qo)), (5, .int (iv n)), (6, .int (iv mm)), (7, .ref (G.2.2.1 + kc)), (8, .int (iv ro))] → W p l e (rmk 2 0 0) s m args below meth c H locs 0 0 (MQ below (sQv G 294 (fun u => dX G u ∧ Fr S u (pl [233, 234, kc]) ∧ ((V (cf (u.2.1 kc) ro) 0 (n - mm + 1).toNat * ((1000000000 / (S.2.1 kb (qo + mm) + 1)) * nu (S.2.1 kb) qo) + V (cf (u.2.1 233) 0) 0 mm.toNat = (1000000000 / (S.2.1 kb (qo + mm) + 1)) * nu (S.2.1 ka) po) ∧ (V (cf (u.2.1 233) 0) 0 mm.toNat < (1000000000 / (S.2.1 kb (qo + mm) + 1)) * nu (S.2.1 kb) qo) ∧ (∀ t, 0 ≤ t → t < n - mm + 1 → 0 ≤ cf (u.2.1 kc) ro t ∧ cf (u.2.1 kc) ro t ≤ 999999999) ∧ (∀ t, 0 ≤ t → t < mm → 0 ≤ cf (u.2.1 233) 0 t ∧ cf (u.2.1 233) 0 t ≤ 999999999) ∧ ∀ j, j ≤ ro ∨ ro + (n - mm + 1) < j → u.2.1 kc j = S.2.1 kc j))) args s 0 0 (sF G)) (F0 m 495 ls [.int (iv o3)]) := by
                                      intro o3 H locs ls ho3 hW hL hl
                                      refine lv_istore (lv' := [(23, .int (iv o3)), (25, .int (iv yv)), (24, .int (iv j2)), (15, .long (jv (gg - 1))), (21, .long (jv ((S309.2.1 233 (k + mm)) - tk))), (19, .long (jv tk)), (13, .long (jv top)), (12, .int (iv k)), (9, .int (iv ff)), (0, .ref (G.2.2.1 + 231)), (1, .ref (G.2.2.1 + ka)), (2, .int (iv po)), (3, .ref (G.2.2.1 + kb)), (4, .int (iv qo)), (5, .int (iv n)), (6, .int (iv mm)), (7, .ref (G.2.2.1 + kc)), (8, .int (iv ro))]) hx hb dX12_longDivide_495 hl (by decide) rfl (fun ls hl => ?_)
                                      refine lv_aload_n hx hb dX12_longDivide_497 rfl (lv_at hl 9 rfl) ?_
                                      refine g_X12_13 Cx hW (k := 231) (by decide) rfl (v := .ref (G.2.2.1 + 233)) (rd_2 hI451) dX12_longDivide_498 ?_
                                      refine lv_iload hx hb dX12_longDivide_501 (lv_at hl 7 rfl) ?_
                                      refine lv_iload hx hb dX12_longDivide_503 (lv_at hl 2 rfl) ?_
                                      refine r_iadd hx hb dX12_longDivide_505 ?_
                                      refine lv_iconst (v := iv 1) hx hb dX12_longDivide_506 (by decide) ?_
                                      refine r_isub hx hb dX12_longDivide_507 ?_
                                      have join_525 : ∀ (d3 : Int) (H : Heap) (locs : List Loc) (ls : Array Slot), ((1000000000 ≤ yv → d3 = yv - 1000000000) ∧ (yv < 1000000000 → d3 = yv)) → sW G 294 S451 H → sL G locs → lv_has ls 26 [(23, .int (iv o3)), (25, .int (iv yv)), (24, .int (iv j2)), (15, .long (jv (gg - 1))), (21, .long (jv ((S309.2.1 233 (k + mm)) - tk))), (19, .long (jv tk)), (13, .long (jv top)), (12, .int (iv k)), (9, .int (iv ff)), (0, .ref (G.2.2.1 + 231)), (1, .ref (G.2.2.1 + ka)), (2, .int (iv po)), (3, .ref (G.2.2.1 + kb)), (4, .int (iv qo)), (5, .int (iv n)), (6, .int (iv mm)), (7, .ref (G.2.2.1 + kc)), (8, .int (iv ro))] → W p l e (rmk 2 0 0) s m args below meth c H locs 0 0 (MQ below (sQv G 294 (fun u => dX G u ∧ Fr S u (pl [233, 234, kc]) ∧ ((V (cf (u.2.1 kc) ro) 0 (n - mm + 1).toNat * ((1000000000 / (S.2.1 kb (qo + mm) + 1)) * nu (S.2.1 kb) qo) + V (cf (u.2.1 233) 0) 0 mm.toNat = (1000000000 / (S.2.1 kb (qo + mm) + 1)) * nu (S.2.1 ka) po) ∧ (V (cf (u.2.1 233) 0) 0 mm.toNat < (1000000000 / (S.2.1 kb (qo + mm) + 1)) * nu (S.2.1 kb) qo) ∧ (∀ t, 0 ≤ t → t < n - mm + 1 → 0 ≤ cf (u.2.1 kc) ro t ∧ cf (u.2.1 kc) ro t ≤ 999999999) ∧ (∀ t, 0 ≤ t → t < mm → 0 ≤ cf (u.2.1 233) 0 t ∧ cf (u.2.1 233) 0 t ≤ 999999999) ∧ ∀ j, j ≤ ro ∨ ro + (n - mm + 1) < j → u.2.1 kc j = S.2.1 kc j))) args s 0 0 (sF G)) (F0 m 525 ls [.int (iv d3), .int (iv ((k + j2) - 1)), .ref (G.2.2.1 + 233)]) := by
                                        intro d3 H locs ls hd3 hW hL hl
                                        refine rIast Cx hW hL (k := 233) (by decide) rfl (by decide) (by omega) (by omega) dX12_longDivide_525 (fun H locs hW hL => ?_)
                                        have F_32 : Fr S (uA S451 233 ((k + j2) - 1) d3) (pl [233, 234, kc]) := hFm451.A pl_h
                                        have F_33 : Fr S89 (uA S451 233 ((k + j2) - 1) d3) (pl [233, kc]) := hFL150451.A pl_h
                                        have F_34 : Fr S150 (uA S451 233 ((k + j2) - 1) d3) (p1 233) := hFL309451.A rfl
                                        have F_35 : Fr ((uA S309 233 (k + mm) ((S309.2.1 233 (k + mm)) - tk))) (uA S451 233 ((k + j2) - 1) d3) (p1 233) := hFL547451.A rfl
                                        have F_36 : Fr ((uA S309 233 (k + mm) ((S309.2.1 233 (k + mm)) - tk))) (uA S451 233 ((k + j2) - 1) d3) (p1 233) := hL451_.A rfl
                                        have i_37 : dX G (uA S451 233 ((k + j2) - 1) d3) := hI451.A (k := 233) (show (-2147483648) ≤ d3 ∧ d3 ≤ 2147483647 from ⟨by omega, by omega⟩)
                                        refine lv_iinc (v := iv (j2 + 1)) (lv' := [(24, .int (iv (j2 + 1))), (23, .int (iv o3)), (25, .int (iv yv)), (15, .long (jv (gg - 1))), (21, .long (jv ((S309.2.1 233 (k + mm)) - tk))), (19, .long (jv tk)), (13, .long (jv top)), (12, .int (iv k)), (9, .int (iv ff)), (0, .ref (G.2.2.1 + 231)), (1, .ref (G.2.2.1 + ka)), (2, .int (iv po)), (3, .ref (G.2.2.1 + kb)), (4, .int (iv qo)), (5, .int (iv n)), (6, .int (iv mm)), (7, .ref (G.2.2.1 + kc)), (8, .int (iv ro))]) hx hb dX12_longDivide_526 hl (k := 2) rfl ((Int32.ofInt_add _ _).symm) (by decide) rfl (fun ls hl => ?_)
                                        refine lv_goto (tgt := 451) hx hb dX12_longDivide_529 (by decide) ?_
                                        exact ih_451 (uA S451 233 ((k + j2) - 1) d3) (j2 + 1) o3 _ _ _ (by omega) i_37 F_32 F_33 F_34 F_35 F_36 (by omega) (by omega) (by have e := abS (c := cf (S451.2.1 233) 0) (c' := cf ((uA S451 233 (k + j2 - 1) d3).2.1 233) 0) (c0 := cf (S309.2.1 233) 0) (Gt := cf (S89.2.1 234) 0) (s := k - 1) (j := j2 - 1) (ov := ov) (l := d3) (t := o3) (by omega) hAb (fun t a b => cf_v (by omega)) (cf_u (by omega)) (by have e1 := hun4 (k - 1 + (j2 - 1)) (by omega) (by omega); have e2 : cf (S451.2.1 233) 0 (k - 1 + (j2 - 1)) = S451.2.1 233 (k + j2 - 1) := congrArg (S451.2.1 233) (by omega); have e3 : cf (S89.2.1 234) 0 (j2 - 1) = S89.2.1 234 j2 := congrArg (S89.2.1 234) (by omega); rw [← e1, e2, e3]; omega); rw [show j2 - 1 + 1 = j2 + 1 - 1 by omega] at e; exact e) (fun t a b => by rw [cf_v (by omega)]; exact hun4 t (by omega) b) (fun t a => by rw [cf_v (by omega)]; exact hun5 t a) (by rw [uA_ne (fun q => by have := q.2; omega)]; exact htopv) (fun t a b d => if e : t = k - 1 + (j2 - 1) then (by rw [cf_u (by omega)]; omega) else (by rw [cf_v (by omega)]; exact hLr4 t a b d)) hW hL (lv_sub hl [0, 1, 3, 4, 5, 6, 7, 8, 9, 10, 11, 12, 13, 14, 15, 16, 17] rfl)
                                      refine lv_iload hx hb dX12_longDivide_508 (lv_at hl 1 rfl) ?_
                                      refine lv_ldc hx hb hown (hts _ w_2600) dX12_longDivide_510 ?_
                                      refine r_icmp_lt (tgt := 523) hx hb ⟨(by omega), (by omega)⟩ ⟨(by omega), (by omega)⟩ dX12_longDivide_512 (by decide) (fun c_38 => ?_) (fun c_38 => ?_)
                                      · refine lv_iload hx hb dX12_longDivide_523 (lv_at hl 1 rfl) ?_
                                        exact join_525 yv _ _ _ (by omega) hW hL (lv_sub hl [0, 1, 2, 3, 4, 5, 6, 7, 8, 9, 10, 11, 12, 13, 14, 15, 16, 17] rfl)
                                      · refine lv_iload hx hb dX12_longDivide_515 (lv_at hl 1 rfl) ?_
                                        refine lv_ldc hx hb hown (hts _ w_2600) dX12_longDivide_517 ?_
                                        refine r_isub hx hb dX12_longDivide_519 ?_
                                        refine lv_goto (tgt := 525) hx hb dX12_longDivide_520 (by decide) ?_
                                        exact join_525 (yv - 1000000000) _ _ _ (by omega) hW hL (lv_sub hl [0, 1, 2, 3, 4, 5, 6, 7, 8, 9, 10, 11, 12, 13, 14, 15, 16, 17] rfl)
                                    refine lv_iload hx hb dX12_longDivide_483 (lv_at hl 0 rfl) ?_
                                    refine lv_ldc hx hb hown (hts _ w_2600) dX12_longDivide_485 ?_
                                    refine r_icmp_lt (tgt := 494) hx hb ⟨(by omega), (by omega)⟩ ⟨(by omega), (by omega)⟩ dX12_longDivide_487 (by decide) (fun c_39 => ?_) (fun c_39 => ?_)
                                    · refine lv_iconst (v := iv 0) hx hb dX12_longDivide_494 (by decide) ?_
                                      exact join_495 0 _ _ _ (by omega) hW hL (lv_sub hl [0, 1, 2, 3, 4, 5, 6, 7, 8, 9, 10, 11, 12, 13, 14, 15, 16, 17] rfl)
                                    · refine lv_iconst (v := iv 1) hx hb dX12_longDivide_490 (by decide) ?_
                                      refine lv_goto (tgt := 495) hx hb dX12_longDivide_491 (by decide) ?_
                                      exact join_495 1 _ _ _ (by omega) hW hL (lv_sub hl [0, 1, 2, 3, 4, 5, 6, 7, 8, 9, 10, 11, 12, 13, 14, 15, 16, 17] rfl)
                              exact loop_451 (_ + 1) (uA S309 233 (k + mm) ((S309.2.1 233 (k + mm)) - tk)) 1 0 _ _ _ (Nat.lt_succ_self _) i_16 F_13 F_14 F_15 (Fr.rf : Fr (uA S309 233 (k + mm) ((S309.2.1 233 (k + mm)) - tk)) (uA S309 233 (k + mm) ((S309.2.1 233 (k + mm)) - tk)) (p1 233)) Fr.rf (by omega) (by omega) (by show (0 : Int) + 0 * 1 = 0 + 0; omega) (fun t a b => cf_v (by omega)) (fun t a => by rw [cf_v (by omega)]; exact hun t (by omega)) (by rw [uA_on]; omega) (fun t a b d => by rw [cf_v (by omega)]; exact hLr2 t a b) hW hL (lv_sub hl [0, 1, 2, 3, 4, 5, 6, 7, 8, 9, 10, 11, 12, 13, 14, 15, 16] rfl)
                          · have hcl : 0 ≤ S309.2.1 233 (k + j - 1) ∧ S309.2.1 233 (k + j - 1) ≤ 999999999 := by have e := hLr2 (k - 1 + (j - 1)) (by omega) (by omega); have e2 : cf (S309.2.1 233) 0 (k - 1 + (j - 1)) = S309.2.1 233 (k + j - 1) := congrArg (S309.2.1 233) (by omega); rw [e2] at e; exact e
                            have hcg : 0 ≤ S89.2.1 234 j ∧ S89.2.1 234 j ≤ 999999999 := by have e := hgr (j - 1) (by omega) (by omega); have e2 : cf (S89.2.1 234) 0 (j - 1) = S89.2.1 234 j := congrArg (S89.2.1 234) (by omega); rw [e2] at e; exact e
                            refine lv_aload_n hx hb dX12_longDivide_316 rfl (lv_at hl 6 rfl) ?_
                            refine g_X12_13 Cx hW (k := 231) (by decide) rfl (v := .ref (G.2.2.1 + 233)) (rd_2 hI309) dX12_longDivide_317 ?_
                            refine lv_iload hx hb dX12_longDivide_320 (lv_at hl 4 rfl) ?_
                            refine lv_iload hx hb dX12_longDivide_322 (lv_at hl 0 rfl) ?_
                            refine r_iadd hx hb dX12_longDivide_324 ?_
                            refine lv_iconst (v := iv 1) hx hb dX12_longDivide_325 (by decide) ?_
                            refine r_isub hx hb dX12_longDivide_326 ?_
                            refine rIald Cx hW (k := 233) (by decide) rfl (by decide) (by omega) (by omega) dX12_longDivide_327 ?_
                            have q_40 : (-2147483648) ≤ S309.2.1 233 ((k + j) - 1) ∧ S309.2.1 233 ((k + j) - 1) ≤ 2147483647 := hI309.ai 233 ((k + j) - 1)
                            refine r_i (b := S309.2.1 233 ((k + j) - 1)) rfl ?_
                            refine r_i2l hx hb ⟨(by omega), (by omega)⟩ dX12_longDivide_328 ?_
                            refine lv_lload hx hb dX12_longDivide_329 (lv_at hl 2 rfl) ?_
                            refine lv_aload_n hx hb dX12_longDivide_331 rfl (lv_at hl 6 rfl) ?_
                            refine g_X12_17 Cx hW (k := 231) (by decide) rfl (v := .ref (G.2.2.1 + 234)) (rd_3 hI309) dX12_longDivide_332 ?_
                            refine lv_iload hx hb dX12_longDivide_335 (lv_at hl 0 rfl) ?_
                            refine rIald Cx hW (k := 234) (by decide) rfl (by decide) (by omega) (by omega) dX12_longDivide_337 ?_
                            have q_41 : (-2147483648) ≤ S89.2.1 234 j ∧ S89.2.1 234 j ≤ 2147483647 := hI89.ai 234 j
                            refine r_i (b := S89.2.1 234 j) (((hL309_ 234 rfl).2.1 j).trans ((hL150_ 234 (pl_c (by decide) (pl_c (neS nkc234) rfl))).2.1 j)) ?_
                            refine r_i2l hx hb ⟨(by omega), (by omega)⟩ dX12_longDivide_338 ?_
                            refine r_lmul hx hb dX12_longDivide_339 ?_
                            obtain ⟨pq, epq⟩ : ∃ z : Int, z = gg * (S89.2.1 234 j) := ⟨_, rfl⟩
                            refine r_j (b := pq) epq.symm ?_
                            have hpq : 0 ≤ pq ∧ pq ≤ 999999998000000001 := by rw [epq]; exact mul9 hgg hcg
                            refine r_lsub hx hb dX12_longDivide_340 ?_
                            refine lv_lload hx hb dX12_longDivide_341 (lv_at hl 1 rfl) ?_
                            refine r_lsub hx hb dX12_longDivide_343 ?_
                            obtain ⟨xv, exv⟩ : ∃ z : Int, z = ((S309.2.1 233 ((k + j) - 1)) - pq) - tk := ⟨_, rfl⟩
                            refine r_j (b := xv) exv.symm ?_
                            refine lv_lstore (lv' := [(22, .long (jv xv)), (21, .int (iv j)), (19, .long (jv tk)), (15, .long (jv gg)), (13, .long (jv top)), (12, .int (iv k)), (9, .int (iv ff)), (0, .ref (G.2.2.1 + 231)), (1, .ref (G.2.2.1 + ka)), (2, .int (iv po)), (3, .ref (G.2.2.1 + kb)), (4, .int (iv qo)), (5, .int (iv n)), (6, .int (iv mm)), (7, .ref (G.2.2.1 + kc)), (8, .int (iv ro))]) hx hb dX12_longDivide_344 hl (by decide) rfl (fun ls hl => ?_)
                            refine lv_lconst (v := jv 0) hx hb dX12_longDivide_346 (by decide) ?_
                            refine lv_lstore (lv' := [(19, .long (jv 0)), (22, .long (jv xv)), (21, .int (iv j)), (15, .long (jv gg)), (13, .long (jv top)), (12, .int (iv k)), (9, .int (iv ff)), (0, .ref (G.2.2.1 + 231)), (1, .ref (G.2.2.1 + ka)), (2, .int (iv po)), (3, .ref (G.2.2.1 + kb)), (4, .int (iv qo)), (5, .int (iv n)), (6, .int (iv mm)), (7, .ref (G.2.2.1 + kc)), (8, .int (iv ro))]) hx hb dX12_longDivide_347 hl (by decide) rfl (fun ls hl => ?_)
                            have join_382 : ∀ (t2 : Int) (x2 : Int) (H : Heap) (locs : List Loc) (ls : Array Slot), (0 ≤ x2 ∧ x2 ≤ 999999999) → (0 ≤ t2 ∧ t2 ≤ 1000000000) → (x2 - t2 * 1000000000 = xv) → sW G 294 S309 H → sL G locs → lv_has ls 26 [(19, .long (jv t2)), (22, .long (jv x2)), (21, .int (iv j)), (15, .long (jv gg)), (13, .long (jv top)), (12, .int (iv k)), (9, .int (iv ff)), (0, .ref (G.2.2.1 + 231)), (1, .ref (G.2.2.1 + ka)), (2, .int (iv po)), (3, .ref (G.2.2.1 + kb)), (4, .int (iv qo)), (5, .int (iv n)), (6, .int (iv mm)), (7, .ref (G.2.2.1 + kc)), (8, .int (iv ro))] → W p l e (rmk 2 0 0) s m args below meth c H locs 0 0 (MQ below (sQv G 294 (fun u => dX G u ∧ Fr S u (pl [233, 234, kc]) ∧ ((V (cf (u.2.1 kc) ro) 0 (n - mm + 1).toNat * ((1000000000 / (S.2.1 kb (qo + mm) + 1)) * nu (S.2.1 kb) qo) + V (cf (u.2.1 233) 0) 0 mm.toNat = (1000000000 / (S.2.1 kb (qo + mm) + 1)) * nu (S.2.1 ka) po) ∧ (V (cf (u.2.1 233) 0) 0 mm.toNat < (1000000000 / (S.2.1 kb (qo + mm) + 1)) * nu (S.2.1 kb) qo) ∧ (∀ t, 0 ≤ t → t < n - mm + 1 → 0 ≤ cf (u.2.1 kc) ro t ∧ cf (u.2.1 kc) ro t ≤ 999999999) ∧ (∀ t, 0 ≤ t → t < mm → 0 ≤ cf (u.2.1 233) 0 t ∧ cf (u.2.1 233) 0 t ≤ 999999999) ∧ ∀ j, j ≤ ro ∨ ro + (n - mm + 1) < j → u.2.1 kc j = S.2.1 kc j))) args s 0 0 (sF G)) (F0 m 382 ls []) := by
                              intro t2 x2 H locs ls hx2 ht2 hxt hW hL hl
                              refine lv_aload_n hx hb dX12_longDivide_382 rfl (lv_at hl 7 rfl) ?_
                              refine g_X12_13 Cx hW (k := 231) (by decide) rfl (v := .ref (G.2.2.1 + 233)) (rd_2 hI309) dX12_longDivide_383 ?_
                              refine lv_iload hx hb dX12_longDivide_386 (lv_at hl 5 rfl) ?_
                              refine lv_iload hx hb dX12_longDivide_388 (lv_at hl 2 rfl) ?_
                              refine r_iadd hx hb dX12_longDivide_390 ?_
                              refine lv_iconst (v := iv 1) hx hb dX12_longDivide_391 (by decide) ?_
                              refine r_isub hx hb dX12_longDivide_392 ?_
                              refine lv_lload hx hb dX12_longDivide_393 (lv_at hl 1 rfl) ?_
                              refine r_l2i hx hb dX12_longDivide_395 ?_
                              refine rIast Cx hW hL (k := 233) (by decide) rfl (by decide) (by omega) (by omega) dX12_longDivide_396 (fun H locs hW hL => ?_)
                              have F_42 : Fr S (uA S309 233 ((k + j) - 1) x2) (pl [233, 234, kc]) := hFm309.A pl_h
                              have F_43 : Fr S89 (uA S309 233 ((k + j) - 1) x2) (pl [233, kc]) := hFL150309.A pl_h
                              have F_44 : Fr S150 (uA S309 233 ((k + j) - 1) x2) (p1 233) := hL309_.A rfl
                              have i_45 : dX G (uA S309 233 ((k + j) - 1) x2) := hI309.A (k := 233) (show (-2147483648) ≤ x2 ∧ x2 ≤ 2147483647 from ⟨by omega, by omega⟩)
                              refine lv_iinc (v := iv (j + 1)) (lv' := [(21, .int (iv (j + 1))), (19, .long (jv t2)), (22, .long (jv x2)), (15, .long (jv gg)), (13, .long (jv top)), (12, .int (iv k)), (9, .int (iv ff)), (0, .ref (G.2.2.1 + 231)), (1, .ref (G.2.2.1 + ka)), (2, .int (iv po)), (3, .ref (G.2.2.1 + kb)), (4, .int (iv qo)), (5, .int (iv n)), (6, .int (iv mm)), (7, .ref (G.2.2.1 + kc)), (8, .int (iv ro))]) hx hb dX12_longDivide_397 hl (k := 2) rfl ((Int32.ofInt_add _ _).symm) (by decide) rfl (fun ls hl => ?_)
                              refine lv_goto (tgt := 309) hx hb dX12_longDivide_400 (by decide) ?_
                              exact ih_309 (uA S309 233 ((k + j) - 1) x2) (j + 1) t2 _ _ _ (by omega) i_45 F_42 F_43 F_44 (by omega) (by omega) (by have e := sbS (c := cf (S309.2.1 233) 0) (c' := cf ((uA S309 233 (k + j - 1) x2).2.1 233) 0) (c0 := cf (S150.2.1 233) 0) (Gt := cf (S89.2.1 234) 0) (s := k - 1) (j := j - 1) (tk := tk) (l := x2) (t := t2) (g := gg) (by omega) hS (fun t a b => cf_v (by omega)) (cf_u (by omega)) (by have e1 := hun (k - 1 + (j - 1)) (by omega); have e2 : cf (S309.2.1 233) 0 (k - 1 + (j - 1)) = S309.2.1 233 (k + j - 1) := congrArg (S309.2.1 233) (by omega); have e3 : cf (S89.2.1 234) 0 (j - 1) = S89.2.1 234 j := congrArg (S89.2.1 234) (by omega); rw [← e1, e2, e3, ← epq]; omega); rw [show j - 1 + 1 = j + 1 - 1 by omega] at e; exact e) (fun t a => by rw [cf_v (by omega)]; exact hun t (by omega)) (fun t a b => if e : t = k - 1 + (j - 1) then (by rw [cf_u (by omega)]; omega) else (by rw [cf_v (by omega)]; exact hLr2 t a b)) hW hL (lv_sub hl [0, 1, 3, 4, 5, 6, 7, 8, 9, 10, 11, 12, 13, 14, 15] rfl)
                            refine lv_lload hx hb dX12_longDivide_349 (lv_at hl 1 rfl) ?_
                            refine lv_lconst (v := jv 0) hx hb dX12_longDivide_351 (by decide) ?_
                            refine r_lcmp hx hb ⟨(by omega), (by omega)⟩ ⟨(by omega), (by omega)⟩ dX12_longDivide_352 (fun z_46 az_46 bz_46 cz_46 => ?_)
                            refine r_if_ge (tgt := 382) hx hb ⟨(by omega), (by omega)⟩ dX12_longDivide_353 (by decide) (fun c_47 => ?_) (fun c_47 => ?_)
                            · exact join_382 0 xv _ _ _ (by omega) (by omega) (by omega) hW hL (lv_sub hl [0, 1, 2, 3, 4, 5, 6, 7, 8, 9, 10, 11, 12, 13, 14, 15] rfl)
                            · refine lv_lload hx hb dX12_longDivide_356 (lv_at hl 1 rfl) ?_
                              refine r_lneg hx hb dX12_longDivide_358 ?_
                              refine lv_ldc2 hx hb hown (hts _ w_2464) dX12_longDivide_359 ?_
                              refine r_ladd hx hb dX12_longDivide_362 ?_
                              refine lv_lconst (v := jv 1) hx hb dX12_longDivide_363 (by decide) ?_
                              refine r_lsub hx hb dX12_longDivide_364 ?_
                              refine lv_ldc2 hx hb hown (hts _ w_2464) dX12_longDivide_365 ?_
                              refine r_ldiv hx hb ⟨(by omega), (by omega)⟩ ⟨(by omega), (by omega)⟩ (by omega) dX12_longDivide_368 ?_
                              refine r_j (b := (((-xv) + 1000000000) - 1) / 1000000000) (Int.tdiv_eq_ediv_of_nonneg (by omega)) ?_
                              refine lv_lstore (lv' := [(19, .long (jv ((((-xv) + 1000000000) - 1) / 1000000000))), (22, .long (jv xv)), (21, .int (iv j)), (15, .long (jv gg)), (13, .long (jv top)), (12, .int (iv k)), (9, .int (iv ff)), (0, .ref (G.2.2.1 + 231)), (1, .ref (G.2.2.1 + ka)), (2, .int (iv po)), (3, .ref (G.2.2.1 + kb)), (4, .int (iv qo)), (5, .int (iv n)), (6, .int (iv mm)), (7, .ref (G.2.2.1 + kc)), (8, .int (iv ro))]) hx hb dX12_longDivide_369 hl (by decide) rfl (fun ls hl => ?_)
                              refine lv_lload hx hb dX12_longDivide_371 (lv_at hl 1 rfl) ?_
                              refine lv_lload hx hb dX12_longDivide_373 (lv_at hl 0 rfl) ?_
                              refine lv_ldc2 hx hb hown (hts _ w_2464) dX12_longDivide_375 ?_
                              refine r_lmul hx hb dX12_longDivide_378 ?_
                              refine r_ladd hx hb dX12_longDivide_379 ?_
                              refine lv_lstore (lv' := [(22, .long (jv (xv + (((((-xv) + 1000000000) - 1) / 1000000000) * 1000000000)))), (19, .long (jv ((((-xv) + 1000000000) - 1) / 1000000000))), (21, .int (iv j)), (15, .long (jv gg)), (13, .long (jv top)), (12, .int (iv k)), (9, .int (iv ff)), (0, .ref (G.2.2.1 + 231)), (1, .ref (G.2.2.1 + ka)), (2, .int (iv po)), (3, .ref (G.2.2.1 + kb)), (4, .int (iv qo)), (5, .int (iv n)), (6, .int (iv mm)), (7, .ref (G.2.2.1 + kc)), (8, .int (iv ro))]) hx hb dX12_longDivide_380 hl (by decide) rfl (fun ls hl => ?_)
                              exact join_382 ((((-xv) + 1000000000) - 1) / 1000000000) (xv + (((((-xv) + 1000000000) - 1) / 1000000000) * 1000000000)) _ _ _ (by omega) (by omega) (by omega) hW hL (lv_sub hl [1, 0, 2, 3, 4, 5, 6, 7, 8, 9, 10, 11, 12, 13, 14, 15] rfl)
                      exact loop_309 (_ + 1) S150 1 0 _ _ _ (Nat.lt_succ_self _) hI150 hFm150 hL150_ Fr.rf (by omega) (by omega) (by show (0 : Int) - 0 * 1 = 0 - gg * 0; omega) (fun t _ => rfl) hLr hW hL (lv_sub hl [0, 1, 2, 3, 4, 5, 6, 7, 8, 9, 10, 11, 12, 13, 14] rfl)
                    refine lv_lload hx hb dX12_longDivide_205 (lv_at hl 1 rfl) ?_
                    refine lv_lload hx hb dX12_longDivide_207 (lv_at hl 0 rfl) ?_
                    refine lv_aload_n hx hb dX12_longDivide_209 rfl (lv_at hl 4 rfl) ?_
                    refine g_X12_17 Cx hW (k := 231) (by decide) rfl (v := .ref (G.2.2.1 + 234)) (rd_3 hI150) dX12_longDivide_210 ?_
                    refine lv_iload hx hb dX12_longDivide_213 (lv_at hl 10 rfl) ?_
                    refine rIald Cx hW (k := 234) (by decide) rfl (by decide) (by omega) (by omega) dX12_longDivide_215 ?_
                    refine r_i (b := S89.2.1 234 mm) ((hL150_ 234 (pl_c (by decide) (pl_c (neS nkc234) rfl))).2.1 mm) ?_
                    refine r_i2l hx hb ⟨(by omega), (by omega)⟩ dX12_longDivide_216 ?_
                    refine r_lmul hx hb dX12_longDivide_217 ?_
                    obtain ⟨pg, epg⟩ : ∃ z : Int, z = g1 * (S89.2.1 234 mm) := ⟨_, rfl⟩
                    refine r_j (b := pg) epg.symm ?_
                    have hpg : 0 ≤ pg ∧ pg ≤ top := by rw [epg]; exact ⟨Int.mul_nonneg (by omega) (by omega), Int.le_trans (Int.mul_le_mul_of_nonneg_right (show g1 ≤ g0 by omega) (by omega)) hg0.2.1⟩
                    refine r_lsub hx hb dX12_longDivide_218 ?_
                    refine lv_lstore (lv' := [(17, .long (jv (top - pg))), (15, .long (jv g1)), (13, .long (jv top)), (12, .int (iv k)), (9, .int (iv ff)), (0, .ref (G.2.2.1 + 231)), (1, .ref (G.2.2.1 + ka)), (2, .int (iv po)), (3, .ref (G.2.2.1 + kb)), (4, .int (iv qo)), (5, .int (iv n)), (6, .int (iv mm)), (7, .ref (G.2.2.1 + kc)), (8, .int (iv ro))]) hx hb dX12_longDivide_219 hl (by decide) rfl (fun ls hl => ?_)
                    have loop_221 : ∀ (fuel : Nat) (rs : Int) (g : Int) (H : Heap) (locs : List Loc) (ls : Array Slot), g.toNat < fuel → (0 ≤ g ∧ g ≤ 999999999) → (0 ≤ rs ∧ rs ≤ top) → (rs = top - g * S89.2.1 234 mm) → (Hd (V (cf (S150.2.1 233) 0) (k - 1) (mm + 1).toNat < (g + 1) * V (cf (S89.2.1 234) 0) 0 mm.toNat)) → sW G 294 S150 H → sL G locs → lv_has ls 26 [(17, .long (jv rs)), (15, .long (jv g)), (13, .long (jv top)), (12, .int (iv k)), (9, .int (iv ff)), (0, .ref (G.2.2.1 + 231)), (1, .ref (G.2.2.1 + ka)), (2, .int (iv po)), (3, .ref (G.2.2.1 + kb)), (4, .int (iv qo)), (5, .int (iv n)), (6, .int (iv mm)), (7, .ref (G.2.2.1 + kc)), (8, .int (iv ro))] → W p l e (rmk 2 0 0) s m args below meth c H locs 0 0 (MQ below (sQv G 294 (fun u => dX G u ∧ Fr S u (pl [233, 234, kc]) ∧ ((V (cf (u.2.1 kc) ro) 0 (n - mm + 1).toNat * ((1000000000 / (S.2.1 kb (qo + mm) + 1)) * nu (S.2.1 kb) qo) + V (cf (u.2.1 233) 0) 0 mm.toNat = (1000000000 / (S.2.1 kb (qo + mm) + 1)) * nu (S.2.1 ka) po) ∧ (V (cf (u.2.1 233) 0) 0 mm.toNat < (1000000000 / (S.2.1 kb (qo + mm) + 1)) * nu (S.2.1 kb) qo) ∧ (∀ t, 0 ≤ t → t < n - mm + 1 → 0 ≤ cf (u.2.1 kc) ro t ∧ cf (u.2.1 kc) ro t ≤ 999999999) ∧ (∀ t, 0 ≤ t → t < mm → 0 ≤ cf (u.2.1 233) 0 t ∧ cf (u.2.1 233) 0 t ≤ 999999999) ∧ ∀ j, j ≤ ro ∨ ro + (n - mm + 1) < j → u.2.1 kc j = S.2.1 kc j))) args s 0 0 (sF G)) (F0 m 221 ls []) := by
                      intro fuel
                      induction fuel with
                      | zero => intro rs g H locs ls hmeas hg hrs hre hlo hW hL hl; exact absurd hmeas (Nat.not_lt_zero _)
                      | succ fuel ih_221 =>
                        intro rs g H locs ls hmeas hg hrs hre hlo hW hL hl
                        refine lv_lload hx hb dX12_longDivide_221 (lv_at hl 0 rfl) ?_
                        refine lv_ldc2 hx hb hown (hts _ w_2464) dX12_longDivide_223 ?_
                        refine r_lcmp hx hb ⟨(by omega), (by omega)⟩ ⟨(by omega), (by omega)⟩ dX12_longDivide_226 (fun z_48 az_48 bz_48 cz_48 => ?_)
                        refine r_if_ge (tgt := 303) hx hb ⟨(by omega), (by omega)⟩ dX12_longDivide_227 (by decide) (fun c_49 => ?_) (fun c_49 => ?_)
                        · exact join_303 g _ _ _ (by omega) hlo (by unfold Hd; have hD0 : 0 ≤ V (cf (S89.2.1 234) 0) 0 mm.toNat := V_0 (fun i i0 i1 => (hgr i i0 (by omega)).1); exact if z : g = 0 then (by rw [z]; have e : (0 - 1 : Int) * V (cf (S89.2.1 234) 0) 0 mm.toNat = -V (cf (S89.2.1 234) 0) 0 mm.toNat := (by grind); have e2 : 0 ≤ V (cf (S150.2.1 233) 0) (k - 1) (mm + 1).toNat := hU0; omega) else kn_up (P := pw (mm - 2).toNat) (U3 := top * 1000000000 + S150.2.1 233 (k + mm - 2)) (ul := V (cf (S150.2.1 233) 0) (k - 1) (mm - 2).toNat) (V2 := S89.2.1 234 mm * 1000000000 + S89.2.1 234 (mm - 1)) (vl := V (cf (S89.2.1 234) 0) 0 (mm - 2).toNat) (by omega) (by rw [hU3, etop]) hul.1 hD2 hvl.2 hvl.1 (by omega) (by have e : g * (S89.2.1 234 mm * 1000000000 + S89.2.1 234 (mm - 1)) = 1000000000 * (g * S89.2.1 234 mm) + g * S89.2.1 234 (mm - 1) := (by grind); have e3 := (mul9 hg hv2).2; rw [e]; first | omega | (rw [← epv]; omega)) (by omega)) hW hL (lv_sub hl [1, 2, 3, 4, 5, 6, 7, 8, 9, 10, 11, 12, 13] rfl)
                        · refine lv_lload hx hb dX12_longDivide_230 (lv_at hl 1 rfl) ?_
                          refine lv_aload_n hx hb dX12_longDivide_232 rfl (lv_at hl 5 rfl) ?_
                          refine g_X12_17 Cx hW (k := 231) (by decide) rfl (v := .ref (G.2.2.1 + 234)) (rd_3 hI150) dX12_longDivide_233 ?_
                          refine lv_iload hx hb dX12_longDivide_236 (lv_at hl 11 rfl) ?_
                          refine lv_iconst (v := iv 1) hx hb dX12_longDivide_238 (by decide) ?_
                          refine r_isub hx hb dX12_longDivide_239 ?_
                          refine rIald Cx hW (k := 234) (by decide) rfl (by decide) (by omega) (by omega) dX12_longDivide_240 ?_
                          have q_50 : (-2147483648) ≤ S89.2.1 234 (mm - 1) ∧ S89.2.1 234 (mm - 1) ≤ 2147483647 := hI89.ai 234 (mm - 1)
                          refine r_i (b := S89.2.1 234 (mm - 1)) ((hL150_ 234 (pl_c (by decide) (pl_c (neS nkc234) rfl))).2.1 (mm - 1)) ?_
                          refine r_i2l hx hb ⟨(by omega), (by omega)⟩ dX12_longDivide_241 ?_
                          refine r_lmul hx hb dX12_longDivide_242 ?_
                          obtain ⟨pv, epv⟩ : ∃ z : Int, z = g * (S89.2.1 234 (mm - 1)) := ⟨_, rfl⟩
                          refine r_j (b := pv) epv.symm ?_
                          have hpv : 0 ≤ pv ∧ pv ≤ 999999998000000001 := by rw [epv]; exact mul9 hg hv2
                          have hgp : g = 0 → pv = 0 := fun z => by rw [epv, z]; omega
                          refine lv_lload hx hb dX12_longDivide_243 (lv_at hl 0 rfl) ?_
                          refine lv_ldc2 hx hb hown (hts _ w_2464) dX12_longDivide_245 ?_
                          refine r_lmul hx hb dX12_longDivide_248 ?_
                          refine lv_iload hx hb dX12_longDivide_249 (lv_at hl 3 rfl) ?_
                          refine lv_iload hx hb dX12_longDivide_251 (lv_at hl 11 rfl) ?_
                          refine r_iadd hx hb dX12_longDivide_253 ?_
                          refine lv_iconst (v := iv 2) hx hb dX12_longDivide_254 (by decide) ?_
                          refine r_isub hx hb dX12_longDivide_255 ?_
                          refine r_if_le (tgt := 274) hx hb ⟨(by omega), (by omega)⟩ dX12_longDivide_256 (by decide) (fun c => absurd c (by omega)) (fun _ => ?_)
                          refine lv_aload_n hx hb dX12_longDivide_259 rfl (lv_at hl 5 rfl) ?_
                          refine g_X12_13 Cx hW (k := 231) (by decide) rfl (v := .ref (G.2.2.1 + 233)) (rd_2 hI150) dX12_longDivide_260 ?_
                          refine lv_iload hx hb dX12_longDivide_263 (lv_at hl 3 rfl) ?_
                          refine lv_iload hx hb dX12_longDivide_265 (lv_at hl 11 rfl) ?_
                          refine r_iadd hx hb dX12_longDivide_267 ?_
                          refine lv_iconst (v := iv 2) hx hb dX12_longDivide_268 (by decide) ?_
                          refine r_isub hx hb dX12_longDivide_269 ?_
                          refine rIald Cx hW (k := 233) (by decide) rfl (by decide) (by omega) (by omega) dX12_longDivide_270 ?_
                          have q_51 : (-2147483648) ≤ S150.2.1 233 ((k + mm) - 2) ∧ S150.2.1 233 ((k + mm) - 2) ≤ 2147483647 := hI150.ai 233 ((k + mm) - 2)
                          refine r_i (b := S150.2.1 233 ((k + mm) - 2)) rfl ?_
                          refine lv_goto (tgt := 275) hx hb dX12_longDivide_271 (by decide) ?_
                          refine r_i2l hx hb ⟨(by omega), (by omega)⟩ dX12_longDivide_275 ?_
                          refine r_ladd hx hb dX12_longDivide_276 ?_
                          refine r_lcmp hx hb ⟨(by omega), (by omega)⟩ ⟨(by omega), (by omega)⟩ dX12_longDivide_277 (fun z_52 az_52 bz_52 cz_52 => ?_)
                          refine r_if_le (tgt := 303) hx hb ⟨(by omega), (by omega)⟩ dX12_longDivide_278 (by decide) (fun c_53 => ?_) (fun c_53 => ?_)
                          · exact join_303 g _ _ _ (by omega) hlo (by unfold Hd; have hD0 : 0 ≤ V (cf (S89.2.1 234) 0) 0 mm.toNat := V_0 (fun i i0 i1 => (hgr i i0 (by omega)).1); exact if z : g = 0 then (by rw [z]; have e : (0 - 1 : Int) * V (cf (S89.2.1 234) 0) 0 mm.toNat = -V (cf (S89.2.1 234) 0) 0 mm.toNat := (by grind); have e2 : 0 ≤ V (cf (S150.2.1 233) 0) (k - 1) (mm + 1).toNat := hU0; omega) else kn_up (P := pw (mm - 2).toNat) (U3 := top * 1000000000 + S150.2.1 233 (k + mm - 2)) (ul := V (cf (S150.2.1 233) 0) (k - 1) (mm - 2).toNat) (V2 := S89.2.1 234 mm * 1000000000 + S89.2.1 234 (mm - 1)) (vl := V (cf (S89.2.1 234) 0) 0 (mm - 2).toNat) (by omega) (by rw [hU3, etop]) hul.1 hD2 hvl.2 hvl.1 (by omega) (by have e : g * (S89.2.1 234 mm * 1000000000 + S89.2.1 234 (mm - 1)) = 1000000000 * (g * S89.2.1 234 mm) + g * S89.2.1 234 (mm - 1) := (by grind); have e3 := (mul9 hg hv2).2; rw [e]; first | omega | (rw [← epv]; omega)) (by omega)) hW hL (lv_sub hl [1, 2, 3, 4, 5, 6, 7, 8, 9, 10, 11, 12, 13] rfl)
                          · refine lv_lload hx hb dX12_longDivide_281 (lv_at hl 1 rfl) ?_
                            refine lv_lconst (v := jv 1) hx hb dX12_longDivide_283 (by decide) ?_
                            refine r_lsub hx hb dX12_longDivide_284 ?_
                            refine lv_lstore (lv' := [(15, .long (jv (g - 1))), (17, .long (jv rs)), (13, .long (jv top)), (12, .int (iv k)), (9, .int (iv ff)), (0, .ref (G.2.2.1 + 231)), (1, .ref (G.2.2.1 + ka)), (2, .int (iv po)), (3, .ref (G.2.2.1 + kb)), (4, .int (iv qo)), (5, .int (iv n)), (6, .int (iv mm)), (7, .ref (G.2.2.1 + kc)), (8, .int (iv ro))]) hx hb dX12_longDivide_285 hl (by decide) rfl (fun ls hl => ?_)
                            refine lv_lload hx hb dX12_longDivide_287 (lv_at hl 1 rfl) ?_
                            refine lv_aload_n hx hb dX12_longDivide_289 rfl (lv_at hl 5 rfl) ?_
                            refine g_X12_17 Cx hW (k := 231) (by decide) rfl (v := .ref (G.2.2.1 + 234)) (rd_3 hI150) dX12_longDivide_290 ?_
                            refine lv_iload hx hb dX12_longDivide_293 (lv_at hl 11 rfl) ?_
                            refine rIald Cx hW (k := 234) (by decide) rfl (by decide) (by omega) (by omega) dX12_longDivide_295 ?_
                            refine r_i (b := S89.2.1 234 mm) ((hL150_ 234 (pl_c (by decide) (pl_c (neS nkc234) rfl))).2.1 mm) ?_
                            refine r_i2l hx hb ⟨(by omega), (by omega)⟩ dX12_longDivide_296 ?_
                            refine r_ladd hx hb dX12_longDivide_297 ?_
                            refine lv_lstore (lv' := [(17, .long (jv (rs + (S89.2.1 234 mm)))), (15, .long (jv (g - 1))), (13, .long (jv top)), (12, .int (iv k)), (9, .int (iv ff)), (0, .ref (G.2.2.1 + 231)), (1, .ref (G.2.2.1 + ka)), (2, .int (iv po)), (3, .ref (G.2.2.1 + kb)), (4, .int (iv qo)), (5, .int (iv n)), (6, .int (iv mm)), (7, .ref (G.2.2.1 + kc)), (8, .int (iv ro))]) hx hb dX12_longDivide_298 hl (by decide) rfl (fun ls hl => ?_)
                            refine lv_goto (tgt := 221) hx hb dX12_longDivide_300 (by decide) ?_
                            exact ih_221 (rs + (S89.2.1 234 mm)) (g - 1) _ _ _ (by omega) (by omega) (by have e : 1 * S89.2.1 234 mm ≤ g * S89.2.1 234 mm := Int.mul_le_mul_of_nonneg_right (by omega) (by omega); omega) (by have e : (g - 1) * S89.2.1 234 mm = g * S89.2.1 234 mm - S89.2.1 234 mm := (by grind); omega) (by rw [show g - 1 + 1 = g by omega]; exact kn_lo1 (P := pw (mm - 2).toNat) (U3 := top * 1000000000 + S150.2.1 233 (k + mm - 2)) (ul := V (cf (S150.2.1 233) 0) (k - 1) (mm - 2).toNat) (V2 := S89.2.1 234 mm * 1000000000 + S89.2.1 234 (mm - 1)) (vl := V (cf (S89.2.1 234) 0) 0 (mm - 2).toNat) (by omega) (by rw [hU3, etop]) hul.2 hD2 hvl.1 (by omega) (by have e : g * (S89.2.1 234 mm * 1000000000 + S89.2.1 234 (mm - 1)) = 1000000000 * (g * S89.2.1 234 mm) + g * S89.2.1 234 (mm - 1) := (by grind); rw [e, ← epv]; omega)) hW hL (lv_sub hl [0, 1, 2, 3, 4, 5, 6, 7, 8, 9, 10, 11, 12, 13] rfl)
                    exact loop_221 (_ + 1) (top - pg) g1 _ _ _ (Nat.lt_succ_self _) (by omega) (by omega) (by rw [epg]) (if z : g0 ≤ 999999999 then kn_lo0 (P := 1000000000 * pw (mm - 2).toNat) (hd := top) (ul := S150.2.1 233 (k + mm - 2) * pw (mm - 2).toNat + V (cf (S150.2.1 233) 0) (k - 1) (mm - 2).toNat) (v1 := S89.2.1 234 mm) (vl := S89.2.1 234 (mm - 1) * pw (mm - 2).toNat + V (cf (S89.2.1 234) 0) 0 (mm - 2).toNat) (by omega) (by rw [hU3, etop]; grind) (by have e : S150.2.1 233 (k + mm - 2) * pw (mm - 2).toNat ≤ 999999999 * pw (mm - 2).toNat := Int.mul_le_mul_of_nonneg_right hL2.2 (by omega); omega) (by rw [hD2]; grind) (by have e : 0 ≤ S89.2.1 234 (mm - 1) * pw (mm - 2).toNat := Int.mul_nonneg hv2.1 (by omega); omega) (by omega) (by have e : g1 = g0 := (by omega); rw [e]; have e2 : (g0 + 1) * S89.2.1 234 mm = g0 * S89.2.1 234 mm + S89.2.1 234 mm := (by grind); omega) else (by rw [show g1 + 1 = 1000000000 by omega]; exact hUB)) hW hL (lv_sub hl [0, 1, 2, 3, 4, 5, 6, 7, 8, 9, 10, 11, 12, 13] rfl)
              exact loop_150 (_ + 1) S89 ((n - mm) + 1) _ _ _ (Nat.lt_succ_self _) hI89 hFm89 Fr.rf (by omega) (by rw [show n - mm + 1 - (n - mm + 1) = 0 by omega, show n - mm + 1 + mm = n + 1 by omega, hLe]; show _ = (0 : Int) * _ + _; omega) (by rw [show n - mm + 1 + mm = n + 1 by omega, hLe]; have e : pw (n - mm + 1).toNat * pw (mm - 1).toNat = pw n.toNat := (by rw [← pw_add]; congr 1; omega); have e2 : ff * nu (S.2.1 ka) po < ff * pw n.toNat := Int.mul_lt_mul_of_pos_left hAlt (by omega); have e3 : pw (n - mm + 1).toNat * (ff * pw (mm - 1).toNat) ≤ pw (n - mm + 1).toNat * (ff * nu (S.2.1 kb) qo) := Int.mul_le_mul_of_nonneg_left (Int.mul_le_mul_of_nonneg_left hBge (by omega)) (Int.le_of_lt (pw_pos _)); have e4 : pw (n - mm + 1).toNat * (ff * pw (mm - 1).toNat) = ff * pw n.toNat := (by rw [← e]; grind); omega) (fun t a b => by show 0 ≤ S89.2.1 233 (0 + (t + 1)) ∧ S89.2.1 233 (0 + (t + 1)) ≤ _; rw [eL]; exact if e : t = n then (by rw [show (0 : Int) + (t + 1) = n + 1 by omega, uA_on]; omega) else (by rw [uA_ne (fun q => by have := q.2; omega)]; exact hrr t a (by omega))) (fun t a b => absurd b (by omega)) (fun j _ => eC j) hW hL (lv_sub hl [0, 2, 3, 4, 5, 6, 7, 8, 9, 10, 11] rfl)
            · have hbi : 0 ≤ S.2.1 kb (qo + k2) ∧ S.2.1 kb (qo + k2) ≤ 999999999 := hB.2.1 _ (by omega) (by omega)
              refine lv_aload_n hx hb dX12_longDivide_96 rfl (lv_at hl 6 rfl) ?_
              refine lv_iload hx hb dX12_longDivide_97 (lv_at hl 7 rfl) ?_
              refine lv_iload hx hb dX12_longDivide_99 (lv_at hl 0 rfl) ?_
              refine r_iadd hx hb dX12_longDivide_101 ?_
              refine rIald Cx hW (k := kb) hikb.lt hikb.1 (by omega) (by omega) (by omega) dX12_longDivide_102 ?_
              have q_54 : (-2147483648) ≤ S.2.1 kb (qo + k2) ∧ S.2.1 kb (qo + k2) ≤ 2147483647 := hI.aj hikb.ge (qo + k2)
              refine r_i (b := S.2.1 kb (qo + k2)) (((hL89_ kb (p1_no (neD nkb234))).2.1 (qo + k2)).trans ((uA_ne (fun h => absurd h.1 (neD nkb233))).trans ((hL20_ kb (p1_no (neD nkb233))).2.1 (qo + k2)))) ?_
              refine r_i2l hx hb ⟨(by omega), (by omega)⟩ dX12_longDivide_103 ?_
              refine lv_iload hx hb dX12_longDivide_104 (lv_at hl 2 rfl) ?_
              refine r_i2l hx hb ⟨(by omega), (by omega)⟩ dX12_longDivide_106 ?_
              refine r_lmul hx hb dX12_longDivide_107 ?_
              obtain ⟨pb, epb⟩ : ∃ z : Int, z = (S.2.1 kb (qo + k2)) * ff := ⟨_, rfl⟩
              refine r_j (b := pb) epb.symm ?_
              have hpb : 0 ≤ pb ∧ pb ≤ 999999998000000001 := by rw [epb]; exact mul9 hbi (by omega)
              have hpb2 : pb ≤ 499999999500000000 := by have e := Int.mul_le_mul hbi.2 (show ff ≤ 500000000 by omega) (by omega) (by omega); rw [← epb] at e; omega
              refine lv_lload hx hb dX12_longDivide_108 (lv_at hl 1 rfl) ?_
              refine r_ladd hx hb dX12_longDivide_110 ?_
              obtain ⟨xt, ext⟩ : ∃ z : Int, z = pb + cz := ⟨_, rfl⟩
              refine r_j (b := xt) ext.symm ?_
              refine lv_lstore (lv' := [(13, .long (jv xt)), (12, .int (iv k2)), (10, .long (jv cz)), (9, .int (iv ff)), (0, .ref (G.2.2.1 + 231)), (1, .ref (G.2.2.1 + ka)), (2, .int (iv po)), (3, .ref (G.2.2.1 + kb)), (4, .int (iv qo)), (5, .int (iv n)), (6, .int (iv mm)), (7, .ref (G.2.2.1 + kc)), (8, .int (iv ro))]) hx hb dX12_longDivide_111 hl (by decide) rfl (fun ls hl => ?_)
              refine lv_aload_n hx hb dX12_longDivide_113 rfl (lv_at hl 4 rfl) ?_
              refine g_X12_17 Cx hW (k := 231) (by decide) rfl (v := .ref (G.2.2.1 + 234)) (rd_3 hI89) dX12_longDivide_114 ?_
              refine lv_iload hx hb dX12_longDivide_117 (lv_at hl 1 rfl) ?_
              refine lv_lload hx hb dX12_longDivide_119 (lv_at hl 0 rfl) ?_
              refine lv_ldc2 hx hb hown (hts _ w_2464) dX12_longDivide_121 ?_
              refine r_lrem hx hb ⟨(by omega), (by omega)⟩ ⟨(by omega), (by omega)⟩ (by omega) dX12_longDivide_124 ?_
              refine r_j (b := xt % 1000000000) (Int.tmod_eq_emod_of_nonneg (by omega)) ?_
              refine r_l2i hx hb dX12_longDivide_125 ?_
              refine rIast Cx hW hL (k := 234) (by decide) rfl (by decide) (by omega) (by omega) dX12_longDivide_126 (fun H locs hW hL => ?_)
              have F_55 : Fr S (uA S89 234 k2 (xt % 1000000000)) (pl [233, 234, kc]) := hFm89.A (pl_t pl_h)
              have F_56 : Fr ((uA S20 233 (n + 1) cy)) (uA S89 234 k2 (xt % 1000000000)) (p1 234) := hL89_.A rfl
              have i_57 : dX G (uA S89 234 k2 (xt % 1000000000)) := hI89.A (k := 234) (show (-2147483648) ≤ xt % 1000000000 ∧ xt % 1000000000 ≤ 2147483647 from ⟨by omega, by omega⟩)
              refine lv_lload hx hb dX12_longDivide_127 (lv_at hl 0 rfl) ?_
              refine lv_ldc2 hx hb hown (hts _ w_2464) dX12_longDivide_129 ?_
              refine r_ldiv hx hb ⟨(by omega), (by omega)⟩ ⟨(by omega), (by omega)⟩ (by omega) dX12_longDivide_132 ?_
              refine r_j (b := xt / 1000000000) (Int.tdiv_eq_ediv_of_nonneg (by omega)) ?_
              refine lv_lstore (lv' := [(10, .long (jv (xt / 1000000000))), (13, .long (jv xt)), (12, .int (iv k2)), (9, .int (iv ff)), (0, .ref (G.2.2.1 + 231)), (1, .ref (G.2.2.1 + ka)), (2, .int (iv po)), (3, .ref (G.2.2.1 + kb)), (4, .int (iv qo)), (5, .int (iv n)), (6, .int (iv mm)), (7, .ref (G.2.2.1 + kc)), (8, .int (iv ro))]) hx hb dX12_longDivide_133 hl (by decide) rfl (fun ls hl => ?_)
              refine lv_iinc (v := iv (k2 + 1)) (lv' := [(12, .int (iv (k2 + 1))), (10, .long (jv (xt / 1000000000))), (13, .long (jv xt)), (9, .int (iv ff)), (0, .ref (G.2.2.1 + 231)), (1, .ref (G.2.2.1 + ka)), (2, .int (iv po)), (3, .ref (G.2.2.1 + kb)), (4, .int (iv qo)), (5, .int (iv n)), (6, .int (iv mm)), (7, .ref (G.2.2.1 + kc)), (8, .int (iv ro))]) hx hb dX12_longDivide_135 hl (k := 2) rfl ((Int32.ofInt_add _ _).symm) (by decide) rfl (fun ls hl => ?_)
              refine lv_goto (tgt := 89) hx hb dX12_longDivide_138 (by decide) ?_
              exact ih_89 (uA S89 234 k2 (xt % 1000000000)) (k2 + 1) (xt / 1000000000) _ _ _ (by omega) i_57 F_55 F_56 (by omega) (by omega) (by have e := scS (c := cf (S89.2.1 234) 0) (c' := cf ((uA S89 234 k2 (xt % 1000000000)).2.1 234) 0) (A := lf (S.2.1 kb) qo (al (S.2.1 kb) qo)) (k := k2 - 1) (cy := cz) (l := xt % 1000000000) (x := xt / 1000000000) (F := ff) (by omega) hW2 (fun j a b => cf_v (by omega)) (cf_u (by omega)) (by rw [lf_at (by omega), Int.mul_comm ff, ← epb]; omega); rw [show k2 - 1 + 1 = k2 + 1 - 1 by omega] at e; exact e) (fun t a b => if e : t = k2 - 1 then (by rw [cf_u (by omega)]; omega) else (by rw [cf_v (by omega)]; exact hr2 t a (by omega))) hW hL (lv_sub hl [0, 1, 3, 4, 5, 6, 7, 8, 9, 10, 11, 12] rfl)
        exact loop_89 (_ + 1) (uA S20 233 (n + 1) cy) 1 0 _ _ _ (Nat.lt_succ_self _) i_5 F_3 Fr.rf (by omega) (by omega) (by show (0 : Int) + 0 * 1 = ff * 0; omega) (fun t a b => absurd b (by omega)) hW hL (lv_sub hl [0, 1, 2, 3, 4, 5, 6, 7, 8, 9, 10, 11] rfl)
      · have hai : 0 ≤ S.2.1 ka (po + k) ∧ S.2.1 ka (po + k) ≤ 999999999 := hA.2.1 _ (by omega) (by omega)
        refine lv_aload_n hx hb dX12_longDivide_27 rfl (lv_at hl 4 rfl) ?_
        refine lv_iload_n hx hb dX12_longDivide_28 rfl (lv_at hl 5 rfl) ?_
        refine lv_iload hx hb dX12_longDivide_29 (lv_at hl 0 rfl) ?_
        refine r_iadd hx hb dX12_longDivide_31 ?_
        refine rIald Cx hW (k := ka) hika.lt hika.1 (by omega) (by omega) (by omega) dX12_longDivide_32 ?_
        have q_58 : (-2147483648) ≤ S.2.1 ka (po + k) ∧ S.2.1 ka (po + k) ≤ 2147483647 := hI.aj hika.ge (po + k)
        refine r_i (b := S.2.1 ka (po + k)) ((hL20_ ka (p1_no (neD nka233))).2.1 (po + k)) ?_
        refine r_i2l hx hb ⟨(by omega), (by omega)⟩ dX12_longDivide_33 ?_
        refine lv_iload hx hb dX12_longDivide_34 (lv_at hl 2 rfl) ?_
        refine r_i2l hx hb ⟨(by omega), (by omega)⟩ dX12_longDivide_36 ?_
        refine r_lmul hx hb dX12_longDivide_37 ?_
        obtain ⟨pa, epa⟩ : ∃ z : Int, z = (S.2.1 ka (po + k)) * ff := ⟨_, rfl⟩
        refine r_j (b := pa) epa.symm ?_
        have hpa : 0 ≤ pa ∧ pa ≤ 999999998000000001 := by rw [epa]; exact mul9 hai (by omega)
        have hpa2 : pa ≤ 499999999500000000 := by have e := Int.mul_le_mul hai.2 (show ff ≤ 500000000 by omega) (by omega) (by omega); rw [← epa] at e; omega
        refine lv_lload hx hb dX12_longDivide_38 (lv_at hl 1 rfl) ?_
        refine r_ladd hx hb dX12_longDivide_40 ?_
        obtain ⟨xs, exs⟩ : ∃ z : Int, z = pa + cy := ⟨_, rfl⟩
        refine r_j (b := xs) exs.symm ?_
        refine lv_lstore (lv' := [(13, .long (jv xs)), (12, .int (iv k)), (10, .long (jv cy)), (9, .int (iv ff)), (0, .ref (G.2.2.1 + 231)), (1, .ref (G.2.2.1 + ka)), (2, .int (iv po)), (3, .ref (G.2.2.1 + kb)), (4, .int (iv qo)), (5, .int (iv n)), (6, .int (iv mm)), (7, .ref (G.2.2.1 + kc)), (8, .int (iv ro))]) hx hb dX12_longDivide_41 hl (by decide) rfl (fun ls hl => ?_)
        refine lv_aload_n hx hb dX12_longDivide_43 rfl (lv_at hl 4 rfl) ?_
        refine g_X12_13 Cx hW (k := 231) (by decide) rfl (v := .ref (G.2.2.1 + 233)) (rd_2 hI20) dX12_longDivide_44 ?_
        refine lv_iload hx hb dX12_longDivide_47 (lv_at hl 1 rfl) ?_
        refine lv_lload hx hb dX12_longDivide_49 (lv_at hl 0 rfl) ?_
        refine lv_ldc2 hx hb hown (hts _ w_2464) dX12_longDivide_51 ?_
        refine r_lrem hx hb ⟨(by omega), (by omega)⟩ ⟨(by omega), (by omega)⟩ (by omega) dX12_longDivide_54 ?_
        refine r_j (b := xs % 1000000000) (Int.tmod_eq_emod_of_nonneg (by omega)) ?_
        refine r_l2i hx hb dX12_longDivide_55 ?_
        refine rIast Cx hW hL (k := 233) (by decide) rfl (by decide) (by omega) (by omega) dX12_longDivide_56 (fun H locs hW hL => ?_)
        have F_59 : Fr S (uA S20 233 k (xs % 1000000000)) (pl [233, 234, kc]) := hFm20.A pl_h
        have F_60 : Fr S (uA S20 233 k (xs % 1000000000)) (p1 233) := hL20_.A rfl
        have i_61 : dX G (uA S20 233 k (xs % 1000000000)) := hI20.A (k := 233) (show (-2147483648) ≤ xs % 1000000000 ∧ xs % 1000000000 ≤ 2147483647 from ⟨by omega, by omega⟩)
        refine lv_lload hx hb dX12_longDivide_57 (lv_at hl 0 rfl) ?_
        refine lv_ldc2 hx hb hown (hts _ w_2464) dX12_longDivide_59 ?_
        refine r_ldiv hx hb ⟨(by omega), (by omega)⟩ ⟨(by omega), (by omega)⟩ (by omega) dX12_longDivide_62 ?_
        refine r_j (b := xs / 1000000000) (Int.tdiv_eq_ediv_of_nonneg (by omega)) ?_
        refine lv_lstore (lv' := [(10, .long (jv (xs / 1000000000))), (13, .long (jv xs)), (12, .int (iv k)), (9, .int (iv ff)), (0, .ref (G.2.2.1 + 231)), (1, .ref (G.2.2.1 + ka)), (2, .int (iv po)), (3, .ref (G.2.2.1 + kb)), (4, .int (iv qo)), (5, .int (iv n)), (6, .int (iv mm)), (7, .ref (G.2.2.1 + kc)), (8, .int (iv ro))]) hx hb dX12_longDivide_63 hl (by decide) rfl (fun ls hl => ?_)
        refine lv_iinc (v := iv (k + 1)) (lv' := [(12, .int (iv (k + 1))), (10, .long (jv (xs / 1000000000))), (13, .long (jv xs)), (9, .int (iv ff)), (0, .ref (G.2.2.1 + 231)), (1, .ref (G.2.2.1 + ka)), (2, .int (iv po)), (3, .ref (G.2.2.1 + kb)), (4, .int (iv qo)), (5, .int (iv n)), (6, .int (iv mm)), (7, .ref (G.2.2.1 + kc)), (8, .int (iv ro))]) hx hb dX12_longDivide_65 hl (k := 2) rfl ((Int32.ofInt_add _ _).symm) (by decide) rfl (fun ls hl => ?_)
        refine lv_goto (tgt := 20) hx hb dX12_longDivide_68 (by decide) ?_
        exact ih_20 (uA S20 233 k (xs % 1000000000)) (k + 1) (xs / 1000000000) _ _ _ (by omega) i_61 F_59 F_60 (by omega) (by omega) (by have e := scS (c := cf (S20.2.1 233) 0) (c' := cf ((uA S20 233 k (xs % 1000000000)).2.1 233) 0) (A := lf (S.2.1 ka) po (al (S.2.1 ka) po)) (k := k - 1) (cy := cy) (l := xs % 1000000000) (x := xs / 1000000000) (F := ff) (by omega) hV (fun j a b => cf_v (by omega)) (cf_u (by omega)) (by rw [lf_at (by omega), Int.mul_comm ff, ← epa]; omega); rw [show k - 1 + 1 = k + 1 - 1 by omega] at e; exact e) (fun t a b => if e : t = k - 1 then (by rw [cf_u (by omega)]; omega) else (by rw [cf_v (by omega)]; exact hrr t a (by omega))) hW hL (lv_sub hl [0, 1, 3, 4, 5, 6, 7, 8, 9, 10, 11, 12] rfl)
  exact loop_20 (_ + 1) S 1 0 _ _ _ (Nat.lt_succ_self _) hI (Fr.rf : Fr S S (pl [233, 234, kc])) Fr.rf (by omega) (by omega) (by show (0 : Int) + 0 * 1 = ff * 0; omega) (fun t a b => absurd b (by omega)) hW hL (lv_sub hl [0, 1, 2, 3, 4, 5, 6, 7, 8, 9, 10, 11] rfl)
