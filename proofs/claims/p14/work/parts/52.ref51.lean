theorem fA {S : sS} {a c : Nat} {i v : Int} (h : a ≠ c) : (uA S c i v).2.1 a = S.2.1 a := funext fun _ => uA_ne (fun q => h q.1)
theorem fFr {S u : sS} {P : pS} {a : Nat} (f : Fr S u P) (h : P a = false) : u.2.1 a = S.2.1 a := funext fun j => (f a h).2.1 j
theorem dv0 {NA NB Q R s : Int} (h : NA = NB * Q + R) (hR : 0 ≤ R ∧ R < NB) (hs : s = -1 ∨ s = 0 ∨ s = 1) : (s * R = 0 ∨ s = 1 → s * NA = NB * (s * Q) + s * R ∧ 0 ≤ s * R ∧ s * R < NB) ∧ (s * R ≠ 0 ∧ s ≠ 1 → s * NA = NB * (s * Q - 1) + (s * R + NB) ∧ 0 ≤ s * R + NB ∧ s * R + NB < NB) := by
  have e1 : s * NA = NB * (s * Q) + s * R := by rw [h]; grind
  have e2 : NB * (s * Q - 1) = NB * (s * Q) - NB := by grind
  rcases hs with q | q | q
  · have e3 : s * R = -R := by rw [q]; omega
    refine ⟨fun z => ⟨e1, by omega, by omega⟩, fun z => ⟨by omega, by omega, by omega⟩⟩
  · have e3 : s * R = 0 := by rw [q]; omega
    refine ⟨fun z => ⟨e1, by omega, by omega⟩, fun z => absurd e3 z.1⟩
  · have e3 : s * R = R := by rw [q]; omega
    refine ⟨fun z => ⟨e1, by omega, by omega⟩, fun z => absurd q z.2⟩
theorem NO.one {f : Int → Int} {p L : Int} (h : NO f p L) (e : nv f p = 1) : NO f p 1 := by
  have a := nv_abs h
  exact ⟨h.lim (n := 1) (by show nu f p < 1000000000 * 1; omega), h.2⟩
theorem sdS {c c' LA : Int → Int} {k w l b q r N NA : Int} (hk : 1 ≤ k ∧ k ≤ N) (h : NA = b * (V c k (N - k).toNat * pw k.toNat) + w * pw k.toNat + V LA 0 k.toNat) (hl : LA (k - 1) = l) (hc : ∀ t, k ≤ t → c' t = c t) (hq : c' (k - 1) = q) (h2 : w * 1000000000 + l = q * b + r) : NA = b * (V c' (k - 1) (N - (k - 1)).toNat * pw (k - 1).toNat) + r * pw (k - 1).toNat + V LA 0 (k - 1).toNat := by
  have e2 : V c' (k - 1) (N - (k - 1)).toNat = q + 1000000000 * V c k (N - k).toNat := by
    rw [show (N - (k - 1)).toNat = (N - k).toNat + 1 by omega, V_front, hq, show k - 1 + 1 = k by omega, show V c' k (N - k).toNat = V c k (N - k).toNat from V_cg (fun t t0 t1 => hc _ (by omega))]
  have e3 : pw k.toNat = 1000000000 * pw (k - 1).toNat := by rw [← pw_stp (by omega)]; congr 2; omega
  have e4 := V_topr (f := LA) (s := 0) (w := k) hk.1
  rw [show (0 : Int) + k - 1 = k - 1 by omega, hl] at e4
  rw [h, e2, e3, e4]
  have h3 : l = q * b + r - w * 1000000000 := by omega
  rw [h3]; grind
theorem qlt {x b q r w l : Int} (hb : 0 < b) (hq : q * b ≤ x) (hx : x = w * 1000000000 + l) (hw : 0 ≤ w ∧ w < b) (hl : l ≤ 999999999) : q ≤ 999999999 := by
  have : q < 1000000000 := lt_of_m (l := b) hb hq (by have : (w + 1) * 1000000000 ≤ b * 1000000000 := Int.mul_le_mul_of_nonneg_right (by omega) (by omega); omega)
  omega
/-- what is divided by its factor again -/
theorem fdiv_e {f Q R VL Vd r : Int} (hf : 0 < f) (h1 : VL = f * R) (h2 : VL = f * Vd + r) (hr : 0 ≤ r ∧ r < f) : Vd = R ∧ r = 0 := by
  have e : f * (R - Vd) = r := by rw [Int.mul_sub]; omega
  rcases (by omega : R - Vd ≤ -1 ∨ R - Vd = 0 ∨ 1 ≤ R - Vd) with q | q | q
  · have := Int.mul_le_mul_of_nonneg_left q (Int.le_of_lt hf); omega
  · rw [q] at e; omega
  · have := Int.mul_le_mul_of_nonneg_left q (Int.le_of_lt hf); omega
theorem nu_1 {g : Int → Int} {q : Int} (h : al g q = 1) : nu g q = g (q + 1) := by
  unfold nu; rw [h]
  show 0 + g (q + 1 + ((0 : Nat) : Int)) * 1 = _
  rw [show q + 1 + ((0 : Nat) : Int) = q + 1 by omega]; omega
theorem nv_1 {g : Int → Int} {q : Int} (h : 0 < g q) : nv g q = nu g q := by unfold nv; rw [(sg_e (f := g) (p := q)).2.1 h]; omega
theorem ld_R {f Q NB NA VL : Int} (hf : 0 < f) (h : Q * (f * NB) + VL = f * NA) (h2 : VL < f * NB) (h0 : 0 ≤ VL) : VL = f * (NA - NB * Q) ∧ 0 ≤ NA - NB * Q ∧ NA - NB * Q < NB := by
  have e : VL = f * (NA - NB * Q) := by
    have : f * (NA - NB * Q) = f * NA - Q * (f * NB) := by grind
    omega
  refine ⟨e, ?_, ?_⟩
  · rcases Int.lt_or_le (NA - NB * Q) 0 with q | q
    · have := Int.mul_le_mul_of_nonneg_left (show NA - NB * Q ≤ -1 by omega) (Int.le_of_lt hf); omega
    · exact q
  · rw [e] at h2; exact Int.lt_of_mul_lt_mul_left h2 (Int.le_of_lt hf)
theorem tmodQ {a b : Int} (h0 : 0 ≤ a) (hb : 0 < b) : 0 ≤ a.tmod b ∧ a.tmod b < b := ⟨Int.tmod_nonneg b h0, Int.tmod_lt_of_pos a hb⟩
/-! Frames of the fields of 231; sets by lists -/
def fl (L : List Nat) (i : Nat) : Bool := L.any (Nat.beq i)
def FF (S u : sS) (I : Nat → Bool) : Prop := ∀ i, I i = false → u.1 231 i = S.1 231 i
theorem FF.rf {S : sS} {I : Nat → Bool} : FF S S I := fun _ _ => rfl
theorem FF.trans {S T U : sS} {I : Nat → Bool} (h : FF S T I) (g : FF T U I) : FF S U I := fun i hi => (g i hi).trans (h i hi)
theorem FF.to {S u : sS} {I J : Nat → Bool} (h : FF S u I) (g : ∀ i, I i = true → J i = true) : FF S u J := fun i hi => h i (by
  cases e : I i
  · rfl
  · rw [g i e] at hi; cases hi)
theorem FF.F {S u : sS} {I : Nat → Bool} {i : Nat} {v : Int} (h : FF S u I) (hi : I i = true) : FF S (uF u 231 i v) I := fun j hj => (uF_i (fun q => by rw [q, hi] at hj; cases hj)).trans (h j hj)
theorem FF.fr {S T u : sS} {I : Nat → Bool} {P : pS} (h : FF S T I) (f : Fr T u P) (hp : P 231 = false) : FF S u I := fun j hj => ((f 231 hp).1 j).trans (h j hj)
theorem fl_sub {L L' : List Nat} (h : ∀ x ∈ L, fl L' x = true) : ∀ i, fl L i = true → fl L' i = true := fun i hi => h i (any_beq hi)
set_option maxRecDepth 100000 in
set_option maxHeartbeats 4000000 in
theorem s_X12_divide (l : Launch) (G : sG) (S : sS) {ka kb kc kd Nka Nkb Nkc Nkd : Nat} {po qo ro eo La Lb Ld : Int} (hI : dX G S) (hika : ia ka Nka) (hikb : ia kb Nkb) (hikc : ia kc Nkc) (hikd : ia kd Nkd) (nkcka : Hd (kc ≠ ka)) (nkdka : Hd (kd ≠ ka)) (nkckb : Hd (kc ≠ kb)) (nkdkb : Hd (kd ≠ kb)) (nkckd : Hd (kc ≠ kd)) (nka233 : Hd (ka ≠ 233)) (nkb233 : Hd (kb ≠ 233)) (nkb234 : Hd (kb ≠ 234)) (nkb235 : Hd (kb ≠ 235)) (nkc233 : Hd (kc ≠ 233)) (nkc234 : Hd (kc ≠ 234)) (nkc235 : Hd (kc ≠ 235)) (nkd233 : Hd (kd ≠ 233)) (nkd234 : Hd (kd ≠ 234)) (nkd235 : Hd (kd ≠ 235)) (hR : (0 ≤ po ∧ po + La < Nka) ∧ (0 ≤ qo ∧ qo + Lb < Nkb) ∧ (0 ≤ ro ∧ ro + La + 1 < Nkc) ∧ (0 ≤ eo ∧ eo + Ld < Nkd) ∧ (1 ≤ La ∧ La ≤ 63) ∧ 3 ≤ Ld ∧ Lb + 1 ≤ Ld ∧ Ld ≤ 64) (hbp : 0 < S.2.1 kb qo) (hA : NO (S.2.1 ka) po La) (hB : NO (S.2.1 kb) qo Lb) : Met l yX12_divide (.code yX12_divide cX12_divide 19 none :: tb) (rmk 5 0 0) (sPc G 294 S [.ref (G.2.2.1 + 231), .ref (G.2.2.1 + ka), .int (iv po), .ref (G.2.2.1 + kb), .int (iv qo), .ref (G.2.2.1 + kc), .int (iv ro), .ref (G.2.2.1 + kd), .int (iv eo)]) (sQv G 294 (fun u => dX G u ∧ Fr S u (pl [233, 234, 235, kc, kd]) ∧ (NO (u.2.1 kc) ro (La + 1) ∧ NO (u.2.1 kd) eo Ld ∧ (nv (S.2.1 ka) po = nv (S.2.1 kb) qo * nv (u.2.1 kc) ro + nv (u.2.1 kd) eo ∧ 0 ≤ nv (u.2.1 kd) eo ∧ nv (u.2.1 kd) eo < nv (S.2.1 kb) qo) ∧ (∀ j, j < ro ∨ ro + La + 1 < j → u.2.1 kc j = S.2.1 kc j) ∧ (∀ j, j < eo ∨ eo + Ld < j → u.2.1 kd j = S.2.1 kd j)))) 0 0 (sF G) := by
  refine sEnter (by decide) (Nat.le_of_ble_eq_true rfl) ?_
  intro p e s m args below meth c Cx hr hlk hnm hW ls hl
  have Cx : sC G p m c cX12_divide 19 s args RX12 := Cx
  obtain ⟨hx, hb, hml, hown, hts⟩ := id Cx.1
  have hL : sL G [] := sL_nil
  have hl : lv_has ls 19 [(0, .ref (G.2.2.1 + 231)), (1, .ref (G.2.2.1 + ka)), (2, .int (iv po)), (3, .ref (G.2.2.1 + kb)), (4, .int (iv qo)), (5, .ref (G.2.2.1 + kc)), (6, .int (iv ro)), (7, .ref (G.2.2.1 + kd)), (8, .int (iv eo))] := hl
  have hW0 := hW
  have hN := hika.2.2.2.1
  have hNb := hikb.2.2.2.1
  have hNc := hikc.2.2.2.1
  have hNd := hikd.2.2.2.1
  have hA0 := hA.1
  have hB0 := hB.1
  have hA1 := hA.b
  have hB1 := hB.b
  have hAn := al_0 (S.2.1 ka) po
  have hseA := sg_e (f := S.2.1 ka) (p := po)
  have hseB := sg_e (f := S.2.1 kb) (p := qo)
  have haeA := al_e (f := S.2.1 ka) (p := po)
  have haeB := al_e (f := S.2.1 kb) (p := qo)
  have hbv := nv_1 (g := S.2.1 kb) (q := qo) hbp
  refine lv_aload_n hx hb dX12_divide_0 rfl (lv_at hl 1 rfl) ?_
  refine lv_iload_n hx hb dX12_divide_1 rfl (lv_at hl 2 rfl) ?_
  refine sBi (sSt (As := [.ref (G.2.2.1 + ka), .int (iv po)]) (rest := []) Cx (s_X12_limbs l G S (ka := ka) (po := po) (Nka := Nka) hI hika (by omega) (by omega)) (c_X12_221 Cx rfl rfl (rmk_ok (by omega) (by decide))) hW rfl hl.1 rfl (Nat.le_of_ble_eq_true rfl) dX12_divide_2 ⟨Nat.le_of_ble_eq_true rfl, Nat.le_of_ble_eq_true rfl⟩) hL (fun n u_1 H locs k_2 hW hL => ?_)
  obtain ⟨eu_1, xu_1⟩ := k_2
  rw [eu_1] at hW
  refine lv_istore (lv' := [(9, .int (iv n)), (0, .ref (G.2.2.1 + 231)), (1, .ref (G.2.2.1 + ka)), (2, .int (iv po)), (3, .ref (G.2.2.1 + kb)), (4, .int (iv qo)), (5, .ref (G.2.2.1 + kc)), (6, .int (iv ro)), (7, .ref (G.2.2.1 + kd)), (8, .int (iv eo))]) hx hb dX12_divide_5 hl (by decide) rfl (fun ls hl => ?_)
  refine lv_aload_n hx hb dX12_divide_7 rfl (lv_at hl 4 rfl) ?_
  refine lv_iload hx hb dX12_divide_8 (lv_at hl 5 rfl) ?_
  refine sBi (sSt (As := [.ref (G.2.2.1 + kb), .int (iv qo)]) (rest := []) Cx (s_X12_limbs l G S (ka := kb) (po := qo) (Nka := Nkb) hI hikb (by omega) (by omega)) (c_X12_221 Cx rfl rfl (rmk_ok (by omega) (by decide))) hW rfl hl.1 rfl (Nat.le_of_ble_eq_true rfl) dX12_divide_10 ⟨Nat.le_of_ble_eq_true rfl, Nat.le_of_ble_eq_true rfl⟩) hL (fun mm u_3 H locs k_4 hW hL => ?_)
  obtain ⟨eu_3, xu_3⟩ := k_4
  rw [eu_3] at hW
  refine lv_istore (lv' := [(10, .int (iv mm)), (9, .int (iv n)), (0, .ref (G.2.2.1 + 231)), (1, .ref (G.2.2.1 + ka)), (2, .int (iv po)), (3, .ref (G.2.2.1 + kb)), (4, .int (iv qo)), (5, .ref (G.2.2.1 + kc)), (6, .int (iv ro)), (7, .ref (G.2.2.1 + kd)), (8, .int (iv eo))]) hx hb dX12_divide_13 hl (by decide) rfl (fun ls hl => ?_)
  refine lv_aload_n hx hb dX12_divide_15 rfl (lv_at hl 3 rfl) ?_
  refine lv_iload_n hx hb dX12_divide_16 rfl (lv_at hl 4 rfl) ?_
  refine sBi (sSt (As := [.ref (G.2.2.1 + ka), .int (iv po)]) (rest := []) Cx (s_X12_sign l G S (ka := ka) (po := po) (Nka := Nka) hI hika (by omega)) (c_X12_225 Cx rfl rfl (rmk_ok (by omega) (by decide))) hW rfl hl.1 rfl (Nat.le_of_ble_eq_true rfl) dX12_divide_17 ⟨Nat.le_of_ble_eq_true rfl, Nat.le_of_ble_eq_true rfl⟩) hL (fun sa u_5 H locs k_6 hW hL => ?_)
  obtain ⟨eu_5, xu_5⟩ := k_6
  rw [eu_5] at hW
  refine lv_istore (lv' := [(11, .int (iv sa)), (10, .int (iv mm)), (9, .int (iv n)), (0, .ref (G.2.2.1 + 231)), (1, .ref (G.2.2.1 + ka)), (2, .int (iv po)), (3, .ref (G.2.2.1 + kb)), (4, .int (iv qo)), (5, .ref (G.2.2.1 + kc)), (6, .int (iv ro)), (7, .ref (G.2.2.1 + kd)), (8, .int (iv eo))]) hx hb dX12_divide_20 hl (by decide) rfl (fun ls hl => ?_)
  refine lv_aload_n hx hb dX12_divide_22 rfl (lv_at hl 6 rfl) ?_
  refine lv_iload hx hb dX12_divide_23 (lv_at hl 7 rfl) ?_
  refine sBi (sSt (As := [.ref (G.2.2.1 + kb), .int (iv qo)]) (rest := []) Cx (s_X12_sign l G S (ka := kb) (po := qo) (Nka := Nkb) hI hikb (by omega)) (c_X12_225 Cx rfl rfl (rmk_ok (by omega) (by decide))) hW rfl hl.1 rfl (Nat.le_of_ble_eq_true rfl) dX12_divide_25 ⟨Nat.le_of_ble_eq_true rfl, Nat.le_of_ble_eq_true rfl⟩) hL (fun sb u_7 H locs k_8 hW hL => ?_)
  obtain ⟨eu_7, xu_7⟩ := k_8
  rw [eu_7] at hW
  refine lv_istore (lv' := [(12, .int (iv sb)), (11, .int (iv sa)), (10, .int (iv mm)), (9, .int (iv n)), (0, .ref (G.2.2.1 + 231)), (1, .ref (G.2.2.1 + ka)), (2, .int (iv po)), (3, .ref (G.2.2.1 + kb)), (4, .int (iv qo)), (5, .ref (G.2.2.1 + kc)), (6, .int (iv ro)), (7, .ref (G.2.2.1 + kd)), (8, .int (iv eo))]) hx hb dX12_divide_28 hl (by decide) rfl (fun ls hl => ?_)
  have join_275 : ∀ (S275 : sS)  (H : Heap) (locs : List Loc) (ls : Array Slot), (dX G S275) → (Fr S S275 (pl [233, 234, 235, kc, kd])) → (Fr S S275 (pl [233, 234, 235, kc, kd])) → (NO (S275.2.1 kc) ro La) → (NO (S275.2.1 kd) eo Ld) → (Hd (∃ Q R : Int, nv (S275.2.1 kc) ro = sa * Q ∧ nv (S275.2.1 kd) eo = sa * R ∧ nu (S.2.1 ka) po = nu (S.2.1 kb) qo * Q + R ∧ 0 ≤ R ∧ R < nu (S.2.1 kb) qo)) → (∀ j, j < ro ∨ ro + La + 1 < j → S275.2.1 kc j = S.2.1 kc j) → (∀ j, j < eo ∨ eo + Ld < j → S275.2.1 kd j = S.2.1 kd j) → sW G 294 S275 H → sL G locs → lv_has ls 19 [(12, .int (iv sb)), (11, .int (iv sa)), (10, .int (iv mm)), (9, .int (iv n)), (0, .ref (G.2.2.1 + 231)), (1, .ref (G.2.2.1 + ka)), (2, .int (iv po)), (3, .ref (G.2.2.1 + kb)), (4, .int (iv qo)), (5, .ref (G.2.2.1 + kc)), (6, .int (iv ro)), (7, .ref (G.2.2.1 + kd)), (8, .int (iv eo))] → W p l e (rmk 5 0 0) s m args below meth c H locs 0 0 (MQ below (sQv G 294 (fun u => dX G u ∧ Fr S u (pl [233, 234, 235, kc, kd]) ∧ (NO (u.2.1 kc) ro (La + 1) ∧ NO (u.2.1 kd) eo Ld ∧ (nv (S.2.1 ka) po = nv (S.2.1 kb) qo * nv (u.2.1 kc) ro + nv (u.2.1 kd) eo ∧ 0 ≤ nv (u.2.1 kd) eo ∧ nv (u.2.1 kd) eo < nv (S.2.1 kb) qo) ∧ (∀ j, j < ro ∨ ro + La + 1 < j → u.2.1 kc j = S.2.1 kc j) ∧ (∀ j, j < eo ∨ eo + Ld < j → u.2.1 kd j = S.2.1 kd j)))) args s 0 0 (sF G)) (F0 m 275 ls []) := by
    intro S275  H locs ls hI275 hFm275 hL275_ hNC hND hQR hOC hOD hW hL hl
    obtain ⟨Q, R, hQ1, hQ2, hQ3, hQ4, hQ5⟩ := hQR
    have hdv := dv0 (s := sa) hQ3 ⟨hQ4, hQ5⟩ (by omega)
    have hsD := hND.sgn
    have hva : nv (S.2.1 ka) po = sa * nu (S.2.1 ka) po := by unfold nv; rw [← (show sa = sg (S.2.1 ka) po by omega)]
    have hDb := hND.b
    refine lv_aload hx hb dX12_divide_275 (lv_at hl 11 rfl) ?_
    refine lv_iload hx hb dX12_divide_277 (lv_at hl 12 rfl) ?_
    refine rIald Cx hW (k := kd) hikd.lt hikd.1 (by omega) (by omega) (by omega) dX12_divide_279 ?_
    have q_9 : (-2147483648) ≤ S275.2.1 kd eo ∧ S275.2.1 kd eo ≤ 2147483647 := hI275.aj hikd.ge eo
    refine r_i (b := S275.2.1 kd eo) rfl ?_
    refine r_if_eq (tgt := 331) hx hb ⟨(by omega), (by omega)⟩ dX12_divide_280 (by decide) (fun c_10 => ?_) (fun c_10 => ?_)
    · exact sVret Cx hr hlk hW hL ⟨hI275, hFm275, ⟨hNC.mono (by omega), hND, (by have e := hdv.1 (by rw [← hQ2]; omega); rw [hva, hbv, hQ1, hQ2]; exact ⟨e.1, e.2.1, e.2.2⟩), hOC, hOD⟩⟩ dX12_divide_331
    · refine lv_iload hx hb dX12_divide_283 (lv_at hl 1 rfl) ?_
      refine lv_iload hx hb dX12_divide_285 (lv_at hl 0 rfl) ?_
      refine r_icmp_eq (tgt := 331) hx hb ⟨(by omega), (by omega)⟩ ⟨(by omega), (by omega)⟩ dX12_divide_287 (by decide) (fun c_11 => ?_) (fun c_11 => ?_)
      · exact sVret Cx hr hlk hW hL ⟨hI275, hFm275, ⟨hNC.mono (by omega), hND, (by have e := hdv.1 (by rw [← hQ2]; omega); rw [hva, hbv, hQ1, hQ2]; exact ⟨e.1, e.2.1, e.2.2⟩), hOC, hOD⟩⟩ dX12_divide_331
      · have hND2 : NO (S275.2.1 kd) eo Lb := ⟨by have e := nv_abs hND; have e2 := hND.lim (n := mm.toNat) (by have e3 : nu (S.2.1 kb) qo < pw mm.toNat := (by rw [show mm = al (S.2.1 kb) qo by omega]; exact hB.nul); rw [hQ2] at e; have e4 := sgm (h := sa * R) (s := sa) (k := R) rfl (by omega); omega); omega, hND.2⟩
        refine lv_aload_n hx hb dX12_divide_290 rfl (lv_at hl 4 rfl) ?_
        refine g_X12_20 Cx hW (k := 231) (by decide) rfl (v := .ref (G.2.2.1 + 235)) (rd_4 hI275) dX12_divide_291 ?_
        refine lv_iconst (v := iv 0) hx hb dX12_divide_294 (by decide) ?_
        refine lv_lconst (v := jv 1) hx hb dX12_divide_295 (by decide) ?_
        refine sBv (sSt (As := [.ref (G.2.2.1 + 235), .int (iv 0), .long (jv 1)]) (rest := []) Cx (s_X12_put l G S275 (ka := 235) (po := 0) (v := 1) (Nka := 4) hI275 ⟨rfl, by decide, by decide, by decide, rfl⟩ (by omega) (by omega)) (c_X12_241 Cx rfl rfl (rmk_ok (by omega) (by decide))) hW rfl hl.1 rfl (Nat.le_of_ble_eq_true rfl) dX12_divide_296 ⟨Nat.le_of_ble_eq_true rfl, Nat.le_of_ble_eq_true rfl⟩) hL (fun u_12 H locs k_13 hW hL => ?_)
        obtain ⟨iu_12, fu_12, xu_12⟩ := k_13
        have F_14 := hFm275.trans (fu_12.to (p1_sub (pl_t (pl_t pl_h))))
        have F_15 := hL275_.trans (fu_12.to (p1_sub (pl_t (pl_t pl_h))))
        refine lv_aload hx hb dX12_divide_299 (lv_at hl 9 rfl) ?_
        refine lv_iload hx hb dX12_divide_301 (lv_at hl 10 rfl) ?_
        refine lv_aload_n hx hb dX12_divide_303 rfl (lv_at hl 4 rfl) ?_
        refine g_X12_20 Cx hW (k := 231) (by decide) rfl (v := .ref (G.2.2.1 + 235)) (rd_4 iu_12) dX12_divide_304 ?_
        refine lv_iconst (v := iv 0) hx hb dX12_divide_307 (by decide) ?_
        refine lv_iconst (v := iv 1) hx hb dX12_divide_308 (by decide) ?_
        refine lv_aload hx hb dX12_divide_309 (lv_at hl 9 rfl) ?_
        refine lv_iload hx hb dX12_divide_311 (lv_at hl 10 rfl) ?_
        refine sBv (sSt (As := [.ref (G.2.2.1 + kc), .int (iv ro), .ref (G.2.2.1 + 235), .int (iv 0), .int (iv 1), .ref (G.2.2.1 + kc), .int (iv ro)]) (rest := []) Cx (s_X12_add l G u_12 (ka := kc) (po := ro) (kb := 235) (qo := 0) (lz := 1) (kc := kc) (ro := ro) (Nka := Nkc) (Nkb := 4) (Nkc := Nkc) (La := La) (Lb := 1) (Lc := La + 1) iu_12 hikc ⟨rfl, by decide, by decide, by decide, rfl⟩ hikc (neD nkc235) (fun _ => rfl) (by omega) (by omega) (by rw [show u_12.2.1 kc = S275.2.1 kc from funext fun j => (fu_12 kc (p1_no (neD nkc235))).2.1 j]; exact hNC) (NO.one xu_12.1 xu_12.2.1)) (c_X12_249 Cx rfl rfl (rmk_ok (by omega) (by decide))) hW rfl hl.1 rfl (Nat.le_of_ble_eq_true rfl) dX12_divide_313 ⟨Nat.le_of_ble_eq_true rfl, Nat.le_of_ble_eq_true rfl⟩) hL (fun u_16 H locs k_17 hW hL => ?_)
        obtain ⟨iu_16, fu_16, xu_16⟩ := k_17
        have F_18 := F_14.trans (fu_16.to (p1_sub (pl_t (pl_t (pl_t pl_h)))))
        have F_19 := F_15.trans (fu_16.to (p1_sub (pl_t (pl_t (pl_t pl_h)))))
        refine lv_aload hx hb dX12_divide_316 (lv_at hl 11 rfl) ?_
        refine lv_iload hx hb dX12_divide_318 (lv_at hl 12 rfl) ?_
        refine lv_aload_n hx hb dX12_divide_320 rfl (lv_at hl 7 rfl) ?_
        refine lv_iload hx hb dX12_divide_321 (lv_at hl 8 rfl) ?_
        refine lv_iconst (v := iv 0) hx hb dX12_divide_323 (by decide) ?_
        refine lv_aload hx hb dX12_divide_324 (lv_at hl 11 rfl) ?_
        refine lv_iload hx hb dX12_divide_326 (lv_at hl 12 rfl) ?_
        refine sBv (sSt (As := [.ref (G.2.2.1 + kd), .int (iv eo), .ref (G.2.2.1 + kb), .int (iv qo), .int (iv 0), .ref (G.2.2.1 + kd), .int (iv eo)]) (rest := []) Cx (s_X12_add l G u_16 (ka := kd) (po := eo) (kb := kb) (qo := qo) (lz := 0) (kc := kd) (ro := eo) (Nka := Nkd) (Nkb := Nkb) (Nkc := Nkd) (La := Lb) (Lb := Lb) (Lc := Ld) iu_16 hikd hikb hikd (neD nkdkb) (fun _ => rfl) (by omega) (by omega) (by rw [show u_16.2.1 kd = S275.2.1 kd from funext fun j => ((fu_16 kd (p1_no (neS nkckd))).2.1 j).trans ((fu_12 kd (p1_no (neD nkd235))).2.1 j)]; exact hND2) (by rw [show u_16.2.1 kb = S.2.1 kb from (funext fun j => ((fu_16 kb (p1_no (neS nkckb))).2.1 j).trans (((fu_12 kb (p1_no (neD nkb235))).2.1 j).trans ((hL275_ kb (pl_c (neD nkb233) (pl_c (neD nkb234) (pl_c (neD nkb235) (pl_c (neS nkckb) (pl_c (neS nkdkb) rfl)))))).2.1 j)) : u_16.2.1 kb = S.2.1 kb)]; exact hB)) (c_X12_249 Cx rfl rfl (rmk_ok (by omega) (by decide))) hW rfl hl.1 rfl (Nat.le_of_ble_eq_true rfl) dX12_divide_328 ⟨Nat.le_of_ble_eq_true rfl, Nat.le_of_ble_eq_true rfl⟩) hL (fun u_20 H locs k_21 hW hL => ?_)
        obtain ⟨iu_20, fu_20, xu_20⟩ := k_21
        have F_22 := F_18.trans (fu_20.to (p1_sub (pl_t (pl_t (pl_t (pl_t pl_h))))))
        have F_23 := F_19.trans (fu_20.to (p1_sub (pl_t (pl_t (pl_t (pl_t pl_h))))))
        exact sVret Cx hr hlk hW hL ⟨iu_20, F_22, ⟨(by rw [show u_20.2.1 kc = u_16.2.1 kc from funext fun j => (fu_20 kc (p1_no (neD nkckd))).2.1 j]; exact xu_16.1), xu_20.1, (by have e1 : nv (u_16.2.1 kc) ro = sa * Q - 1 := (by rw [xu_16.2.1, show u_12.2.1 kc = S275.2.1 kc from funext fun j => (fu_12 kc (p1_no (neD nkc235))).2.1 j, hQ1]; unfold asn; rw [if_neg (by decide), xu_12.2.1]; omega); have e2 : nv (u_20.2.1 kd) eo = sa * R + nu (S.2.1 kb) qo := (by rw [xu_20.2.1, show u_16.2.1 kd = S275.2.1 kd from funext fun j => ((fu_16 kd (p1_no (neS nkckd))).2.1 j).trans ((fu_12 kd (p1_no (neD nkd235))).2.1 j), show u_16.2.1 kb = S.2.1 kb from (funext fun j => ((fu_16 kb (p1_no (neS nkckb))).2.1 j).trans (((fu_12 kb (p1_no (neD nkb235))).2.1 j).trans ((hL275_ kb (pl_c (neD nkb233) (pl_c (neD nkb234) (pl_c (neD nkb235) (pl_c (neS nkckb) (pl_c (neS nkdkb) rfl)))))).2.1 j)) : u_16.2.1 kb = S.2.1 kb), hQ2, hbv]; unfold asn; rw [if_pos rfl]); have e := hdv.2 ⟨by rw [← hQ2]; omega, by omega⟩; rw [show u_20.2.1 kc = u_16.2.1 kc from funext fun j => (fu_20 kc (p1_no (neD nkckd))).2.1 j, hva, hbv, e1, e2]; exact ⟨e.1, e.2.1, e.2.2⟩), (fun j a => by rw [show u_20.2.1 kc = u_16.2.1 kc from funext fun j => (fu_20 kc (p1_no (neD nkckd))).2.1 j, xu_16.2.2 j (by omega), show u_12.2.1 kc j = S275.2.1 kc j from (fu_12 kc (p1_no (neD nkc235))).2.1 j]; exact hOC j a), (fun j a => by rw [xu_20.2.2 j (by omega), show u_16.2.1 kd j = S275.2.1 kd j from ((fu_16 kd (p1_no (neS nkckd))).2.1 j).trans ((fu_12 kd (p1_no (neD nkd235))).2.1 j)]; exact hOD j a)⟩⟩ dX12_divide_331
  refine lv_iload hx hb dX12_divide_30 (lv_at hl 3 rfl) ?_
  refine lv_iload hx hb dX12_divide_32 (lv_at hl 2 rfl) ?_
  refine r_icmp_ge (tgt := 55) hx hb ⟨(by omega), (by omega)⟩ ⟨(by omega), (by omega)⟩ dX12_divide_34 (by decide) (fun c_24 => ?_) (fun c_24 => ?_)
  · refine lv_iload hx hb dX12_divide_55 (lv_at hl 2 rfl) ?_
    refine lv_iconst (v := iv 1) hx hb dX12_divide_57 (by decide) ?_
    refine r_icmp_ne (tgt := 156) hx hb ⟨(by omega), (by omega)⟩ ⟨(by omega), (by omega)⟩ dX12_divide_58 (by decide) (fun c_25 => ?_) (fun c_25 => ?_)
    · have hbm : 1 ≤ S.2.1 kb (qo + mm) ∧ S.2.1 kb (qo + mm) ≤ 999999999 := by have e := hB.2.1 (qo + mm) (by omega) (by omega); have e2 := hB.2.2 (by omega); rw [show al (S.2.1 kb) qo = mm by omega] at e2; omega
      refine lv_aload_n hx hb dX12_divide_156 rfl (lv_at hl 4 rfl) ?_
      refine lv_aload_n hx hb dX12_divide_157 rfl (lv_at hl 5 rfl) ?_
      refine lv_iload_n hx hb dX12_divide_158 rfl (lv_at hl 6 rfl) ?_
      refine lv_aload_n hx hb dX12_divide_159 rfl (lv_at hl 7 rfl) ?_
      refine lv_iload hx hb dX12_divide_160 (lv_at hl 8 rfl) ?_
      refine lv_iload hx hb dX12_divide_162 (lv_at hl 3 rfl) ?_
      refine lv_iload hx hb dX12_divide_164 (lv_at hl 2 rfl) ?_
      refine lv_aload hx hb dX12_divide_166 (lv_at hl 9 rfl) ?_
      refine lv_iload hx hb dX12_divide_168 (lv_at hl 10 rfl) ?_
      refine sBv (sV (As := [.ref (G.2.2.1 + ka), .int (iv po), .ref (G.2.2.1 + kb), .int (iv qo), .int (iv n), .int (iv mm), .ref (G.2.2.1 + kc), .int (iv ro)]) (rest := []) (k := 231) Cx (s_X12_longDivide l G S (ka := ka) (po := po) (kb := kb) (qo := qo) (n := n) (mm := mm) (kc := kc) (ro := ro) (Nka := Nka) (Nkb := Nkb) (Nkc := Nkc) (La := La) (Lb := Lb) hI hika hikb hikc (neD nka233) (neD nkb233) (neD nkb234) (neD nkc233) (neD nkc234) (by omega) (by omega) hA hB) (c_X12_245 Cx rfl rfl (rmk_ok (by omega) (by decide))) hW (by decide) rfl rfl rfl hl.1 rfl (Nat.le_of_ble_eq_true rfl) dX12_divide_170 ⟨Nat.le_of_ble_eq_true rfl, Nat.le_of_ble_eq_true rfl⟩) hL (fun u_26 H locs k_27 hW hL => ?_)
      obtain ⟨iu_26, fu_26, xu_26⟩ := k_27
      have F_28 := (Fr.rf : Fr S S (pl [233, 234, 235, kc, kd])).trans (fu_26.to (pl_s pl_h (pl_s (pl_t pl_h) (pl_s (pl_t (pl_t (pl_t pl_h))) pl_nil))))
      have F_29 := (Fr.rf : Fr S S (pl [233, 234, 235, kc, kd])).trans (fu_26.to (pl_s pl_h (pl_s (pl_t pl_h) (pl_s (pl_t (pl_t (pl_t pl_h))) pl_nil))))
      have hlt1 := xu_26.2.1
      have hff0 : 0 < 1000000000 / (S.2.1 kb (qo + mm) + 1) := (kn_f (t := S.2.1 kb (qo + mm)) (by omega) (by omega) (Int.ediv_mul_le _ (by omega)) (by have := Int.lt_ediv_add_one_mul_self 1000000000 (show 0 < S.2.1 kb (qo + mm) + 1 by omega); grind)).1
      have hLR := ld_R hff0 xu_26.1 xu_26.2.1 (V_0 (fun i i0 i1 => (xu_26.2.2.2.1 i i0 (by omega)).1))
      refine lv_aload hx hb dX12_divide_173 (lv_at hl 9 rfl) ?_
      refine lv_iload hx hb dX12_divide_175 (lv_at hl 10 rfl) ?_
      refine lv_iload hx hb dX12_divide_177 (lv_at hl 3 rfl) ?_
      refine lv_iload hx hb dX12_divide_179 (lv_at hl 2 rfl) ?_
      refine r_isub hx hb dX12_divide_181 ?_
      refine lv_iconst (v := iv 1) hx hb dX12_divide_182 (by decide) ?_
      refine r_iadd hx hb dX12_divide_183 ?_
      refine lv_iload hx hb dX12_divide_184 (lv_at hl 1 rfl) ?_
      refine lv_iload hx hb dX12_divide_186 (lv_at hl 0 rfl) ?_
      refine r_imul hx hb dX12_divide_188 ?_
      obtain ⟨su, esu⟩ : ∃ z : Int, z = sa * sb := ⟨_, rfl⟩
      refine r_i (b := su) esu.symm ?_
      have hsu := sgm esu (by omega)
      refine sBv (sSt (As := [.ref (G.2.2.1 + kc), .int (iv ro), .int (iv ((n - mm) + 1)), .int (iv su)]) (rest := []) Cx (s_X12_trim l G u_26 (ka := kc) (po := ro) (n0 := (n - mm) + 1) (sn := su) (Nka := Nkc) iu_26 hikc (by omega) (by omega) (fun z => absurd z (by omega)) xu_26.2.2.1) (c_X12_237 Cx rfl rfl (rmk_ok (by omega) (by decide))) hW rfl hl.1 rfl (Nat.le_of_ble_eq_true rfl) dX12_divide_189 ⟨Nat.le_of_ble_eq_true rfl, Nat.le_of_ble_eq_true rfl⟩) hL (fun u_30 H locs k_31 hW hL => ?_)
      obtain ⟨iu_30, fu_30, xu_30⟩ := k_31
      have F_32 := F_28.trans (fu_30.to (p1_sub (pl_t (pl_t (pl_t pl_h)))))
      have F_33 := F_29.trans (fu_30.to (p1_sub (pl_t (pl_t (pl_t pl_h)))))
      refine lv_ldc hx hb hown (hts _ w_2600) dX12_divide_192 ?_
      refine lv_aload_n hx hb dX12_divide_194 rfl (lv_at hl 7 rfl) ?_
      refine lv_iload hx hb dX12_divide_195 (lv_at hl 8 rfl) ?_
      refine lv_iload hx hb dX12_divide_197 (lv_at hl 2 rfl) ?_
      refine r_iadd hx hb dX12_divide_199 ?_
      refine rIald Cx hW (k := kb) hikb.lt hikb.1 (by omega) (by omega) (by omega) dX12_divide_200 ?_
      have q_34 : (-2147483648) ≤ S.2.1 kb (qo + mm) ∧ S.2.1 kb (qo + mm) ≤ 2147483647 := hI.aj hikb.ge (qo + mm)
      refine r_i (b := S.2.1 kb (qo + mm)) (((fu_30 kb (p1_no (neS nkckb))).2.1 (qo + mm)).trans ((fu_26 kb (pl_c (neD nkb233) (pl_c (neD nkb234) (pl_c (neS nkckb) rfl)))).2.1 (qo + mm))) ?_
      refine lv_iconst (v := iv 1) hx hb dX12_divide_201 (by decide) ?_
      refine r_iadd hx hb dX12_divide_202 ?_
      refine r_idiv hx hb ⟨(by omega), (by omega)⟩ ⟨(by omega), (by omega)⟩ (by omega) dX12_divide_203 ?_
      obtain ⟨ff, eff⟩ : ∃ z : Int, z = (1000000000 : Int).tdiv ((S.2.1 kb (qo + mm)) + 1) := ⟨_, rfl⟩
      have hff := divF (a := 1000000000) (b := (S.2.1 kb (qo + mm)) + 1) (by omega)
      rw [← eff] at hff
      refine r_i (b := ff) eff.symm ?_
      have hfe : ff = 1000000000 / (S.2.1 kb (qo + mm) + 1) := by rw [eff]; exact Int.tdiv_eq_ediv_of_nonneg (by decide)
      have hkf := kn_f (t := S.2.1 kb (qo + mm)) (f := ff) (by omega) (by omega) (by omega) (by omega)
      clear eff
      refine lv_istore (lv' := [(13, .int (iv ff)), (12, .int (iv sb)), (11, .int (iv sa)), (10, .int (iv mm)), (9, .int (iv n)), (0, .ref (G.2.2.1 + 231)), (1, .ref (G.2.2.1 + ka)), (2, .int (iv po)), (3, .ref (G.2.2.1 + kb)), (4, .int (iv qo)), (5, .ref (G.2.2.1 + kc)), (6, .int (iv ro)), (7, .ref (G.2.2.1 + kd)), (8, .int (iv eo))]) hx hb dX12_divide_204 hl (by decide) rfl (fun ls hl => ?_)
      refine lv_lconst (v := jv 0) hx hb dX12_divide_206 (by decide) ?_
      refine lv_lstore (lv' := [(14, .long (jv 0)), (13, .int (iv ff)), (12, .int (iv sb)), (11, .int (iv sa)), (10, .int (iv mm)), (9, .int (iv n)), (0, .ref (G.2.2.1 + 231)), (1, .ref (G.2.2.1 + ka)), (2, .int (iv po)), (3, .ref (G.2.2.1 + kb)), (4, .int (iv qo)), (5, .ref (G.2.2.1 + kc)), (6, .int (iv ro)), (7, .ref (G.2.2.1 + kd)), (8, .int (iv eo))]) hx hb dX12_divide_207 hl (by decide) rfl (fun ls hl => ?_)
      refine lv_iload hx hb dX12_divide_209 (lv_at hl 4 rfl) ?_
      refine lv_istore (lv' := [(16, .int (iv mm)), (14, .long (jv 0)), (13, .int (iv ff)), (12, .int (iv sb)), (11, .int (iv sa)), (10, .int (iv mm)), (9, .int (iv n)), (0, .ref (G.2.2.1 + 231)), (1, .ref (G.2.2.1 + ka)), (2, .int (iv po)), (3, .ref (G.2.2.1 + kb)), (4, .int (iv qo)), (5, .ref (G.2.2.1 + kc)), (6, .int (iv ro)), (7, .ref (G.2.2.1 + kd)), (8, .int (iv eo))]) hx hb dX12_divide_211 hl (by decide) rfl (fun ls hl => ?_)
      have loop_213 : ∀ (fuel : Nat) (S213 : sS) (k3 : Int) (rt : Int) (H : Heap) (locs : List Loc) (ls : Array Slot), k3.toNat < fuel → (dX G S213) → (Fr S S213 (pl [233, 234, 235, kc, kd])) → (Fr S S213 (pl [233, 234, 235, kc, kd])) → (Fr u_30 S213 (p1 kd)) → (0 ≤ k3 ∧ k3 ≤ mm) → (0 ≤ rt ∧ rt < ff) → (V (cf (u_26.2.1 233) 0) 0 mm.toNat = ff * (V (cf (S213.2.1 kd) eo) k3 (mm - k3).toNat * pw k3.toNat) + rt * pw k3.toNat + V (cf (u_26.2.1 233) 0) 0 k3.toNat) → (∀ t, k3 ≤ t → t < mm → 0 ≤ cf (S213.2.1 kd) eo t ∧ cf (S213.2.1 kd) eo t ≤ 999999999) → (∀ j, j ≤ eo ∨ eo + mm < j → S213.2.1 kd j = S.2.1 kd j) → sW G 294 S213 H → sL G locs → lv_has ls 19 [(16, .int (iv k3)), (14, .long (jv rt)), (13, .int (iv ff)), (12, .int (iv sb)), (11, .int (iv sa)), (10, .int (iv mm)), (9, .int (iv n)), (0, .ref (G.2.2.1 + 231)), (1, .ref (G.2.2.1 + ka)), (2, .int (iv po)), (3, .ref (G.2.2.1 + kb)), (4, .int (iv qo)), (5, .ref (G.2.2.1 + kc)), (6, .int (iv ro)), (7, .ref (G.2.2.1 + kd)), (8, .int (iv eo))] → W p l e (rmk 5 0 0) s m args below meth c H locs 0 0 (MQ below (sQv G 294 (fun u => dX G u ∧ Fr S u (pl [233, 234, 235, kc, kd]) ∧ (NO (u.2.1 kc) ro (La + 1) ∧ NO (u.2.1 kd) eo Ld ∧ (nv (S.2.1 ka) po = nv (S.2.1 kb) qo * nv (u.2.1 kc) ro + nv (u.2.1 kd) eo ∧ 0 ≤ nv (u.2.1 kd) eo ∧ nv (u.2.1 kd) eo < nv (S.2.1 kb) qo) ∧ (∀ j, j < ro ∨ ro + La + 1 < j → u.2.1 kc j = S.2.1 kc j) ∧ (∀ j, j < eo ∨ eo + Ld < j → u.2.1 kd j = S.2.1 kd j)))) args s 0 0 (sF G)) (F0 m 213 ls []) := by
        intro fuel
        induction fuel with
        | zero => intro S213 k3 rt H locs ls hmeas hI213 hFm213 hFL275213 hL213_ hk3 hrt hD3 hR3 hod hW hL hl; exact absurd hmeas (Nat.not_lt_zero _)
        | succ fuel ih_213 =>
          intro S213 k3 rt H locs ls hmeas hI213 hFm213 hFL275213 hL213_ hk3 hrt hD3 hR3 hod hW hL hl
          refine lv_iload hx hb dX12_divide_213 (lv_at hl 0 rfl) ?_
          refine r_if_le (tgt := 264) hx hb ⟨(by omega), (by omega)⟩ dX12_divide_215 (by decide) (fun c_35 => ?_) (fun c_35 => ?_)
          · have hD4 : V (cf (S213.2.1 kd) eo) 0 mm.toNat = nu (S.2.1 ka) po - nu (S.2.1 kb) qo * V (cf (u_26.2.1 kc) ro) 0 (n - mm + 1).toNat := by have e := hD3; rw [show k3 = 0 by omega, show mm - 0 = mm by omega] at e; have e2 : V (cf (u_26.2.1 233) 0) 0 mm.toNat = ff * (V (cf (S213.2.1 kd) eo) 0 mm.toNat * 1) + rt * 1 + 0 := e; rw [Int.mul_one, Int.mul_one] at e2; have e3 := hLR.1; rw [← hfe] at e3; exact (fdiv_e (Q := 0) (r := rt) (by omega) e3 (by omega) (by omega)).1
            refine lv_aload hx hb dX12_divide_264 (lv_at hl 14 rfl) ?_
            refine lv_iload hx hb dX12_divide_266 (lv_at hl 15 rfl) ?_
            refine lv_iload hx hb dX12_divide_268 (lv_at hl 5 rfl) ?_
            refine lv_iload hx hb dX12_divide_270 (lv_at hl 4 rfl) ?_
            refine sBv (sSt (As := [.ref (G.2.2.1 + kd), .int (iv eo), .int (iv mm), .int (iv sa)]) (rest := []) Cx (s_X12_trim l G S213 (ka := kd) (po := eo) (n0 := mm) (sn := sa) (Nka := Nkd) hI213 hikd (by omega) (by omega) (fun z => absurd z (by omega)) (fun t a b => hR3 t (by omega) b)) (c_X12_237 Cx rfl rfl (rmk_ok (by omega) (by decide))) hW rfl hl.1 rfl (Nat.le_of_ble_eq_true rfl) dX12_divide_272 ⟨Nat.le_of_ble_eq_true rfl, Nat.le_of_ble_eq_true rfl⟩) hL (fun u_36 H locs k_37 hW hL => ?_)
            obtain ⟨iu_36, fu_36, xu_36⟩ := k_37
            have F_38 := hFm213.trans (fu_36.to (p1_sub (pl_t (pl_t (pl_t (pl_t pl_h))))))
            have F_39 := hFL275213.trans (fu_36.to (p1_sub (pl_t (pl_t (pl_t (pl_t pl_h))))))
            have F_40 := hL213_.trans fu_36
            exact join_275 u_36  _ _ _ iu_36 F_38 F_39 (by have e : u_36.2.1 kc = u_30.2.1 kc := funext fun j => ((fu_36 kc (p1_no (neD nkckd))).2.1 j).trans ((hL213_ kc (p1_no (neD nkckd))).2.1 j); rw [e]; exact xu_30.1.mono (by omega)) (xu_36.1.mono (by omega)) ⟨V (cf (u_26.2.1 kc) ro) 0 (n - mm + 1).toNat, nu (S.2.1 ka) po - nu (S.2.1 kb) qo * V (cf (u_26.2.1 kc) ro) 0 (n - mm + 1).toNat, (by have e : u_36.2.1 kc = u_30.2.1 kc := funext fun j => ((fu_36 kc (p1_no (neD nkckd))).2.1 j).trans ((hL213_ kc (p1_no (neD nkckd))).2.1 j); rw [e]; rw [xu_30.2.1, show su = sa by omega]), (by rw [xu_36.2.1, hD4]), (by omega), hLR.2.1, hLR.2.2⟩ (fun j a => by rw [show u_36.2.1 kc j = u_30.2.1 kc j from ((fu_36 kc (p1_no (neD nkckd))).2.1 j).trans ((hL213_ kc (p1_no (neD nkckd))).2.1 j), xu_30.2.2 j (by omega)]; exact xu_26.2.2.2.2 j (by omega)) (fun j a => by rw [xu_36.2.2 j (by omega)]; exact hod j (by omega)) hW hL (lv_sub hl [3, 4, 5, 6, 7, 8, 9, 10, 11, 12, 13, 14, 15] rfl)
          · have hlk : 0 ≤ u_26.2.1 233 k3 ∧ u_26.2.1 233 k3 ≤ 999999999 := by have e := xu_26.2.2.2.1 (k3 - 1) (by omega) (by omega); have e2 : cf (u_26.2.1 233) 0 (k3 - 1) = u_26.2.1 233 k3 := congrArg (u_26.2.1 233) (by omega); rw [e2] at e; exact e
            refine lv_lload hx hb dX12_divide_218 (lv_at hl 1 rfl) ?_
            refine lv_ldc2 hx hb hown (hts _ w_2464) dX12_divide_220 ?_
            refine r_lmul hx hb dX12_divide_223 ?_
            refine lv_aload_n hx hb dX12_divide_224 rfl (lv_at hl 7 rfl) ?_
            refine g_X12_13 Cx hW (k := 231) (by decide) rfl (v := .ref (G.2.2.1 + 233)) (rd_2 hI213) dX12_divide_225 ?_
            refine lv_iload hx hb dX12_divide_228 (lv_at hl 0 rfl) ?_
            refine rIald Cx hW (k := 233) (by decide) rfl (by decide) (by omega) (by omega) dX12_divide_230 ?_
            have q_41 : (-2147483648) ≤ u_26.2.1 233 k3 ∧ u_26.2.1 233 k3 ≤ 2147483647 := iu_26.ai 233 k3
            refine r_i (b := u_26.2.1 233 k3) (((hL213_ 233 (p1_no (neS nkd233))).2.1 k3).trans ((fu_30 233 (p1_no (neS nkc233))).2.1 k3)) ?_
            refine r_i2l hx hb ⟨(by omega), (by omega)⟩ dX12_divide_231 ?_
            refine r_ladd hx hb dX12_divide_232 ?_
            obtain ⟨xd, exd⟩ : ∃ z : Int, z = (rt * 1000000000) + (u_26.2.1 233 k3) := ⟨_, rfl⟩
            refine r_j (b := xd) exd.symm ?_
            refine lv_lstore (lv' := [(17, .long (jv xd)), (16, .int (iv k3)), (14, .long (jv rt)), (13, .int (iv ff)), (12, .int (iv sb)), (11, .int (iv sa)), (10, .int (iv mm)), (9, .int (iv n)), (0, .ref (G.2.2.1 + 231)), (1, .ref (G.2.2.1 + ka)), (2, .int (iv po)), (3, .ref (G.2.2.1 + kb)), (4, .int (iv qo)), (5, .ref (G.2.2.1 + kc)), (6, .int (iv ro)), (7, .ref (G.2.2.1 + kd)), (8, .int (iv eo))]) hx hb dX12_divide_233 hl (by decide) rfl (fun ls hl => ?_)
            refine lv_aload hx hb dX12_divide_235 (lv_at hl 15 rfl) ?_
            refine lv_iload hx hb dX12_divide_237 (lv_at hl 16 rfl) ?_
            refine lv_iload hx hb dX12_divide_239 (lv_at hl 1 rfl) ?_
            refine r_iadd hx hb dX12_divide_241 ?_
            refine lv_lload hx hb dX12_divide_242 (lv_at hl 0 rfl) ?_
            refine lv_iload hx hb dX12_divide_244 (lv_at hl 3 rfl) ?_
            refine r_i2l hx hb ⟨(by omega), (by omega)⟩ dX12_divide_246 ?_
            refine r_ldiv hx hb ⟨(by omega), (by omega)⟩ ⟨(by omega), (by omega)⟩ (by omega) dX12_divide_247 ?_
            obtain ⟨q3, eq3⟩ : ∃ z : Int, z = xd.tdiv ff := ⟨_, rfl⟩
            have hq3 := divQ (a := xd) (b := ff) (by omega) (by omega)
            rw [← eq3] at hq3
            refine r_j (b := q3) eq3.symm ?_
            have hq39 := qlt (r := 0) (w := rt) (l := u_26.2.1 233 k3) (b := ff) (by omega) hq3.2.1 exd (by omega) hlk.2
            refine r_l2i hx hb dX12_divide_248 ?_
            refine rIast Cx hW hL (k := kd) hikd.lt hikd.1 (by omega) (by omega) (by omega) dX12_divide_249 (fun H locs hW hL => ?_)
            have F_42 : Fr S (uA S213 kd (eo + k3) q3) (pl [233, 234, 235, kc, kd]) := hFm213.A (pl_t (pl_t (pl_t (pl_t pl_h))))
            have F_43 : Fr S (uA S213 kd (eo + k3) q3) (pl [233, 234, 235, kc, kd]) := hFL275213.A (pl_t (pl_t (pl_t (pl_t pl_h))))
            have F_44 : Fr u_30 (uA S213 kd (eo + k3) q3) (p1 kd) := hL213_.A p1_0
            have i_45 : dX G (uA S213 kd (eo + k3) q3) := hI213.Aj hikd ⟨by omega, by omega⟩
            refine lv_lload hx hb dX12_divide_250 (lv_at hl 0 rfl) ?_
            refine lv_iload hx hb dX12_divide_252 (lv_at hl 3 rfl) ?_
            refine r_i2l hx hb ⟨(by omega), (by omega)⟩ dX12_divide_254 ?_
            refine r_lrem hx hb ⟨(by omega), (by omega)⟩ ⟨(by omega), (by omega)⟩ (by omega) dX12_divide_255 ?_
            obtain ⟨r3, er3⟩ : ∃ z : Int, z = xd.tmod ff := ⟨_, rfl⟩
            have hr3 := tmodQ (a := xd) (b := ff) (by omega) (by omega)
            rw [← er3] at hr3
            refine r_j (b := r3) er3.symm ?_
            have hr3 : r3 = xd - q3 * ff := by rw [er3, eq3, Int.tmod_def, Int.mul_comm]
            clear er3 eq3
            refine lv_lstore (lv' := [(14, .long (jv r3)), (17, .long (jv xd)), (16, .int (iv k3)), (13, .int (iv ff)), (12, .int (iv sb)), (11, .int (iv sa)), (10, .int (iv mm)), (9, .int (iv n)), (0, .ref (G.2.2.1 + 231)), (1, .ref (G.2.2.1 + ka)), (2, .int (iv po)), (3, .ref (G.2.2.1 + kb)), (4, .int (iv qo)), (5, .ref (G.2.2.1 + kc)), (6, .int (iv ro)), (7, .ref (G.2.2.1 + kd)), (8, .int (iv eo))]) hx hb dX12_divide_256 hl (by decide) rfl (fun ls hl => ?_)
            refine lv_iinc (v := iv (k3 + (-1))) (lv' := [(16, .int (iv (k3 + (-1)))), (14, .long (jv r3)), (17, .long (jv xd)), (13, .int (iv ff)), (12, .int (iv sb)), (11, .int (iv sa)), (10, .int (iv mm)), (9, .int (iv n)), (0, .ref (G.2.2.1 + 231)), (1, .ref (G.2.2.1 + ka)), (2, .int (iv po)), (3, .ref (G.2.2.1 + kb)), (4, .int (iv qo)), (5, .ref (G.2.2.1 + kc)), (6, .int (iv ro)), (7, .ref (G.2.2.1 + kd)), (8, .int (iv eo))]) hx hb dX12_divide_258 hl (k := 2) rfl ((Int32.ofInt_add _ _).symm) (by decide) rfl (fun ls hl => ?_)
            refine lv_goto (tgt := 213) hx hb dX12_divide_261 (by decide) ?_
            exact ih_213 (uA S213 kd (eo + k3) q3) (k3 + (-1)) r3 _ _ _ (by omega) i_45 F_42 F_43 F_44 (by omega) (by omega) (by rw [show k3 + (-1) = k3 - 1 by omega]; exact sdS (c := cf (S213.2.1 kd) eo) (LA := cf (u_26.2.1 233) 0) (w := rt) (b := ff) (q := q3) (N := mm) (by omega) hD3 (congrArg (u_26.2.1 233) (by omega : (0 : Int) + (k3 - 1 + 1) = k3)) (fun t a => cf_v (by omega)) (cf_u (by omega)) (by omega)) (fun t a b => if e : t = k3 - 1 then (by rw [cf_u (by omega)]; omega) else (by rw [cf_v (by omega)]; exact hR3 t (by omega) b)) (fun j a => by rw [uA_ne (fun q => by have := q.2; omega)]; exact hod j (by omega)) hW hL (lv_sub hl [0, 1, 3, 4, 5, 6, 7, 8, 9, 10, 11, 12, 13, 14, 15, 16] rfl)
      exact loop_213 (_ + 1) u_30 mm 0 _ _ _ (Nat.lt_succ_self _) iu_30 F_32 F_33 Fr.rf (by omega) (by omega) (by rw [show mm - mm = 0 by omega]; show _ = _ * ((0 : Int) * _) + 0 * _ + _; rw [Int.zero_mul, Int.mul_zero]; omega) (fun t a b => absurd b (by omega)) (fun j _ => ((fu_30 kd (p1_no (neS nkckd))).2.1 j).trans ((fu_26 kd (pl_c (neD nkd233) (pl_c (neD nkd234) (pl_c (neS nkckd) rfl)))).2.1 j)) hW hL (lv_sub hl [0, 1, 2, 3, 4, 5, 6, 7, 8, 9, 10, 11, 12, 13, 14, 15] rfl)
    · have hb1 : 1 ≤ S.2.1 kb (qo + 1) ∧ S.2.1 kb (qo + 1) ≤ 999999999 := by have e := hB.2.1 (qo + 1) (by omega) (by omega); have e2 := hB.2.2 (by omega); rw [show al (S.2.1 kb) qo = 1 by omega] at e2; omega
      have hNB1 : nu (S.2.1 kb) qo = S.2.1 kb (qo + 1) := nu_1 (by omega)
      refine lv_lconst (v := jv 0) hx hb dX12_divide_61 (by decide) ?_
      refine lv_lstore (lv' := [(13, .long (jv 0)), (12, .int (iv sb)), (11, .int (iv sa)), (10, .int (iv mm)), (9, .int (iv n)), (0, .ref (G.2.2.1 + 231)), (1, .ref (G.2.2.1 + ka)), (2, .int (iv po)), (3, .ref (G.2.2.1 + kb)), (4, .int (iv qo)), (5, .ref (G.2.2.1 + kc)), (6, .int (iv ro)), (7, .ref (G.2.2.1 + kd)), (8, .int (iv eo))]) hx hb dX12_divide_62 hl (by decide) rfl (fun ls hl => ?_)
      refine lv_iload hx hb dX12_divide_64 (lv_at hl 4 rfl) ?_
      refine lv_istore (lv' := [(15, .int (iv n)), (13, .long (jv 0)), (12, .int (iv sb)), (11, .int (iv sa)), (10, .int (iv mm)), (9, .int (iv n)), (0, .ref (G.2.2.1 + 231)), (1, .ref (G.2.2.1 + ka)), (2, .int (iv po)), (3, .ref (G.2.2.1 + kb)), (4, .int (iv qo)), (5, .ref (G.2.2.1 + kc)), (6, .int (iv ro)), (7, .ref (G.2.2.1 + kd)), (8, .int (iv eo))]) hx hb dX12_divide_66 hl (by decide) rfl (fun ls hl => ?_)
      have loop_68 : ∀ (fuel : Nat) (S68 : sS) (k : Int) (rs : Int) (H : Heap) (locs : List Loc) (ls : Array Slot), k.toNat < fuel → (dX G S68) → (Fr S S68 (pl [233, 234, 235, kc, kd])) → (Fr S S68 (pl [233, 234, 235, kc, kd])) → (Fr S S68 (p1 kc)) → (0 ≤ k ∧ k ≤ n) → (0 ≤ rs ∧ rs < S.2.1 kb (qo + 1)) → (nu (S.2.1 ka) po = S.2.1 kb (qo + 1) * (V (cf (S68.2.1 kc) ro) k (n - k).toNat * pw k.toNat) + rs * pw k.toNat + V (lf (S.2.1 ka) po (al (S.2.1 ka) po)) 0 k.toNat) → (∀ t, k ≤ t → t < n → 0 ≤ cf (S68.2.1 kc) ro t ∧ cf (S68.2.1 kc) ro t ≤ 999999999) → (∀ j, j ≤ ro ∨ ro + n < j → S68.2.1 kc j = S.2.1 kc j) → sW G 294 S68 H → sL G locs → lv_has ls 19 [(15, .int (iv k)), (13, .long (jv rs)), (12, .int (iv sb)), (11, .int (iv sa)), (10, .int (iv mm)), (9, .int (iv n)), (0, .ref (G.2.2.1 + 231)), (1, .ref (G.2.2.1 + ka)), (2, .int (iv po)), (3, .ref (G.2.2.1 + kb)), (4, .int (iv qo)), (5, .ref (G.2.2.1 + kc)), (6, .int (iv ro)), (7, .ref (G.2.2.1 + kd)), (8, .int (iv eo))] → W p l e (rmk 5 0 0) s m args below meth c H locs 0 0 (MQ below (sQv G 294 (fun u => dX G u ∧ Fr S u (pl [233, 234, 235, kc, kd]) ∧ (NO (u.2.1 kc) ro (La + 1) ∧ NO (u.2.1 kd) eo Ld ∧ (nv (S.2.1 ka) po = nv (S.2.1 kb) qo * nv (u.2.1 kc) ro + nv (u.2.1 kd) eo ∧ 0 ≤ nv (u.2.1 kd) eo ∧ nv (u.2.1 kd) eo < nv (S.2.1 kb) qo) ∧ (∀ j, j < ro ∨ ro + La + 1 < j → u.2.1 kc j = S.2.1 kc j) ∧ (∀ j, j < eo ∨ eo + Ld < j → u.2.1 kd j = S.2.1 kd j)))) args s 0 0 (sF G)) (F0 m 68 ls []) := by
        intro fuel
        induction fuel with
        | zero => intro S68 k rs H locs ls hmeas hI68 hFm68 hFL27568 hL68_ hk hrs hD hQr hoc hW hL hl; exact absurd hmeas (Nat.not_lt_zero _)
        | succ fuel ih_68 =>
          intro S68 k rs H locs ls hmeas hI68 hFm68 hFL27568 hL68_ hk hrs hD hQr hoc hW hL hl
          refine lv_iload hx hb dX12_divide_68 (lv_at hl 0 rfl) ?_
          refine r_if_le (tgt := 126) hx hb ⟨(by omega), (by omega)⟩ dX12_divide_70 (by decide) (fun c_46 => ?_) (fun c_46 => ?_)
          · have hD0 : Hd (nu (S.2.1 ka) po = nu (S.2.1 kb) qo * V (cf (S68.2.1 kc) ro) 0 n.toNat + rs) := by have e := hD; rw [show k = 0 by omega, show n - 0 = n by omega, ← hNB1] at e; have e2 : nu (S.2.1 ka) po = nu (S.2.1 kb) qo * (V (cf (S68.2.1 kc) ro) 0 n.toNat * 1) + rs * 1 + 0 := e; rw [Int.mul_one, Int.mul_one] at e2; unfold Hd; omega
            refine lv_aload hx hb dX12_divide_126 (lv_at hl 11 rfl) ?_
            refine lv_iload hx hb dX12_divide_128 (lv_at hl 12 rfl) ?_
            refine lv_iload hx hb dX12_divide_130 (lv_at hl 5 rfl) ?_
            refine lv_iload hx hb dX12_divide_132 (lv_at hl 3 rfl) ?_
            refine lv_iload hx hb dX12_divide_134 (lv_at hl 2 rfl) ?_
            refine r_imul hx hb dX12_divide_136 ?_
            obtain ⟨su, esu⟩ : ∃ z : Int, z = sa * sb := ⟨_, rfl⟩
            refine r_i (b := su) esu.symm ?_
            have hsu := sgm esu (by omega)
            refine sBv (sSt (As := [.ref (G.2.2.1 + kc), .int (iv ro), .int (iv n), .int (iv su)]) (rest := []) Cx (s_X12_trim l G S68 (ka := kc) (po := ro) (n0 := n) (sn := su) (Nka := Nkc) hI68 hikc (by omega) (by omega) (fun z => absurd z (by omega)) (fun t a b => hQr t (by omega) b)) (c_X12_237 Cx rfl rfl (rmk_ok (by omega) (by decide))) hW rfl hl.1 rfl (Nat.le_of_ble_eq_true rfl) dX12_divide_137 ⟨Nat.le_of_ble_eq_true rfl, Nat.le_of_ble_eq_true rfl⟩) hL (fun u_47 H locs k_48 hW hL => ?_)
            obtain ⟨iu_47, fu_47, xu_47⟩ := k_48
            have F_49 := hFm68.trans (fu_47.to (p1_sub (pl_t (pl_t (pl_t pl_h)))))
            have F_50 := hFL27568.trans (fu_47.to (p1_sub (pl_t (pl_t (pl_t pl_h)))))
            have F_51 := hL68_.trans fu_47
            refine lv_aload hx hb dX12_divide_140 (lv_at hl 13 rfl) ?_
            refine lv_iload hx hb dX12_divide_142 (lv_at hl 14 rfl) ?_
            refine lv_iload hx hb dX12_divide_144 (lv_at hl 3 rfl) ?_
            refine r_i2l hx hb ⟨(by omega), (by omega)⟩ dX12_divide_146 ?_
            refine lv_lload hx hb dX12_divide_147 (lv_at hl 1 rfl) ?_
            refine r_lmul hx hb dX12_divide_149 ?_
            obtain ⟨sr, esr⟩ : ∃ z : Int, z = sa * rs := ⟨_, rfl⟩
            refine r_j (b := sr) esr.symm ?_
            have hsr := sgm esr (by omega)
            refine sBv (sSt (As := [.ref (G.2.2.1 + kd), .int (iv eo), .long (jv sr)]) (rest := []) Cx (s_X12_put l G u_47 (ka := kd) (po := eo) (v := sr) (Nka := Nkd) iu_47 hikd (by omega) (by omega)) (c_X12_241 Cx rfl rfl (rmk_ok (by omega) (by decide))) hW rfl hl.1 rfl (Nat.le_of_ble_eq_true rfl) dX12_divide_150 ⟨Nat.le_of_ble_eq_true rfl, Nat.le_of_ble_eq_true rfl⟩) hL (fun u_52 H locs k_53 hW hL => ?_)
            obtain ⟨iu_52, fu_52, xu_52⟩ := k_53
            have F_54 := F_49.trans (fu_52.to (p1_sub (pl_t (pl_t (pl_t (pl_t pl_h))))))
            have F_55 := F_50.trans (fu_52.to (p1_sub (pl_t (pl_t (pl_t (pl_t pl_h))))))
            refine lv_goto (tgt := 275) hx hb dX12_divide_153 (by decide) ?_
            exact join_275 u_52  _ _ _ iu_52 F_54 F_55 (by have e : u_52.2.1 kc = u_47.2.1 kc := funext fun j => (fu_52 kc (p1_no (neD nkckd))).2.1 j; rw [e]; exact xu_47.1.mono (by omega)) (xu_52.1.mono (by omega)) ⟨V (cf (S68.2.1 kc) ro) 0 n.toNat, rs, (by have e : u_52.2.1 kc = u_47.2.1 kc := funext fun j => (fu_52 kc (p1_no (neD nkckd))).2.1 j; rw [e]; rw [xu_47.2.1, show su = sa by omega]), (by rw [xu_52.2.1, esr]), hD0, (by omega), (by rw [hNB1]; omega)⟩ (fun j a => by rw [show u_52.2.1 kc j = u_47.2.1 kc j from (fu_52 kc (p1_no (neD nkckd))).2.1 j, xu_47.2.2 j (by omega)]; exact hoc j (by omega)) (fun j a => by rw [xu_52.2.2 j (by omega)]; exact ((fu_47 kd (p1_no (neS nkckd))).2.1 j).trans ((hL68_ kd (p1_no (neS nkckd))).2.1 j)) hW hL (lv_sub hl [2, 3, 4, 5, 6, 7, 8, 9, 10, 11, 12, 13, 14] rfl)
          · have hak : 0 ≤ S.2.1 ka (po + k) ∧ S.2.1 ka (po + k) ≤ 999999999 := hA.2.1 _ (by omega) (by omega)
            refine lv_lload hx hb dX12_divide_73 (lv_at hl 1 rfl) ?_
            refine lv_ldc2 hx hb hown (hts _ w_2464) dX12_divide_75 ?_
            refine r_lmul hx hb dX12_divide_78 ?_
            refine lv_aload_n hx hb dX12_divide_79 rfl (lv_at hl 7 rfl) ?_
            refine lv_iload_n hx hb dX12_divide_80 rfl (lv_at hl 8 rfl) ?_
            refine lv_iload hx hb dX12_divide_81 (lv_at hl 0 rfl) ?_
            refine r_iadd hx hb dX12_divide_83 ?_
            refine rIald Cx hW (k := ka) hika.lt hika.1 (by omega) (by omega) (by omega) dX12_divide_84 ?_
            have q_56 : (-2147483648) ≤ S.2.1 ka (po + k) ∧ S.2.1 ka (po + k) ≤ 2147483647 := hI.aj hika.ge (po + k)
            refine r_i (b := S.2.1 ka (po + k)) ((hL68_ ka (p1_no (neS nkcka))).2.1 (po + k)) ?_
            refine r_i2l hx hb ⟨(by omega), (by omega)⟩ dX12_divide_85 ?_
            refine r_ladd hx hb dX12_divide_86 ?_
            obtain ⟨xs, exs⟩ : ∃ z : Int, z = (rs * 1000000000) + (S.2.1 ka (po + k)) := ⟨_, rfl⟩
            refine r_j (b := xs) exs.symm ?_
            refine lv_lstore (lv' := [(16, .long (jv xs)), (15, .int (iv k)), (13, .long (jv rs)), (12, .int (iv sb)), (11, .int (iv sa)), (10, .int (iv mm)), (9, .int (iv n)), (0, .ref (G.2.2.1 + 231)), (1, .ref (G.2.2.1 + ka)), (2, .int (iv po)), (3, .ref (G.2.2.1 + kb)), (4, .int (iv qo)), (5, .ref (G.2.2.1 + kc)), (6, .int (iv ro)), (7, .ref (G.2.2.1 + kd)), (8, .int (iv eo))]) hx hb dX12_divide_87 hl (by decide) rfl (fun ls hl => ?_)
            refine lv_aload hx hb dX12_divide_89 (lv_at hl 12 rfl) ?_
            refine lv_iload hx hb dX12_divide_91 (lv_at hl 13 rfl) ?_
            refine lv_iload hx hb dX12_divide_93 (lv_at hl 1 rfl) ?_
            refine r_iadd hx hb dX12_divide_95 ?_
            refine lv_lload hx hb dX12_divide_96 (lv_at hl 0 rfl) ?_
            refine lv_aload_n hx hb dX12_divide_98 rfl (lv_at hl 10 rfl) ?_
            refine lv_iload hx hb dX12_divide_99 (lv_at hl 11 rfl) ?_
            refine lv_iconst (v := iv 1) hx hb dX12_divide_101 (by decide) ?_
            refine r_iadd hx hb dX12_divide_102 ?_
            refine rIald Cx hW (k := kb) hikb.lt hikb.1 (by omega) (by omega) (by omega) dX12_divide_103 ?_
            have q_57 : (-2147483648) ≤ S.2.1 kb (qo + 1) ∧ S.2.1 kb (qo + 1) ≤ 2147483647 := hI.aj hikb.ge (qo + 1)
            refine r_i (b := S.2.1 kb (qo + 1)) ((hL68_ kb (p1_no (neS nkckb))).2.1 (qo + 1)) ?_
            refine r_i2l hx hb ⟨(by omega), (by omega)⟩ dX12_divide_104 ?_
            refine r_ldiv hx hb ⟨(by omega), (by omega)⟩ ⟨(by omega), (by omega)⟩ (by omega) dX12_divide_105 ?_
            obtain ⟨qd, eqd⟩ : ∃ z : Int, z = xs.tdiv (S.2.1 kb (qo + 1)) := ⟨_, rfl⟩
            have hqd := divQ (a := xs) (b := S.2.1 kb (qo + 1)) (by omega) (by omega)
            rw [← eqd] at hqd
            refine r_j (b := qd) eqd.symm ?_
            have hqd9 := qlt (r := 0) (w := rs) (l := S.2.1 ka (po + k)) (b := S.2.1 kb (qo + 1)) (by omega) hqd.2.1 exs (by omega) hak.2
            refine r_l2i hx hb dX12_divide_106 ?_
            refine rIast Cx hW hL (k := kc) hikc.lt hikc.1 (by omega) (by omega) (by omega) dX12_divide_107 (fun H locs hW hL => ?_)
            have F_58 : Fr S (uA S68 kc (ro + k) qd) (pl [233, 234, 235, kc, kd]) := hFm68.A (pl_t (pl_t (pl_t pl_h)))
            have F_59 : Fr S (uA S68 kc (ro + k) qd) (pl [233, 234, 235, kc, kd]) := hFL27568.A (pl_t (pl_t (pl_t pl_h)))
            have F_60 : Fr S (uA S68 kc (ro + k) qd) (p1 kc) := hL68_.A p1_0
            have i_61 : dX G (uA S68 kc (ro + k) qd) := hI68.Aj hikc ⟨by omega, by omega⟩
            refine lv_lload hx hb dX12_divide_108 (lv_at hl 0 rfl) ?_
            refine lv_aload_n hx hb dX12_divide_110 rfl (lv_at hl 10 rfl) ?_
            refine lv_iload hx hb dX12_divide_111 (lv_at hl 11 rfl) ?_
            refine lv_iconst (v := iv 1) hx hb dX12_divide_113 (by decide) ?_
            refine r_iadd hx hb dX12_divide_114 ?_
            refine rIald Cx hW (k := kb) hikb.lt hikb.1 (by omega) (by omega) (by omega) dX12_divide_115 ?_
            refine r_i (b := S.2.1 kb (qo + 1)) ((uA_ne (fun h => absurd h.1 (neS nkckb))).trans ((hL68_ kb (p1_no (neS nkckb))).2.1 (qo + 1))) ?_
            refine r_i2l hx hb ⟨(by omega), (by omega)⟩ dX12_divide_116 ?_
            refine r_lrem hx hb ⟨(by omega), (by omega)⟩ ⟨(by omega), (by omega)⟩ (by omega) dX12_divide_117 ?_
            obtain ⟨r2, er2⟩ : ∃ z : Int, z = xs.tmod (S.2.1 kb (qo + 1)) := ⟨_, rfl⟩
            have hr2 := tmodQ (a := xs) (b := S.2.1 kb (qo + 1)) (by omega) (by omega)
            rw [← er2] at hr2
            refine r_j (b := r2) er2.symm ?_
            have hqr : r2 = xs - qd * S.2.1 kb (qo + 1) := by rw [er2, eqd, Int.tmod_def, Int.mul_comm]
            clear er2 eqd
            refine lv_lstore (lv' := [(13, .long (jv r2)), (16, .long (jv xs)), (15, .int (iv k)), (12, .int (iv sb)), (11, .int (iv sa)), (10, .int (iv mm)), (9, .int (iv n)), (0, .ref (G.2.2.1 + 231)), (1, .ref (G.2.2.1 + ka)), (2, .int (iv po)), (3, .ref (G.2.2.1 + kb)), (4, .int (iv qo)), (5, .ref (G.2.2.1 + kc)), (6, .int (iv ro)), (7, .ref (G.2.2.1 + kd)), (8, .int (iv eo))]) hx hb dX12_divide_118 hl (by decide) rfl (fun ls hl => ?_)
            refine lv_iinc (v := iv (k + (-1))) (lv' := [(15, .int (iv (k + (-1)))), (13, .long (jv r2)), (16, .long (jv xs)), (12, .int (iv sb)), (11, .int (iv sa)), (10, .int (iv mm)), (9, .int (iv n)), (0, .ref (G.2.2.1 + 231)), (1, .ref (G.2.2.1 + ka)), (2, .int (iv po)), (3, .ref (G.2.2.1 + kb)), (4, .int (iv qo)), (5, .ref (G.2.2.1 + kc)), (6, .int (iv ro)), (7, .ref (G.2.2.1 + kd)), (8, .int (iv eo))]) hx hb dX12_divide_120 hl (k := 2) rfl ((Int32.ofInt_add _ _).symm) (by decide) rfl (fun ls hl => ?_)
            refine lv_goto (tgt := 68) hx hb dX12_divide_123 (by decide) ?_
            exact ih_68 (uA S68 kc (ro + k) qd) (k + (-1)) r2 _ _ _ (by omega) i_61 F_58 F_59 F_60 (by omega) (by omega) (by rw [show k + (-1) = k - 1 by omega]; exact sdS (c := cf (S68.2.1 kc) ro) (LA := lf (S.2.1 ka) po (al (S.2.1 ka) po)) (w := rs) (b := S.2.1 kb (qo + 1)) (q := qd) (N := n) (by omega) hD (lf_at (by omega)) (fun t a => cf_v (by omega)) (cf_u (by omega)) (by omega)) (fun t a b => if e : t = k - 1 then (by rw [cf_u (by omega)]; omega) else (by rw [cf_v (by omega)]; exact hQr t (by omega) b)) (fun j a => by rw [uA_ne (fun q => by have := q.2; omega)]; exact hoc j (by omega)) hW hL (lv_sub hl [0, 1, 3, 4, 5, 6, 7, 8, 9, 10, 11, 12, 13, 14, 15] rfl)
      exact loop_68 (_ + 1) S n 0 _ _ _ (Nat.lt_succ_self _) hI (Fr.rf : Fr S S (pl [233, 234, 235, kc, kd])) (Fr.rf : Fr S S (pl [233, 234, 235, kc, kd])) Fr.rf (by omega) (by omega) (by rw [show n - n = 0 by omega, show n = al (S.2.1 ka) po by omega, nu_lf (by omega)]; show _ = _ * ((0 : Int) * _) + 0 * _ + _; rw [Int.zero_mul, Int.mul_zero]; omega) (fun t a b => absurd b (by omega)) (fun j _ => rfl) hW hL (lv_sub hl [0, 1, 2, 3, 4, 5, 6, 7, 8, 9, 10, 11, 12, 13, 14] rfl)
  · refine lv_aload hx hb dX12_divide_37 (lv_at hl 9 rfl) ?_
    refine lv_iload hx hb dX12_divide_39 (lv_at hl 10 rfl) ?_
    refine lv_iconst (v := iv 0) hx hb dX12_divide_41 (by decide) ?_
    refine rIast Cx hW hL (k := kc) hikc.lt hikc.1 (by omega) (by omega) (by omega) dX12_divide_42 (fun H locs hW hL => ?_)
    have F_62 : Fr S (uA S kc ro 0) (pl [233, 234, 235, kc, kd]) := (Fr.rf : Fr S S (pl [233, 234, 235, kc, kd])).A (pl_t (pl_t (pl_t pl_h)))
    have F_63 : Fr S (uA S kc ro 0) (pl [233, 234, 235, kc, kd]) := (Fr.rf : Fr S S (pl [233, 234, 235, kc, kd])).A (pl_t (pl_t (pl_t pl_h)))
    have i_64 : dX G (uA S kc ro 0) := hI.Aj hikc ⟨by omega, by omega⟩
    refine lv_aload_n hx hb dX12_divide_43 rfl (lv_at hl 5 rfl) ?_
    refine lv_iload_n hx hb dX12_divide_44 rfl (lv_at hl 6 rfl) ?_
    refine lv_aload hx hb dX12_divide_45 (lv_at hl 11 rfl) ?_
    refine lv_iload hx hb dX12_divide_47 (lv_at hl 12 rfl) ?_
    refine sBv (sSt (As := [.ref (G.2.2.1 + ka), .int (iv po), .ref (G.2.2.1 + kd), .int (iv eo)]) (rest := []) Cx (s_X12_copy l G (uA S kc ro 0) (ka := ka) (po := po) (kb := kd) (qo := eo) (Nka := Nka) (Nkb := Nkd) (La := n) i_64 hika hikd (neD nkdka) (by omega) (by rw [show (uA S kc ro 0).2.1 ka = S.2.1 ka from (funext fun j => uA_ne (fun h => absurd h.1 (neS nkcka)) : (uA S kc ro 0).2.1 ka = S.2.1 ka)]; exact ⟨by omega, hA.2⟩)) (c_X12_233 Cx rfl rfl (rmk_ok (by omega) (by decide))) hW rfl hl.1 rfl (Nat.le_of_ble_eq_true rfl) dX12_divide_49 ⟨Nat.le_of_ble_eq_true rfl, Nat.le_of_ble_eq_true rfl⟩) hL (fun u_65 H locs k_66 hW hL => ?_)
    obtain ⟨iu_65, fu_65, xu_65⟩ := k_66
    have F_67 := F_62.trans (fu_65.to (p1_sub (pl_t (pl_t (pl_t (pl_t pl_h))))))
    have F_68 := F_63.trans (fu_65.to (p1_sub (pl_t (pl_t (pl_t (pl_t pl_h))))))
    refine lv_goto (tgt := 275) hx hb dX12_divide_52 (by decide) ?_
    exact join_275 u_65  _ _ _ iu_65 F_67 F_68 (by have e : u_65.2.1 kc = (uA S kc ro 0).2.1 kc := funext fun j => (fu_65 kc (p1_no (neD nkckd))).2.1 j; rw [e]; exact (NO_0 (by omega)).1) (xu_65.1.1.mono (by omega)) ⟨0, nu (S.2.1 ka) po, (by have e : u_65.2.1 kc = (uA S kc ro 0).2.1 kc := funext fun j => (fu_65 kc (p1_no (neD nkckd))).2.1 j; rw [e, (NO_0 (L := 1) (by omega)).2]; omega), (by rw [xu_65.1.2.1, show (uA S kc ro 0).2.1 ka = S.2.1 ka from fA (neS nkcka)]; unfold nv; rw [← (show sa = sg (S.2.1 ka) po by omega)]), (by omega), (hA.nu0), (nu_len hA hB (by omega))⟩ (fun j a => by rw [show u_65.2.1 kc j = (uA S kc ro 0).2.1 kc j from (fu_65 kc (p1_no (neD nkckd))).2.1 j]; exact uA_ne (fun q => by have := q.2; omega)) (fun j a => by rw [xu_65.2 j (by omega)]; exact uA_ne (fun q => absurd q.1 (neS nkckd))) hW hL (lv_sub hl [0, 1, 2, 3, 4, 5, 6, 7, 8, 9, 10, 11, 12] rfl)
