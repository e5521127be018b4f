theorem mul9 {a b : Int} (ha : 0 ≤ a ∧ a ≤ 999999999) (hb : 0 ≤ b ∧ b ≤ 999999999) : 0 ≤ a * b ∧ a * b ≤ 999999998000000001 := by
  have h1 := Int.mul_le_mul ha.2 hb.2 hb.1 (by omega)
  have h2 := Int.mul_nonneg ha.1 hb.1
  omega
theorem cf_u {S : sS} {c : Nat} {r w v t : Int} (h : w = r + (t + 1)) : cf ((uA S c w v).2.1 c) r t = v := by
  show (uA S c w v).2.1 c (r + (t + 1)) = v
  rw [h]; exact uA_on
theorem cf_v {S : sS} {c : Nat} {r w v t : Int} (h : w ≠ r + (t + 1)) : cf ((uA S c w v).2.1 c) r t = cf (S.2.1 c) r t := uA_ne (fun q => h q.2.symm)
theorem mulI {c c' c0 B : Int → Int} {e j A cy l x : Int} (he : 0 ≤ e) (hj : 0 ≤ j) (hV : V c 0 (e + j).toNat + cy * pw (e + j).toNat = V c0 0 (e + j).toNat + A * pw e.toNat * V B 0 j.toNat) (hc : ∀ t, 0 ≤ t → t < e + j → c' t = c t) (hl : c' (e + j) = l) (h2 : l + x * 1000000000 = A * B j + c0 (e + j) + cy) : V c' 0 (e + (j + 1)).toNat + x * pw (e + (j + 1)).toNat = V c0 0 (e + (j + 1)).toNat + A * pw e.toNat * V B 0 (j + 1).toNat := by
  rw [show e + (j + 1) = e + j + 1 by omega, V_stp (by omega), V_stp (by omega), V_stp hj, pw_stp (by omega), show (0 : Int) + (e + j) = e + j by omega, show (0 : Int) + j = j by omega, hl, show V c' 0 (e + j).toNat = V c 0 (e + j).toNat from V_cg (fun t t0 t1 => by rw [show (0 : Int) + t = t by omega]; exact hc t t0 (by omega))]
  have ep : pw (e + j).toNat = pw e.toNat * pw j.toNat := by rw [← pw_add]; congr 1; omega
  rw [ep] at hV ⊢
  generalize V c 0 (e + j).toNat = a1 at *
  generalize V c0 0 (e + j).toNat = a2 at *
  generalize V B 0 j.toNat = a3 at *
  generalize pw e.toNat = P at *
  generalize pw j.toNat = Q at *
  generalize c0 (e + j) = z at *
  generalize B j = b at *
  have h3 : l = A * b + z + cy - x * 1000000000 := by omega
  rw [h3]
  have h4 : a1 = a2 + A * P * a3 - cy * (P * Q) := by omega
  rw [h4]
  grind
theorem mulO {c c' c0 LA : Int → Int} {e m cy nb : Int} (he : 0 ≤ e) (hm : 0 ≤ m) (hV : V c 0 (e + m).toNat + cy * pw (e + m).toNat = V c0 0 (e + m).toNat + LA e * pw e.toNat * nb) (h0 : V c0 0 (e + m).toNat = V LA 0 e.toNat * nb) (hc : ∀ t, 0 ≤ t → t < e + m → c' t = c t) (hl : c' (e + m) = cy) : V c' 0 (e + 1 + m).toNat = V LA 0 (e + 1).toNat * nb := by
  rw [show e + 1 + m = e + m + 1 by omega, V_stp (by omega), V_stp he, show (0 : Int) + (e + m) = e + m by omega, show (0 : Int) + e = e by omega, hl, show V c' 0 (e + m).toNat = V c 0 (e + m).toNat from V_cg (fun t t0 t1 => by rw [show (0 : Int) + t = t by omega]; exact hc t t0 (by omega)), hV, h0]
  grind
theorem V_zero {f : Int → Int} : ∀ {n : Nat}, (∀ j : Int, 0 ≤ j → j < n → f j = 0) → V f 0 n = 0
  | 0, _ => rfl
  | n + 1, h => by rw [V_s, V_zero (fun j j0 j1 => h j j0 (by omega)), show (0 : Int) + (n : Int) = n by omega, h n (by omega) (by omega)]; omega
theorem nu_pos {f : Int → Int} {p L : Int} (h : NO f p L) (hz : sg f p ≠ 0) : 0 < nu f p := by
  have e := sg_e (f := f) (p := p)
  have a := al_e (f := f) (p := p)
  have := h.nug (by omega)
  have := pw_pos (al f p - 1).toNat
  omega
theorem mul_sg {f g : Int → Int} {p q sa sb sp : Int} (ha : sa = sg f p) (hb : sb = sg g q) (e : sp = sa * sb) : sp * (nu f p * nu g q) = nv f p * nv g q := by
  unfold nv; rw [e, ha, hb]; grind
theorem mul_s3 {a b p : Int} (ha : -1 ≤ a ∧ a ≤ 1) (hb : -1 ≤ b ∧ b ≤ 1) (e : p = a * b) : (-1 ≤ p ∧ p ≤ 1) ∧ (p = 0 → a = 0 ∨ b = 0) ∧ (p ≠ 0 → a ≠ 0 ∧ b ≠ 0) := by
  have := sgm e ha
  omega
theorem NO_0 {S : sS} {c : Nat} {r L : Int} (hL : 0 ≤ L) : NO ((uA S c r 0).2.1 c) r L ∧ nv ((uA S c r 0).2.1 c) r = 0 := by
  have e : (uA S c r 0).2.1 c r = 0 := uA_on
  have a : al ((uA S c r 0).2.1 c) r = 0 := by have := al_e (f := (uA S c r 0).2.1 c) (p := r); omega
  refine ⟨⟨by omega, fun i i0 i1 => by omega, fun z => absurd a z⟩, ?_⟩
  unfold nv; rw [(sg_e (f := (uA S c r 0).2.1 c) (p := r)).2.2 e]; omega
set_option maxRecDepth 100000 in
set_option maxHeartbeats 4000000 in
theorem s_X12_multiply (l : Launch) (G : sG) (S : sS) {ka kb kc Nka Nkb Nkc : Nat} {po qo ro La Lb : Int} (hI : dX G S) (hika : ia ka Nka) (hikb : ia kb Nkb) (hikc : ia kc Nkc) (nkckb : Hd (kc ≠ kb)) (nkcka : Hd (kc ≠ ka)) (hR : (0 ≤ po ∧ po + La < Nka) ∧ (0 ≤ qo ∧ qo + Lb < Nkb) ∧ (0 ≤ ro ∧ ro + La + Lb < Nkc) ∧ La + Lb ≤ 64) (hA : NO (S.2.1 ka) po La) (hB : NO (S.2.1 kb) qo Lb) : Met l yX12_multiply (.code yX12_multiply cX12_multiply 15 none :: tb) (rmk 3 0 0) (sPc G 294 S [.ref (G.2.2.1 + ka), .int (iv po), .ref (G.2.2.1 + kb), .int (iv qo), .ref (G.2.2.1 + kc), .int (iv ro)]) (sQv G 294 (fun u => dX G u ∧ Fr S u (p1 kc) ∧ (NO (u.2.1 kc) ro (La + Lb) ∧ nv (u.2.1 kc) ro = nv (S.2.1 ka) po * nv (S.2.1 kb) qo ∧ ∀ j, j < ro ∨ ro + La + Lb < j → u.2.1 kc j = S.2.1 kc j))) 0 0 (sF G) := by
  refine sEnter (by decide) (Nat.le_of_ble_eq_true rfl) ?_
  intro p e s m args below meth c Cx hr hlk hnm hW ls hl
  have Cx : sC G p m c cX12_multiply 15 s args RX12 := Cx
  obtain ⟨hx, hb, hml, hown, hts⟩ := id Cx.1
  have hL : sL G [] := sL_nil
  have hl : lv_has ls 15 [(0, .ref (G.2.2.1 + ka)), (1, .int (iv po)), (2, .ref (G.2.2.1 + kb)), (3, .int (iv qo)), (4, .ref (G.2.2.1 + kc)), (5, .int (iv ro))] := hl
  have hW0 := hW
  have hN := hika.2.2.2.1
  have hNb := hikb.2.2.2.1
  have hNc := hikc.2.2.2.1
  have hA1 := hA.b
  have hB1 := hB.b
  have hA0 := hA.1
  have hB0 := hB.1
  have hAn := al_0 (S.2.1 ka) po
  have hBn := al_0 (S.2.1 kb) qo
  have hseA := sg_e (f := S.2.1 ka) (p := po)
  have hseB := sg_e (f := S.2.1 kb) (p := qo)
  have haeA := al_e (f := S.2.1 ka) (p := po)
  have haeB := al_e (f := S.2.1 kb) (p := qo)
  refine lv_aload_n hx hb dX12_multiply_0 rfl (lv_at hl 0 rfl) ?_
  refine lv_iload_n hx hb dX12_multiply_1 rfl (lv_at hl 1 rfl) ?_
  refine sBi (sSt (As := [.ref (G.2.2.1 + ka), .int (iv po)]) (rest := []) Cx (s_X12_limbs l G S (ka := ka) (po := po) (Nka := Nka) hI hika (by omega) (by omega)) (c_X12_221 Cx rfl rfl (rmk_ok (by omega) (by decide))) hW rfl hl.1 rfl (Nat.le_of_ble_eq_true rfl) dX12_multiply_2 ⟨Nat.le_of_ble_eq_true rfl, Nat.le_of_ble_eq_true rfl⟩) hL (fun n u_1 H locs k_2 hW hL => ?_)
  obtain ⟨eu_1, xu_1⟩ := k_2
  rw [eu_1] at hW
  refine lv_istore (lv' := [(6, .int (iv n)), (0, .ref (G.2.2.1 + ka)), (1, .int (iv po)), (2, .ref (G.2.2.1 + kb)), (3, .int (iv qo)), (4, .ref (G.2.2.1 + kc)), (5, .int (iv ro))]) hx hb dX12_multiply_5 hl (by decide) rfl (fun ls hl => ?_)
  refine lv_aload_n hx hb dX12_multiply_7 rfl (lv_at hl 3 rfl) ?_
  refine lv_iload_n hx hb dX12_multiply_8 rfl (lv_at hl 4 rfl) ?_
  refine sBi (sSt (As := [.ref (G.2.2.1 + kb), .int (iv qo)]) (rest := []) Cx (s_X12_limbs l G S (ka := kb) (po := qo) (Nka := Nkb) hI hikb (by omega) (by omega)) (c_X12_221 Cx rfl rfl (rmk_ok (by omega) (by decide))) hW rfl hl.1 rfl (Nat.le_of_ble_eq_true rfl) dX12_multiply_9 ⟨Nat.le_of_ble_eq_true rfl, Nat.le_of_ble_eq_true rfl⟩) hL (fun mm u_3 H locs k_4 hW hL => ?_)
  obtain ⟨eu_3, xu_3⟩ := k_4
  rw [eu_3] at hW
  refine lv_istore (lv' := [(7, .int (iv mm)), (6, .int (iv n)), (0, .ref (G.2.2.1 + ka)), (1, .int (iv po)), (2, .ref (G.2.2.1 + kb)), (3, .int (iv qo)), (4, .ref (G.2.2.1 + kc)), (5, .int (iv ro))]) hx hb dX12_multiply_12 hl (by decide) rfl (fun ls hl => ?_)
  refine lv_aload_n hx hb dX12_multiply_14 rfl (lv_at hl 2 rfl) ?_
  refine lv_iload_n hx hb dX12_multiply_15 rfl (lv_at hl 3 rfl) ?_
  refine sBi (sSt (As := [.ref (G.2.2.1 + ka), .int (iv po)]) (rest := []) Cx (s_X12_sign l G S (ka := ka) (po := po) (Nka := Nka) hI hika (by omega)) (c_X12_225 Cx rfl rfl (rmk_ok (by omega) (by decide))) hW rfl hl.1 rfl (Nat.le_of_ble_eq_true rfl) dX12_multiply_16 ⟨Nat.le_of_ble_eq_true rfl, Nat.le_of_ble_eq_true rfl⟩) hL (fun sa u_5 H locs k_6 hW hL => ?_)
  obtain ⟨eu_5, xu_5⟩ := k_6
  rw [eu_5] at hW
  refine lv_aload_n hx hb dX12_multiply_19 rfl (lv_at hl 4 rfl) ?_
  refine lv_iload_n hx hb dX12_multiply_20 rfl (lv_at hl 5 rfl) ?_
  refine sBi (sSt (As := [.ref (G.2.2.1 + kb), .int (iv qo)]) (rest := [.int (iv sa)]) Cx (s_X12_sign l G S (ka := kb) (po := qo) (Nka := Nkb) hI hikb (by omega)) (c_X12_225 Cx rfl rfl (rmk_ok (by omega) (by decide))) hW rfl hl.1 rfl (Nat.le_of_ble_eq_true rfl) dX12_multiply_21 ⟨Nat.le_of_ble_eq_true rfl, Nat.le_of_ble_eq_true rfl⟩) hL (fun sb u_7 H locs k_8 hW hL => ?_)
  obtain ⟨eu_7, xu_7⟩ := k_8
  rw [eu_7] at hW
  refine r_imul hx hb dX12_multiply_24 ?_
  obtain ⟨sp, esp⟩ : ∃ z : Int, z = sa * sb := ⟨_, rfl⟩
  refine r_i (b := sp) esp.symm ?_
  have hsp := mul_s3 (by omega) (by omega) esp
  refine lv_istore (lv' := [(8, .int (iv sp)), (7, .int (iv mm)), (6, .int (iv n)), (0, .ref (G.2.2.1 + ka)), (1, .int (iv po)), (2, .ref (G.2.2.1 + kb)), (3, .int (iv qo)), (4, .ref (G.2.2.1 + kc)), (5, .int (iv ro))]) hx hb dX12_multiply_25 hl (by decide) rfl (fun ls hl => ?_)
  refine lv_iload hx hb dX12_multiply_27 (lv_at hl 0 rfl) ?_
  refine r_if_ne (tgt := 39) hx hb ⟨(by omega), (by omega)⟩ dX12_multiply_29 (by decide) (fun c_9 => ?_) (fun c_9 => ?_)
  · refine lv_iconst (v := iv 1) hx hb dX12_multiply_39 (by decide) ?_
    refine lv_istore (lv' := [(9, .int (iv 1)), (8, .int (iv sp)), (7, .int (iv mm)), (6, .int (iv n)), (0, .ref (G.2.2.1 + ka)), (1, .int (iv po)), (2, .ref (G.2.2.1 + kb)), (3, .int (iv qo)), (4, .ref (G.2.2.1 + kc)), (5, .int (iv ro))]) hx hb dX12_multiply_40 hl (by decide) rfl (fun ls hl => ?_)
    have loop_42 : ∀ (fuel : Nat) (S42 : sS) (k : Int) (H : Heap) (locs : List Loc) (ls : Array Slot), (n + mm + 1 - k).toNat < fuel → (dX G S42) → (Fr S S42 (p1 kc)) → (Fr S S42 (p1 kc)) → (1 ≤ k ∧ k ≤ n + mm + 1) → (∀ j, 0 ≤ j → j < k - 1 → cf (S42.2.1 kc) ro j = 0) → (∀ j, j ≤ ro ∨ ro + La + Lb < j → S42.2.1 kc j = S.2.1 kc j) → sW G 294 S42 H → sL G locs → lv_has ls 15 [(9, .int (iv k)), (8, .int (iv sp)), (7, .int (iv mm)), (6, .int (iv n)), (0, .ref (G.2.2.1 + ka)), (1, .int (iv po)), (2, .ref (G.2.2.1 + kb)), (3, .int (iv qo)), (4, .ref (G.2.2.1 + kc)), (5, .int (iv ro))] → W p l e (rmk 3 0 0) s m args below meth c H locs 0 0 (MQ below (sQv G 294 (fun u => dX G u ∧ Fr S u (p1 kc) ∧ (NO (u.2.1 kc) ro (La + Lb) ∧ nv (u.2.1 kc) ro = nv (S.2.1 ka) po * nv (S.2.1 kb) qo ∧ ∀ j, j < ro ∨ ro + La + Lb < j → u.2.1 kc j = S.2.1 kc j))) args s 0 0 (sF G)) (F0 m 42 ls []) := by
      intro fuel
      induction fuel with
      | zero => intro S42 k H locs ls hmeas hI42 hFm42 hL42_ hk hz hro hW hL hl; exact absurd hmeas (Nat.not_lt_zero _)
      | succ fuel ih_42 =>
        intro S42 k H locs ls hmeas hI42 hFm42 hL42_ hk hz hro hW hL hl
        refine lv_iload hx hb dX12_multiply_42 (lv_at hl 0 rfl) ?_
        refine lv_iload hx hb dX12_multiply_44 (lv_at hl 3 rfl) ?_
        refine lv_iload hx hb dX12_multiply_46 (lv_at hl 2 rfl) ?_
        refine r_iadd hx hb dX12_multiply_48 ?_
        refine r_icmp_gt (tgt := 67) hx hb ⟨(by omega), (by omega)⟩ ⟨(by omega), (by omega)⟩ dX12_multiply_49 (by decide) (fun c_10 => ?_) (fun c_10 => ?_)
        · refine lv_iconst (v := iv 1) hx hb dX12_multiply_67 (by decide) ?_
          refine lv_istore (lv' := [(9, .int (iv 1)), (8, .int (iv sp)), (7, .int (iv mm)), (6, .int (iv n)), (0, .ref (G.2.2.1 + ka)), (1, .int (iv po)), (2, .ref (G.2.2.1 + kb)), (3, .int (iv qo)), (4, .ref (G.2.2.1 + kc)), (5, .int (iv ro))]) hx hb dX12_multiply_68 hl (by decide) rfl (fun ls hl => ?_)
          have loop_70 : ∀ (fuel : Nat) (S70 : sS) (i : Int) (H : Heap) (locs : List Loc) (ls : Array Slot), (n + 1 - i).toNat < fuel → (dX G S70) → (Fr S S70 (p1 kc)) → (Fr S S70 (p1 kc)) → (Fr S42 S70 (p1 kc)) → (1 ≤ i ∧ i ≤ n + 1) → (V (cf (S70.2.1 kc) ro) 0 (i - 1 + mm).toNat = V (lf (S.2.1 ka) po (al (S.2.1 ka) po)) 0 (i - 1).toNat * nu (S.2.1 kb) qo) → (∀ j, 0 ≤ j → j < n + mm → 0 ≤ cf (S70.2.1 kc) ro j ∧ cf (S70.2.1 kc) ro j ≤ 999999999) → (∀ j, i - 1 + mm ≤ j → j < n + mm → cf (S70.2.1 kc) ro j = 0) → (∀ j, j ≤ ro ∨ ro + La + Lb < j → S70.2.1 kc j = S.2.1 kc j) → sW G 294 S70 H → sL G locs → lv_has ls 15 [(9, .int (iv i)), (8, .int (iv sp)), (7, .int (iv mm)), (6, .int (iv n)), (0, .ref (G.2.2.1 + ka)), (1, .int (iv po)), (2, .ref (G.2.2.1 + kb)), (3, .int (iv qo)), (4, .ref (G.2.2.1 + kc)), (5, .int (iv ro))] → W p l e (rmk 3 0 0) s m args below meth c H locs 0 0 (MQ below (sQv G 294 (fun u => dX G u ∧ Fr S u (p1 kc) ∧ (NO (u.2.1 kc) ro (La + Lb) ∧ nv (u.2.1 kc) ro = nv (S.2.1 ka) po * nv (S.2.1 kb) qo ∧ ∀ j, j < ro ∨ ro + La + Lb < j → u.2.1 kc j = S.2.1 kc j))) args s 0 0 (sF G)) (F0 m 70 ls []) := by
            intro fuel
            induction fuel with
            | zero => intro S70 i H locs ls hmeas hI70 hFm70 hFL4270 hL70_ hii hV hl9o hzo hro hW hL hl; exact absurd hmeas (Nat.not_lt_zero _)
            | succ fuel ih_70 =>
              intro S70 i H locs ls hmeas hI70 hFm70 hFL4270 hL70_ hii hV hl9o hzo hro hW hL hl
              refine lv_iload hx hb dX12_multiply_70 (lv_at hl 0 rfl) ?_
              refine lv_iload hx hb dX12_multiply_72 (lv_at hl 3 rfl) ?_
              refine r_icmp_gt (tgt := 179) hx hb ⟨(by omega), (by omega)⟩ ⟨(by omega), (by omega)⟩ dX12_multiply_74 (by decide) (fun c_11 => ?_) (fun c_11 => ?_)
              · refine lv_iload hx hb dX12_multiply_179 (lv_at hl 3 rfl) ?_
                refine lv_iload hx hb dX12_multiply_181 (lv_at hl 2 rfl) ?_
                refine r_iadd hx hb dX12_multiply_183 ?_
                refine lv_istore (lv' := [(9, .int (iv (n + mm))), (8, .int (iv sp)), (7, .int (iv mm)), (6, .int (iv n)), (0, .ref (G.2.2.1 + ka)), (1, .int (iv po)), (2, .ref (G.2.2.1 + kb)), (3, .int (iv qo)), (4, .ref (G.2.2.1 + kc)), (5, .int (iv ro))]) hx hb dX12_multiply_184 hl (by decide) rfl (fun ls hl => ?_)
                have hVV : V (cf (S70.2.1 kc) ro) 0 (n + mm).toNat = nu (S.2.1 ka) po * nu (S.2.1 kb) qo := by have e := hV; rw [show i - 1 = n by omega, show n = al (S.2.1 ka) po by omega, nu_lf (by omega)] at e; rw [show n = al (S.2.1 ka) po by omega]; exact e
                have hpos : 0 < nu (S.2.1 ka) po * nu (S.2.1 kb) qo := Int.mul_pos (nu_pos hA (by omega)) (nu_pos hB (by omega))
                have loop_186 : ∀ (fuel : Nat) (bg : Int) (H : Heap) (locs : List Loc) (ls : Array Slot), bg.toNat < fuel → (0 ≤ bg ∧ bg ≤ n + mm) → (V (cf (S70.2.1 kc) ro) 0 bg.toNat = V (cf (S70.2.1 kc) ro) 0 (n + mm).toNat) → sW G 294 S70 H → sL G locs → lv_has ls 15 [(9, .int (iv bg)), (8, .int (iv sp)), (7, .int (iv mm)), (6, .int (iv n)), (0, .ref (G.2.2.1 + ka)), (1, .int (iv po)), (2, .ref (G.2.2.1 + kb)), (3, .int (iv qo)), (4, .ref (G.2.2.1 + kc)), (5, .int (iv ro))] → W p l e (rmk 3 0 0) s m args below meth c H locs 0 0 (MQ below (sQv G 294 (fun u => dX G u ∧ Fr S u (p1 kc) ∧ (NO (u.2.1 kc) ro (La + Lb) ∧ nv (u.2.1 kc) ro = nv (S.2.1 ka) po * nv (S.2.1 kb) qo ∧ ∀ j, j < ro ∨ ro + La + Lb < j → u.2.1 kc j = S.2.1 kc j))) args s 0 0 (sF G)) (F0 m 186 ls []) := by
                  intro fuel
                  induction fuel with
                  | zero => intro bg H locs ls hmeas hbg hz2 hW hL hl; exact absurd hmeas (Nat.not_lt_zero _)
                  | succ fuel ih_186 =>
                    intro bg H locs ls hmeas hbg hz2 hW hL hl
                    have hbg1 : 1 ≤ bg := by by_cases z : bg = 0; (exfalso; rw [z] at hz2; have e : (0 : Int) = _ := hz2; rw [hVV] at e; omega); omega
                    refine lv_aload hx hb dX12_multiply_186 (lv_at hl 8 rfl) ?_
                    refine lv_iload hx hb dX12_multiply_188 (lv_at hl 9 rfl) ?_
                    refine lv_iload hx hb dX12_multiply_190 (lv_at hl 0 rfl) ?_
                    refine r_iadd hx hb dX12_multiply_192 ?_
                    refine rIald Cx hW (k := kc) hikc.lt hikc.1 (by omega) (by omega) (by omega) dX12_multiply_193 ?_
                    have q_12 : (-2147483648) ≤ S70.2.1 kc (ro + bg) ∧ S70.2.1 kc (ro + bg) ≤ 2147483647 := hI70.aj hikc.ge (ro + bg)
                    refine r_i (b := S70.2.1 kc (ro + bg)) rfl ?_
                    refine r_if_ne (tgt := 203) hx hb ⟨(by omega), (by omega)⟩ dX12_multiply_194 (by decide) (fun c_13 => ?_) (fun c_13 => ?_)
                    · refine lv_aload hx hb dX12_multiply_203 (lv_at hl 8 rfl) ?_
                      refine lv_iload hx hb dX12_multiply_205 (lv_at hl 9 rfl) ?_
                      refine lv_iload hx hb dX12_multiply_207 (lv_at hl 1 rfl) ?_
                      refine lv_iload hx hb dX12_multiply_209 (lv_at hl 0 rfl) ?_
                      refine r_imul hx hb dX12_multiply_211 ?_
                      obtain ⟨hd, ehd⟩ : ∃ z : Int, z = sp * bg := ⟨_, rfl⟩
                      refine r_i (b := hd) ehd.symm ?_
                      have hdm := sgm ehd (by omega)
                      refine rIast Cx hW hL (k := kc) hikc.lt hikc.1 (by omega) (by omega) (by omega) dX12_multiply_212 (fun H locs hW hL => ?_)
                      have F_14 : Fr S (uA S70 kc ro hd) (p1 kc) := hFm70.A p1_0
                      have F_15 : Fr S (uA S70 kc ro hd) (p1 kc) := hFL4270.A p1_0
                      have F_16 : Fr S42 (uA S70 kc ro hd) (p1 kc) := hL70_.A p1_0
                      have i_17 : dX G (uA S70 kc ro hd) := hI70.Aj hikc ⟨by omega, by omega⟩
                      exact sVret Cx hr hlk hW hL ⟨i_17, F_14, ⟨(put_fin (S := S70) (a := kc) (r := ro) (s := sp) (n := bg) (L := La + Lb) (W := nu (S.2.1 ka) po * nu (S.2.1 kb) qo) (hd := hd) ehd (by omega) (by omega) (fun j a b => hl9o j a (by omega)) (fun q => by show S70.2.1 kc (ro + (bg - 1 + 1)) ≠ 0; rw [show bg - 1 + 1 = bg by omega]; omega) (by rw [hz2]; exact hVV)).1, (put_fin (S := S70) (a := kc) (r := ro) (s := sp) (n := bg) (L := La + Lb) (W := nu (S.2.1 ka) po * nu (S.2.1 kb) qo) (hd := hd) ehd (by omega) (by omega) (fun j a b => hl9o j a (by omega)) (fun q => by show S70.2.1 kc (ro + (bg - 1 + 1)) ≠ 0; rw [show bg - 1 + 1 = bg by omega]; omega) (by rw [hz2]; exact hVV)).2.trans (mul_sg (by omega) (by omega) esp), (fun j a => by rw [uA_ne (fun q => by have := q.2; omega)]; exact hro j (by omega))⟩⟩ dX12_multiply_213
                    · refine lv_iinc (v := iv (bg + (-1))) (lv' := [(9, .int (iv (bg + (-1)))), (8, .int (iv sp)), (7, .int (iv mm)), (6, .int (iv n)), (0, .ref (G.2.2.1 + ka)), (1, .int (iv po)), (2, .ref (G.2.2.1 + kb)), (3, .int (iv qo)), (4, .ref (G.2.2.1 + kc)), (5, .int (iv ro))]) hx hb dX12_multiply_197 hl (k := 0) rfl ((Int32.ofInt_add _ _).symm) (by decide) rfl (fun ls hl => ?_)
                      refine lv_goto (tgt := 186) hx hb dX12_multiply_200 (by decide) ?_
                      exact ih_186 (bg + (-1)) _ _ _ (by omega) (by omega) (by rw [show bg + (-1) = bg - 1 by omega]; exact (V_dn (by omega) (by show S70.2.1 kc (ro + (bg - 1 + 1)) = 0; rw [show bg - 1 + 1 = bg by omega]; omega)).trans hz2) hW hL (lv_sub hl [0, 1, 2, 3, 4, 5, 6, 7, 8, 9] rfl)
                exact loop_186 (_ + 1) (n + mm) _ _ _ (Nat.lt_succ_self _) (by omega) rfl hW hL (lv_sub hl [0, 1, 2, 3, 4, 5, 6, 7, 8, 9] rfl)
              · refine lv_lconst (v := jv 0) hx hb dX12_multiply_77 (by decide) ?_
                refine lv_lstore (lv' := [(10, .long (jv 0)), (9, .int (iv i)), (8, .int (iv sp)), (7, .int (iv mm)), (6, .int (iv n)), (0, .ref (G.2.2.1 + ka)), (1, .int (iv po)), (2, .ref (G.2.2.1 + kb)), (3, .int (iv qo)), (4, .ref (G.2.2.1 + kc)), (5, .int (iv ro))]) hx hb dX12_multiply_78 hl (by decide) rfl (fun ls hl => ?_)
                refine lv_iconst (v := iv 1) hx hb dX12_multiply_80 (by decide) ?_
                refine lv_istore (lv' := [(12, .int (iv 1)), (10, .long (jv 0)), (9, .int (iv i)), (8, .int (iv sp)), (7, .int (iv mm)), (6, .int (iv n)), (0, .ref (G.2.2.1 + ka)), (1, .int (iv po)), (2, .ref (G.2.2.1 + kb)), (3, .int (iv qo)), (4, .ref (G.2.2.1 + kc)), (5, .int (iv ro))]) hx hb dX12_multiply_81 hl (by decide) rfl (fun ls hl => ?_)
                have loop_83 : ∀ (fuel : Nat) (S83 : sS) (j : Int) (cy : Int) (H : Heap) (locs : List Loc) (ls : Array Slot), (mm + 1 - j).toNat < fuel → (dX G S83) → (Fr S S83 (p1 kc)) → (Fr S S83 (p1 kc)) → (Fr S42 S83 (p1 kc)) → (Fr S70 S83 (p1 kc)) → (1 ≤ j ∧ j ≤ mm + 1) → (0 ≤ cy ∧ cy ≤ 999999999) → (V (cf (S83.2.1 kc) ro) 0 (i - 1 + (j - 1)).toNat + cy * pw (i - 1 + (j - 1)).toNat = V (cf (S70.2.1 kc) ro) 0 (i - 1 + (j - 1)).toNat + lf (S.2.1 ka) po (al (S.2.1 ka) po) (i - 1) * pw (i - 1).toNat * V (lf (S.2.1 kb) qo (al (S.2.1 kb) qo)) 0 (j - 1).toNat) → (∀ t, i - 1 + (j - 1) ≤ t → cf (S83.2.1 kc) ro t = cf (S70.2.1 kc) ro t) → (∀ t, 0 ≤ t → t < i - 1 + (j - 1) → 0 ≤ cf (S83.2.1 kc) ro t ∧ cf (S83.2.1 kc) ro t ≤ 999999999) → (∀ j, j ≤ ro ∨ ro + La + Lb < j → S83.2.1 kc j = S.2.1 kc j) → sW G 294 S83 H → sL G locs → lv_has ls 15 [(12, .int (iv j)), (10, .long (jv cy)), (9, .int (iv i)), (8, .int (iv sp)), (7, .int (iv mm)), (6, .int (iv n)), (0, .ref (G.2.2.1 + ka)), (1, .int (iv po)), (2, .ref (G.2.2.1 + kb)), (3, .int (iv qo)), (4, .ref (G.2.2.1 + kc)), (5, .int (iv ro))] → W p l e (rmk 3 0 0) s m args below meth c H locs 0 0 (MQ below (sQv G 294 (fun u => dX G u ∧ Fr S u (p1 kc) ∧ (NO (u.2.1 kc) ro (La + Lb) ∧ nv (u.2.1 kc) ro = nv (S.2.1 ka) po * nv (S.2.1 kb) qo ∧ ∀ j, j < ro ∨ ro + La + Lb < j → u.2.1 kc j = S.2.1 kc j))) args s 0 0 (sF G)) (F0 m 83 ls []) := by
                  intro fuel
                  induction fuel with
                  | zero => intro S83 j cy H locs ls hmeas hI83 hFm83 hFL4283 hFL7083 hL83_ hjj hcy hIn hun hl9 hro2 hW hL hl; exact absurd hmeas (Nat.not_lt_zero _)
                  | succ fuel ih_83 =>
                    intro S83 j cy H locs ls hmeas hI83 hFm83 hFL4283 hFL7083 hL83_ hjj hcy hIn hun hl9 hro2 hW hL hl
                    refine lv_iload hx hb dX12_multiply_83 (lv_at hl 0 rfl) ?_
                    refine lv_iload hx hb dX12_multiply_85 (lv_at hl 4 rfl) ?_
                    refine r_icmp_gt (tgt := 159) hx hb ⟨(by omega), (by omega)⟩ ⟨(by omega), (by omega)⟩ dX12_multiply_87 (by decide) (fun c_18 => ?_) (fun c_18 => ?_)
                    · refine lv_aload hx hb dX12_multiply_159 (lv_at hl 10 rfl) ?_
                      refine lv_iload hx hb dX12_multiply_161 (lv_at hl 11 rfl) ?_
                      refine lv_iload hx hb dX12_multiply_163 (lv_at hl 2 rfl) ?_
                      refine r_iadd hx hb dX12_multiply_165 ?_
                      refine lv_iload hx hb dX12_multiply_166 (lv_at hl 4 rfl) ?_
                      refine r_iadd hx hb dX12_multiply_168 ?_
                      refine lv_lload hx hb dX12_multiply_169 (lv_at hl 1 rfl) ?_
                      refine r_l2i hx hb dX12_multiply_171 ?_
                      refine rIast Cx hW hL (k := kc) hikc.lt hikc.1 (by omega) (by omega) (by omega) dX12_multiply_172 (fun H locs hW hL => ?_)
                      have F_19 : Fr S (uA S83 kc ((ro + i) + mm) cy) (p1 kc) := hFm83.A p1_0
                      have F_20 : Fr S (uA S83 kc ((ro + i) + mm) cy) (p1 kc) := hFL4283.A p1_0
                      have F_21 : Fr S42 (uA S83 kc ((ro + i) + mm) cy) (p1 kc) := hFL7083.A p1_0
                      have F_22 : Fr S70 (uA S83 kc ((ro + i) + mm) cy) (p1 kc) := hL83_.A p1_0
                      have i_23 : dX G (uA S83 kc ((ro + i) + mm) cy) := hI83.Aj hikc ⟨by omega, by omega⟩
                      refine lv_iinc (v := iv (i + 1)) (lv' := [(9, .int (iv (i + 1))), (12, .int (iv j)), (10, .long (jv cy)), (8, .int (iv sp)), (7, .int (iv mm)), (6, .int (iv n)), (0, .ref (G.2.2.1 + ka)), (1, .int (iv po)), (2, .ref (G.2.2.1 + kb)), (3, .int (iv qo)), (4, .ref (G.2.2.1 + kc)), (5, .int (iv ro))]) hx hb dX12_multiply_173 hl (k := 2) rfl ((Int32.ofInt_add _ _).symm) (by decide) rfl (fun ls hl => ?_)
                      refine lv_goto (tgt := 70) hx hb dX12_multiply_176 (by decide) ?_
                      exact ih_70 (uA S83 kc ((ro + i) + mm) cy) (i + 1) _ _ _ (by omega) i_23 F_19 F_20 F_21 (by omega) (by have e := mulO (c := cf (S83.2.1 kc) ro) (c0 := cf (S70.2.1 kc) ro) (LA := lf (S.2.1 ka) po (al (S.2.1 ka) po)) (e := i - 1) (m := mm) (cy := cy) (nb := nu (S.2.1 kb) qo) (c' := cf ((uA S83 kc (ro + i + mm) cy).2.1 kc) ro) (by omega) (by omega) (by have e := hIn; rw [show j - 1 = mm by omega, nu_lf (by omega)] at e; exact e) hV (fun t t0 t1 => cf_v (by omega)) (cf_u (by omega)); rw [show i - 1 + 1 = i + 1 - 1 by omega] at e; exact e) (fun t a b => if e : t = i - 1 + mm then (by rw [cf_u (by omega)]; omega) else (by rw [cf_v (by omega)]; exact if e2 : t < i - 1 + mm then hl9 t a (by omega) else (by rw [hun t (by omega)]; exact hl9o t a b))) (fun t a b => by rw [cf_v (by omega), hun t (by omega)]; exact hzo t (by omega) b) (fun j a => by rw [uA_ne (fun q => by have := q.2; omega)]; exact hro2 j (by omega)) hW hL (lv_sub hl [0, 3, 4, 5, 6, 7, 8, 9, 10, 11] rfl)
                    · have hai : 0 ≤ S.2.1 ka (po + i) ∧ S.2.1 ka (po + i) ≤ 999999999 := hA.2.1 _ (by omega) (by omega)
                      have hbj : 0 ≤ S.2.1 kb (qo + j) ∧ S.2.1 kb (qo + j) ≤ 999999999 := hB.2.1 _ (by omega) (by omega)
                      have hcx : S83.2.1 kc (ro + i + j - 1) = cf (S70.2.1 kc) ro (i - 1 + (j - 1)) := by have e := hun (i - 1 + (j - 1)) (by omega); rw [← e]; exact congrArg (S83.2.1 kc) (by omega)
                      have hcr := hl9o (i - 1 + (j - 1)) (by omega) (by omega)
                      refine lv_aload_n hx hb dX12_multiply_90 rfl (lv_at hl 6 rfl) ?_
                      refine lv_iload_n hx hb dX12_multiply_91 rfl (lv_at hl 7 rfl) ?_
                      refine lv_iload hx hb dX12_multiply_92 (lv_at hl 2 rfl) ?_
                      refine r_iadd hx hb dX12_multiply_94 ?_
                      refine rIald Cx hW (k := ka) hika.lt hika.1 (by omega) (by omega) (by omega) dX12_multiply_95 ?_
                      have q_24 : (-2147483648) ≤ S.2.1 ka (po + i) ∧ S.2.1 ka (po + i) ≤ 2147483647 := hI.aj hika.ge (po + i)
                      refine r_i (b := S.2.1 ka (po + i)) (((hL83_ ka (p1_no (neS nkcka))).2.1 (po + i)).trans (((hL70_ ka (p1_no (neS nkcka))).2.1 (po + i)).trans ((hL42_ ka (p1_no (neS nkcka))).2.1 (po + i)))) ?_
                      refine r_i2l hx hb ⟨(by omega), (by omega)⟩ dX12_multiply_96 ?_
                      refine lv_aload_n hx hb dX12_multiply_97 rfl (lv_at hl 8 rfl) ?_
                      refine lv_iload_n hx hb dX12_multiply_98 rfl (lv_at hl 9 rfl) ?_
                      refine lv_iload hx hb dX12_multiply_99 (lv_at hl 0 rfl) ?_
                      refine r_iadd hx hb dX12_multiply_101 ?_
                      refine rIald Cx hW (k := kb) hikb.lt hikb.1 (by omega) (by omega) (by omega) dX12_multiply_102 ?_
                      have q_25 : (-2147483648) ≤ S.2.1 kb (qo + j) ∧ S.2.1 kb (qo + j) ≤ 2147483647 := hI.aj hikb.ge (qo + j)
                      refine r_i (b := S.2.1 kb (qo + j)) (((hL83_ kb (p1_no (neS nkckb))).2.1 (qo + j)).trans (((hL70_ kb (p1_no (neS nkckb))).2.1 (qo + j)).trans ((hL42_ kb (p1_no (neS nkckb))).2.1 (qo + j)))) ?_
                      refine r_i2l hx hb ⟨(by omega), (by omega)⟩ dX12_multiply_103 ?_
                      refine r_lmul hx hb dX12_multiply_104 ?_
                      obtain ⟨pr, epr⟩ : ∃ z : Int, z = (S.2.1 ka (po + i)) * (S.2.1 kb (qo + j)) := ⟨_, rfl⟩
                      refine r_j (b := pr) epr.symm ?_
                      have hpr : 0 ≤ pr ∧ pr ≤ 999999998000000001 := by rw [epr]; exact mul9 hai hbj
                      refine lv_aload hx hb dX12_multiply_105 (lv_at hl 10 rfl) ?_
                      refine lv_iload hx hb dX12_multiply_107 (lv_at hl 11 rfl) ?_
                      refine lv_iload hx hb dX12_multiply_109 (lv_at hl 2 rfl) ?_
                      refine r_iadd hx hb dX12_multiply_111 ?_
                      refine lv_iload hx hb dX12_multiply_112 (lv_at hl 0 rfl) ?_
                      refine r_iadd hx hb dX12_multiply_114 ?_
                      refine lv_iconst (v := iv 1) hx hb dX12_multiply_115 (by decide) ?_
                      refine r_isub hx hb dX12_multiply_116 ?_
                      refine rIald Cx hW (k := kc) hikc.lt hikc.1 (by omega) (by omega) (by omega) dX12_multiply_117 ?_
                      have q_26 : (-2147483648) ≤ S83.2.1 kc (((ro + i) + j) - 1) ∧ S83.2.1 kc (((ro + i) + j) - 1) ≤ 2147483647 := hI83.aj hikc.ge (((ro + i) + j) - 1)
                      refine r_i (b := S83.2.1 kc (((ro + i) + j) - 1)) rfl ?_
                      refine r_i2l hx hb ⟨(by omega), (by omega)⟩ dX12_multiply_118 ?_
                      refine r_ladd hx hb dX12_multiply_119 ?_
                      refine lv_lload hx hb dX12_multiply_120 (lv_at hl 1 rfl) ?_
                      refine r_ladd hx hb dX12_multiply_122 ?_
                      obtain ⟨xs, exs⟩ : ∃ z : Int, z = (pr + (S83.2.1 kc (((ro + i) + j) - 1))) + cy := ⟨_, rfl⟩
                      refine r_j (b := xs) exs.symm ?_
                      refine lv_lstore (lv' := [(13, .long (jv xs)), (12, .int (iv j)), (10, .long (jv cy)), (9, .int (iv i)), (8, .int (iv sp)), (7, .int (iv mm)), (6, .int (iv n)), (0, .ref (G.2.2.1 + ka)), (1, .int (iv po)), (2, .ref (G.2.2.1 + kb)), (3, .int (iv qo)), (4, .ref (G.2.2.1 + kc)), (5, .int (iv ro))]) hx hb dX12_multiply_123 hl (by decide) rfl (fun ls hl => ?_)
                      refine lv_aload hx hb dX12_multiply_125 (lv_at hl 11 rfl) ?_
                      refine lv_iload hx hb dX12_multiply_127 (lv_at hl 12 rfl) ?_
                      refine lv_iload hx hb dX12_multiply_129 (lv_at hl 3 rfl) ?_
                      refine r_iadd hx hb dX12_multiply_131 ?_
                      refine lv_iload hx hb dX12_multiply_132 (lv_at hl 1 rfl) ?_
                      refine r_iadd hx hb dX12_multiply_134 ?_
                      refine lv_iconst (v := iv 1) hx hb dX12_multiply_135 (by decide) ?_
                      refine r_isub hx hb dX12_multiply_136 ?_
                      refine lv_lload hx hb dX12_multiply_137 (lv_at hl 0 rfl) ?_
                      refine lv_ldc2 hx hb hown (hts _ w_2464) dX12_multiply_139 ?_
                      refine r_lrem hx hb ⟨(by omega), (by omega)⟩ ⟨(by omega), (by omega)⟩ (by omega) dX12_multiply_142 ?_
                      refine r_j (b := xs % 1000000000) (Int.tmod_eq_emod_of_nonneg (by omega)) ?_
                      refine r_l2i hx hb dX12_multiply_143 ?_
                      refine rIast Cx hW hL (k := kc) hikc.lt hikc.1 (by omega) (by omega) (by omega) dX12_multiply_144 (fun H locs hW hL => ?_)
                      have F_27 : Fr S (uA S83 kc (((ro + i) + j) - 1) (xs % 1000000000)) (p1 kc) := hFm83.A p1_0
                      have F_28 : Fr S (uA S83 kc (((ro + i) + j) - 1) (xs % 1000000000)) (p1 kc) := hFL4283.A p1_0
                      have F_29 : Fr S42 (uA S83 kc (((ro + i) + j) - 1) (xs % 1000000000)) (p1 kc) := hFL7083.A p1_0
                      have F_30 : Fr S70 (uA S83 kc (((ro + i) + j) - 1) (xs % 1000000000)) (p1 kc) := hL83_.A p1_0
                      have i_31 : dX G (uA S83 kc (((ro + i) + j) - 1) (xs % 1000000000)) := hI83.Aj hikc ⟨by omega, by omega⟩
                      refine lv_lload hx hb dX12_multiply_145 (lv_at hl 0 rfl) ?_
                      refine lv_ldc2 hx hb hown (hts _ w_2464) dX12_multiply_147 ?_
                      refine r_ldiv hx hb ⟨(by omega), (by omega)⟩ ⟨(by omega), (by omega)⟩ (by omega) dX12_multiply_150 ?_
                      refine r_j (b := xs / 1000000000) (Int.tdiv_eq_ediv_of_nonneg (by omega)) ?_
                      refine lv_lstore (lv' := [(10, .long (jv (xs / 1000000000))), (13, .long (jv xs)), (12, .int (iv j)), (9, .int (iv i)), (8, .int (iv sp)), (7, .int (iv mm)), (6, .int (iv n)), (0, .ref (G.2.2.1 + ka)), (1, .int (iv po)), (2, .ref (G.2.2.1 + kb)), (3, .int (iv qo)), (4, .ref (G.2.2.1 + kc)), (5, .int (iv ro))]) hx hb dX12_multiply_151 hl (by decide) rfl (fun ls hl => ?_)
                      refine lv_iinc (v := iv (j + 1)) (lv' := [(12, .int (iv (j + 1))), (10, .long (jv (xs / 1000000000))), (13, .long (jv xs)), (9, .int (iv i)), (8, .int (iv sp)), (7, .int (iv mm)), (6, .int (iv n)), (0, .ref (G.2.2.1 + ka)), (1, .int (iv po)), (2, .ref (G.2.2.1 + kb)), (3, .int (iv qo)), (4, .ref (G.2.2.1 + kc)), (5, .int (iv ro))]) hx hb dX12_multiply_153 hl (k := 2) rfl ((Int32.ofInt_add _ _).symm) (by decide) rfl (fun ls hl => ?_)
                      refine lv_goto (tgt := 83) hx hb dX12_multiply_156 (by decide) ?_
                      exact ih_83 (uA S83 kc (((ro + i) + j) - 1) (xs % 1000000000)) (j + 1) (xs / 1000000000) _ _ _ (by omega) i_31 F_27 F_28 F_29 F_30 (by omega) (by omega) (by have e := mulI (c := cf (S83.2.1 kc) ro) (c0 := cf (S70.2.1 kc) ro) (B := lf (S.2.1 kb) qo (al (S.2.1 kb) qo)) (e := i - 1) (j := j - 1) (A := lf (S.2.1 ka) po (al (S.2.1 ka) po) (i - 1)) (cy := cy) (l := xs % 1000000000) (x := xs / 1000000000) (c' := cf ((uA S83 kc (ro + i + j - 1) (xs % 1000000000)).2.1 kc) ro) (by omega) (by omega) hIn (fun t t0 t1 => cf_v (by omega)) (cf_u (by omega)) (by rw [lf_at (by omega), lf_at (by omega), ← epr]; omega); rw [show j - 1 + 1 = j + 1 - 1 by omega] at e; exact e) (fun t a => by rw [cf_v (by omega)]; exact hun t (by omega)) (fun t a b => if e : t = i - 1 + (j - 1) then (by rw [cf_u (by omega)]; omega) else (by rw [cf_v (by omega)]; exact hl9 t a (by omega))) (fun j a => by rw [uA_ne (fun q => by have := q.2; omega)]; exact hro2 j (by omega)) hW hL (lv_sub hl [0, 1, 3, 4, 5, 6, 7, 8, 9, 10, 11, 12] rfl)
                exact loop_83 (_ + 1) S70 1 0 _ _ _ (Nat.lt_succ_self _) hI70 hFm70 hFL4270 hL70_ Fr.rf (by omega) (by omega) (by rw [show i - 1 + ((1 : Int) - 1) = i - 1 by omega]; show _ + 0 * _ = _ + _ * (0 : Int); omega) (fun t _ => rfl) (fun t a b => hl9o t a (by omega)) hro hW hL (lv_sub hl [0, 1, 2, 3, 4, 5, 6, 7, 8, 9, 10, 11] rfl)
          exact loop_70 (_ + 1) S42 1 _ _ _ (Nat.lt_succ_self _) hI42 hFm42 hL42_ Fr.rf (by omega) (by rw [V_zero (fun j j0 j1 => hz j j0 (by omega))]; show (0 : Int) = 0 * _; omega) (fun j a b => by rw [hz j a (by omega)]; omega) (fun j a b => hz j (by omega) (by omega)) hro hW hL (lv_sub hl [0, 1, 2, 3, 4, 5, 6, 7, 8, 9] rfl)
        · refine lv_aload hx hb dX12_multiply_52 (lv_at hl 8 rfl) ?_
          refine lv_iload hx hb dX12_multiply_54 (lv_at hl 9 rfl) ?_
          refine lv_iload hx hb dX12_multiply_56 (lv_at hl 0 rfl) ?_
          refine r_iadd hx hb dX12_multiply_58 ?_
          refine lv_iconst (v := iv 0) hx hb dX12_multiply_59 (by decide) ?_
          refine rIast Cx hW hL (k := kc) hikc.lt hikc.1 (by omega) (by omega) (by omega) dX12_multiply_60 (fun H locs hW hL => ?_)
          have F_32 : Fr S (uA S42 kc (ro + k) 0) (p1 kc) := hFm42.A p1_0
          have F_33 : Fr S (uA S42 kc (ro + k) 0) (p1 kc) := hL42_.A p1_0
          have i_34 : dX G (uA S42 kc (ro + k) 0) := hI42.Aj hikc ⟨by omega, by omega⟩
          refine lv_iinc (v := iv (k + 1)) (lv' := [(9, .int (iv (k + 1))), (8, .int (iv sp)), (7, .int (iv mm)), (6, .int (iv n)), (0, .ref (G.2.2.1 + ka)), (1, .int (iv po)), (2, .ref (G.2.2.1 + kb)), (3, .int (iv qo)), (4, .ref (G.2.2.1 + kc)), (5, .int (iv ro))]) hx hb dX12_multiply_61 hl (k := 0) rfl ((Int32.ofInt_add _ _).symm) (by decide) rfl (fun ls hl => ?_)
          refine lv_goto (tgt := 42) hx hb dX12_multiply_64 (by decide) ?_
          exact ih_42 (uA S42 kc (ro + k) 0) (k + 1) _ _ _ (by omega) i_34 F_32 F_33 (by omega) (fun j a b => if e : j = k - 1 then (by rw [e, cf_on1]) else (by rw [cf_ne1 e]; exact hz j a (by omega))) (fun j a => by rw [uA_ne (fun q => by have := q.2; omega)]; exact hro j (by omega)) hW hL (lv_sub hl [0, 1, 2, 3, 4, 5, 6, 7, 8, 9] rfl)
    exact loop_42 (_ + 1) S 1 _ _ _ (Nat.lt_succ_self _) hI (Fr.rf : Fr S S (p1 kc)) Fr.rf (by omega) (fun j a b => absurd b (by omega)) (fun j _ => rfl) hW hL (lv_sub hl [0, 1, 2, 3, 4, 5, 6, 7, 8, 9] rfl)
  · refine lv_aload hx hb dX12_multiply_32 (lv_at hl 7 rfl) ?_
    refine lv_iload hx hb dX12_multiply_34 (lv_at hl 8 rfl) ?_
    refine lv_iconst (v := iv 0) hx hb dX12_multiply_36 (by decide) ?_
    refine rIast Cx hW hL (k := kc) hikc.lt hikc.1 (by omega) (by omega) (by omega) dX12_multiply_37 (fun H locs hW hL => ?_)
    have F_35 : Fr S (uA S kc ro 0) (p1 kc) := (Fr.rf : Fr S S (p1 kc)).A p1_0
    have i_36 : dX G (uA S kc ro 0) := hI.Aj hikc ⟨by omega, by omega⟩
    exact sVret Cx hr hlk hW hL ⟨i_36, F_35, ⟨(NO_0 (by omega)).1, (by rw [(NO_0 (by omega)).2, ← mul_sg (sa := sa) (sb := sb) (sp := sp) (by omega) (by omega) esp, show sp = 0 by omega]; omega), (fun j a => uA_ne (fun q => by have := q.2; omega))⟩⟩ dX12_multiply_38
